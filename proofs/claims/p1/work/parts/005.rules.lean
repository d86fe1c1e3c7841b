/-! that the code does it -/
abbrev hd_cat (st : List Value) : Nat := (st.map fun v => v.category).sum
def hd_XI (κ : hd_Ctx) (pc pc' k : Nat) (x : hd_xI) : Prop := ∀ ρ st S post, hd_cat st ≤ k → x ρ S post → (∀ v S', post v S' → hd_At κ pc' ρ (.int v :: st) S') → hd_At κ pc ρ st S
def hd_XJ (κ : hd_Ctx) (pc pc' k : Nat) (x : hd_xJ) : Prop := ∀ ρ st S post, hd_cat st ≤ k → x ρ S post → (∀ v S', post v S' → hd_At κ pc' ρ (.long v :: st) S') → hd_At κ pc ρ st S
def hd_XR (κ : hd_Ctx) (pc pc' k : Nat) (x : hd_xR) : Prop := ∀ ρ st S post, hd_cat st ≤ k → x ρ S post → (∀ v S', post v S' → hd_At κ pc' ρ (.ref (hd_ad κ v) :: st) S') → hd_At κ pc ρ st S
def hd_XC (κ : hd_Ctx) (pc pT pF k : Nat) (x : hd_xC) : Prop := ∀ ρ st S post, hd_cat st ≤ k → x ρ S post → (∀ S', post true S' → hd_At κ pT ρ st S') → (∀ S', post false S' → hd_At κ pF ρ st S') → hd_At κ pc ρ st S
def hd_XV (κ : hd_Ctx) (pc pc' k n : Nat) (x : hd_xV) : Prop := ∀ ρ st S post, hd_cat st ≤ k → x ρ S post → (∀ as S', post as S' → hd_cat (as.map (hd_val (hd_ad κ))) ≤ n → hd_At κ pc' ρ ((as.map (hd_val (hd_ad κ))).reverse ++ st) S') → hd_At κ pc ρ st S
def hd_XN (κ : hd_Ctx) (pc pc' k : Nat) (x : hd_xN) : Prop := ∀ ρ st S post, hd_cat st ≤ k → x ρ S post → (∀ v S', post v S' → hd_At κ pc' ρ ((v.map (hd_val (hd_ad κ))).toList ++ st) S') → hd_At κ pc ρ st S
def hd_XS (κ : hd_Ctx) (pc : Nat) (es : List Nat) (x : hd_xS) : Prop := ∀ ρ S nrm ret, x ρ S nrm ret → (∀ q ∈ es, ∀ ρ' S', nrm ρ' S' → hd_At κ q ρ' [] S') → (∀ v S', ret v S' → hd_PM κ v S') → hd_At κ pc ρ [] S
theorem hd_cat_app (l : List Value) (v : Value) : hd_cat (l ++ [v]) = hd_cat l + v.category := by simp [hd_cat]
theorem hd_c1 {v : Value} {st : List Value} {k : Nat} (hv : v.category = 1) (h : hd_cat st ≤ k) : hd_cat (v :: st) ≤ k + 1 := by
  simp only [hd_cat, List.map_cons, List.sum_cons] at h ⊢
  omega
theorem hd_c2 {v : Value} {st : List Value} {k : Nat} (h : hd_cat st ≤ k) : hd_cat (v :: st) ≤ k + 2 := by
  have hv := lv_cat v
  simp only [hd_cat, List.map_cons, List.sum_cons] at h ⊢
  omega
section HDRULES
variable {κ : hd_Ctx} {cc : ByteArray} {own : String} {Ts : List Cond} {nL : Nat} {sh : List hd_K} {cl : List vw_C} {lv : Nat} {pc p1 p2 p3 p4 p5 k n : Nat}

theorem hd_iconst (C : hd_Ok κ cc own Ts nL sh cl lv) {n : Int} {v : Int32} (d : decode cc pc = .ok (.iconst n, 1)) (hv : Int32.ofInt n = v) : hd_XI κ pc (pc + 1) k (hd_iK v) := by
  intro ρ st S post hk hx kk
  exact hd_t_iconst C d hv (kk _ _ hx)
theorem hd_bipush (C : hd_Ok κ cc own Ts nL sh cl lv) {n : Int} {v : Int32} (d : decode cc pc = .ok (.bipush n, 2)) (hv : (Int8.ofInt n).toInt32 = v) : hd_XI κ pc (pc + 2) k (hd_iK v) := by
  intro ρ st S post hk hx kk
  exact hd_t_bipush C d hv (kk _ _ hx)
theorem hd_sipush (C : hd_Ok κ cc own Ts nL sh cl lv) {n : Int} {v : Int32} (d : decode cc pc = .ok (.sipush n, 3)) (hv : (Int16.ofInt n).toInt32 = v) : hd_XI κ pc (pc + 3) k (hd_iK v) := by
  intro ρ st S post hk hx kk
  exact hd_t_sipush C d hv (kk _ _ hx)
theorem hd_ldc (C : hd_Ok κ cc own Ts nL sh cl lv) {i : Nat} {v : Int32} (hw : Cond.constant own i v ∈ Ts) (d : decode cc pc = .ok (.ldc i, 2)) : hd_XI κ pc (pc + 2) k (hd_iK v) := by
  intro ρ st S post hk hx kk
  exact hd_t_ldc C hw d (kk _ _ hx)
theorem hd_ldcw (C : hd_Ok κ cc own Ts nL sh cl lv) {i : Nat} {v : Int32} (hw : Cond.constant own i v ∈ Ts) (d : decode cc pc = .ok (.ldc_w i, 3)) : hd_XI κ pc (pc + 3) k (hd_iK v) := by
  intro ρ st S post hk hx kk
  exact hd_t_ldcw C hw d (kk _ _ hx)
theorem hd_lconst (C : hd_Ok κ cc own Ts nL sh cl lv) {n : Fin 2} {v : Int64} (d : decode cc pc = .ok (.lconst n, 1)) (hv : Int64.ofNat (n : Nat) = v) : hd_XJ κ pc (pc + 1) k (hd_jK v) := by
  intro ρ st S post hk hx kk
  exact hd_t_lconst C d hv (kk _ _ hx)
theorem hd_ldc2 (C : hd_Ok κ cc own Ts nL sh cl lv) {i : Nat} {v : Int64} (hw : Cond.constantLong own i v ∈ Ts) (d : decode cc pc = .ok (.ldc2_w i, 3)) : hd_XJ κ pc (pc + 3) k (hd_jK v) := by
  intro ρ st S post hk hx kk
  exact hd_t_ldc2 C hw d (kk _ _ hx)
theorem hd_iload_n (C : hd_Ok κ cc own Ts nL sh cl lv) {kk0 : Fin 4} (d : decode cc pc = .ok (.iload_n kk0, 1)) : hd_XI κ pc (pc + 1) k (hd_iL (kk0 : Nat)) := by
  intro ρ st S post hk hx kk
  unfold hd_iL at hx
  split at hx
  · next x h0 => exact hd_t_iload_n C d rfl h0 (kk _ _ hx)
  · exact hx.elim
theorem hd_iload (C : hd_Ok κ cc own Ts nL sh cl lv) {i : Nat} (d : decode cc pc = .ok (.iload i, 2)) : hd_XI κ pc (pc + 2) k (hd_iL i) := by
  intro ρ st S post hk hx kk
  unfold hd_iL at hx
  split at hx
  · next x h0 => exact hd_t_iload C d  h0 (kk _ _ hx)
  · exact hx.elim
theorem hd_lload_n (C : hd_Ok κ cc own Ts nL sh cl lv) {kk0 : Fin 4} (d : decode cc pc = .ok (.lload_n kk0, 1)) : hd_XJ κ pc (pc + 1) k (hd_jL (kk0 : Nat)) := by
  intro ρ st S post hk hx kk
  unfold hd_jL at hx
  split at hx
  · next x h0 => exact hd_t_lload_n C d rfl h0 (kk _ _ hx)
  · exact hx.elim
theorem hd_lload (C : hd_Ok κ cc own Ts nL sh cl lv) {i : Nat} (d : decode cc pc = .ok (.lload i, 2)) : hd_XJ κ pc (pc + 2) k (hd_jL i) := by
  intro ρ st S post hk hx kk
  unfold hd_jL at hx
  split at hx
  · next x h0 => exact hd_t_lload C d  h0 (kk _ _ hx)
  · exact hx.elim
theorem hd_aload_n (C : hd_Ok κ cc own Ts nL sh cl lv) {kk0 : Fin 4} (d : decode cc pc = .ok (.aload_n kk0, 1)) : hd_XR κ pc (pc + 1) k (hd_rL (kk0 : Nat)) := by
  intro ρ st S post hk hx kk
  unfold hd_rL at hx
  split at hx
  · next x h0 => exact hd_t_aload_n C d rfl h0 (kk _ _ hx)
  · exact hx.elim
theorem hd_aload (C : hd_Ok κ cc own Ts nL sh cl lv) {i : Nat} (d : decode cc pc = .ok (.aload i, 2)) : hd_XR κ pc (pc + 2) k (hd_rL i) := by
  intro ρ st S post hk hx kk
  unfold hd_rL at hx
  split at hx
  · next x h0 => exact hd_t_aload C d  h0 (kk _ _ hx)
  · exact hx.elim
theorem hd_ineg (C : hd_Ok κ cc own Ts nL sh cl lv) {a : hd_xI} (ha : hd_XI κ pc p1 k a) (d : decode cc p1 = .ok (.ineg, 1)) : hd_XI κ pc (p1 + 1) k (hd_iU (fun x => -x) a) := by
  intro ρ st S post hk hx kk
  exact ha ρ st S _ hk hx (fun x S h => hd_t_ineg C d (kk _ _ h))
theorem hd_iadd (C : hd_Ok κ cc own Ts nL sh cl lv) {a b : hd_xI} (ha : hd_XI κ pc p1 k a) (hb : hd_XI κ p1 p2 (k + 1) b) (d : decode cc p2 = .ok (.iadd, 1)) : hd_XI κ pc (p2 + 1) k (hd_iB (fun x y => x + y) a b) := by
  intro ρ st S post hk hx kk
  exact ha ρ st S _ hk hx (fun x S h => hb ρ _ S _ (hd_c1 rfl hk) h (fun y S h => hd_t_iadd C d (kk _ _ h)))
theorem hd_isub (C : hd_Ok κ cc own Ts nL sh cl lv) {a b : hd_xI} (ha : hd_XI κ pc p1 k a) (hb : hd_XI κ p1 p2 (k + 1) b) (d : decode cc p2 = .ok (.isub, 1)) : hd_XI κ pc (p2 + 1) k (hd_iB (fun x y => x - y) a b) := by
  intro ρ st S post hk hx kk
  exact ha ρ st S _ hk hx (fun x S h => hb ρ _ S _ (hd_c1 rfl hk) h (fun y S h => hd_t_isub C d (kk _ _ h)))
theorem hd_imul (C : hd_Ok κ cc own Ts nL sh cl lv) {a b : hd_xI} (ha : hd_XI κ pc p1 k a) (hb : hd_XI κ p1 p2 (k + 1) b) (d : decode cc p2 = .ok (.imul, 1)) : hd_XI κ pc (p2 + 1) k (hd_iB (fun x y => x * y) a b) := by
  intro ρ st S post hk hx kk
  exact ha ρ st S _ hk hx (fun x S h => hb ρ _ S _ (hd_c1 rfl hk) h (fun y S h => hd_t_imul C d (kk _ _ h)))
theorem hd_iand (C : hd_Ok κ cc own Ts nL sh cl lv) {a b : hd_xI} (ha : hd_XI κ pc p1 k a) (hb : hd_XI κ p1 p2 (k + 1) b) (d : decode cc p2 = .ok (.iand, 1)) : hd_XI κ pc (p2 + 1) k (hd_iB (fun x y => x &&& y) a b) := by
  intro ρ st S post hk hx kk
  exact ha ρ st S _ hk hx (fun x S h => hb ρ _ S _ (hd_c1 rfl hk) h (fun y S h => hd_t_iand C d (kk _ _ h)))
theorem hd_ior (C : hd_Ok κ cc own Ts nL sh cl lv) {a b : hd_xI} (ha : hd_XI κ pc p1 k a) (hb : hd_XI κ p1 p2 (k + 1) b) (d : decode cc p2 = .ok (.ior, 1)) : hd_XI κ pc (p2 + 1) k (hd_iB (fun x y => x ||| y) a b) := by
  intro ρ st S post hk hx kk
  exact ha ρ st S _ hk hx (fun x S h => hb ρ _ S _ (hd_c1 rfl hk) h (fun y S h => hd_t_ior C d (kk _ _ h)))
theorem hd_ixor (C : hd_Ok κ cc own Ts nL sh cl lv) {a b : hd_xI} (ha : hd_XI κ pc p1 k a) (hb : hd_XI κ p1 p2 (k + 1) b) (d : decode cc p2 = .ok (.ixor, 1)) : hd_XI κ pc (p2 + 1) k (hd_iB (fun x y => x ^^^ y) a b) := by
  intro ρ st S post hk hx kk
  exact ha ρ st S _ hk hx (fun x S h => hb ρ _ S _ (hd_c1 rfl hk) h (fun y S h => hd_t_ixor C d (kk _ _ h)))
theorem hd_ishl (C : hd_Ok κ cc own Ts nL sh cl lv) {a b : hd_xI} (ha : hd_XI κ pc p1 k a) (hb : hd_XI κ p1 p2 (k + 1) b) (d : decode cc p2 = .ok (.ishl, 1)) : hd_XI κ pc (p2 + 1) k (hd_iB (fun x y => x <<< (y &&& 31)) a b) := by
  intro ρ st S post hk hx kk
  exact ha ρ st S _ hk hx (fun x S h => hb ρ _ S _ (hd_c1 rfl hk) h (fun y S h => hd_t_ishl C d (kk _ _ h)))
theorem hd_ishr (C : hd_Ok κ cc own Ts nL sh cl lv) {a b : hd_xI} (ha : hd_XI κ pc p1 k a) (hb : hd_XI κ p1 p2 (k + 1) b) (d : decode cc p2 = .ok (.ishr, 1)) : hd_XI κ pc (p2 + 1) k (hd_iB (fun x y => x >>> (y &&& 31)) a b) := by
  intro ρ st S post hk hx kk
  exact ha ρ st S _ hk hx (fun x S h => hb ρ _ S _ (hd_c1 rfl hk) h (fun y S h => hd_t_ishr C d (kk _ _ h)))
theorem hd_iushr (C : hd_Ok κ cc own Ts nL sh cl lv) {a b : hd_xI} (ha : hd_XI κ pc p1 k a) (hb : hd_XI κ p1 p2 (k + 1) b) (d : decode cc p2 = .ok (.iushr, 1)) : hd_XI κ pc (p2 + 1) k (hd_iB (fun x y => (x.toUInt32 >>> (y.toUInt32 &&& Int32.toUInt32 31)).toInt32) a b) := by
  intro ρ st S post hk hx kk
  exact ha ρ st S _ hk hx (fun x S h => hb ρ _ S _ (hd_c1 rfl hk) h (fun y S h => hd_t_iushr C d (kk _ _ h)))
theorem hd_idiv (C : hd_Ok κ cc own Ts nL sh cl lv) {a b : hd_xI} (ha : hd_XI κ pc p1 k a) (hb : hd_XI κ p1 p2 (k + 1) b) (d : decode cc p2 = .ok (.idiv, 1)) : hd_XI κ pc (p2 + 1) k (hd_iD (fun x y => x / y) a b) := by
  intro ρ st S post hk hx kk
  exact ha ρ st S _ hk hx (fun x S h => hb ρ _ S _ (hd_c1 rfl hk) h (fun y S h => hd_t_idiv C d h.1 (kk _ _ h.2)))
theorem hd_irem (C : hd_Ok κ cc own Ts nL sh cl lv) {a b : hd_xI} (ha : hd_XI κ pc p1 k a) (hb : hd_XI κ p1 p2 (k + 1) b) (d : decode cc p2 = .ok (.irem, 1)) : hd_XI κ pc (p2 + 1) k (hd_iD (fun x y => x - x / y * y) a b) := by
  intro ρ st S post hk hx kk
  exact ha ρ st S _ hk hx (fun x S h => hb ρ _ S _ (hd_c1 rfl hk) h (fun y S h => hd_t_irem C d h.1 (kk _ _ h.2)))
theorem hd_ladd (C : hd_Ok κ cc own Ts nL sh cl lv) {a b : hd_xJ} (ha : hd_XJ κ pc p1 k a) (hb : hd_XJ κ p1 p2 (k + 2) b) (d : decode cc p2 = .ok (.ladd, 1)) : hd_XJ κ pc (p2 + 1) k (hd_jB (fun x y => x + y) a b) := by
  intro ρ st S post hk hx kk
  exact ha ρ st S _ hk hx (fun x S h => hb ρ _ S _ (hd_c2 hk) h (fun y S h => hd_t_ladd C d (kk _ _ h)))
theorem hd_lmul (C : hd_Ok κ cc own Ts nL sh cl lv) {a b : hd_xJ} (ha : hd_XJ κ pc p1 k a) (hb : hd_XJ κ p1 p2 (k + 2) b) (d : decode cc p2 = .ok (.lmul, 1)) : hd_XJ κ pc (p2 + 1) k (hd_jB (fun x y => x * y) a b) := by
  intro ρ st S post hk hx kk
  exact ha ρ st S _ hk hx (fun x S h => hb ρ _ S _ (hd_c2 hk) h (fun y S h => hd_t_lmul C d (kk _ _ h)))
theorem hd_land (C : hd_Ok κ cc own Ts nL sh cl lv) {a b : hd_xJ} (ha : hd_XJ κ pc p1 k a) (hb : hd_XJ κ p1 p2 (k + 2) b) (d : decode cc p2 = .ok (.land, 1)) : hd_XJ κ pc (p2 + 1) k (hd_jB (fun x y => x &&& y) a b) := by
  intro ρ st S post hk hx kk
  exact ha ρ st S _ hk hx (fun x S h => hb ρ _ S _ (hd_c2 hk) h (fun y S h => hd_t_land C d (kk _ _ h)))
theorem hd_ldiv (C : hd_Ok κ cc own Ts nL sh cl lv) {a b : hd_xJ} (ha : hd_XJ κ pc p1 k a) (hb : hd_XJ κ p1 p2 (k + 2) b) (d : decode cc p2 = .ok (.ldiv, 1)) : hd_XJ κ pc (p2 + 1) k (hd_jD (fun x y => x / y) a b) := by
  intro ρ st S post hk hx kk
  exact ha ρ st S _ hk hx (fun x S h => hb ρ _ S _ (hd_c2 hk) h (fun y S h => hd_t_ldiv C d h.1 (kk _ _ h.2)))
theorem hd_lrem (C : hd_Ok κ cc own Ts nL sh cl lv) {a b : hd_xJ} (ha : hd_XJ κ pc p1 k a) (hb : hd_XJ κ p1 p2 (k + 2) b) (d : decode cc p2 = .ok (.lrem, 1)) : hd_XJ κ pc (p2 + 1) k (hd_jD (fun x y => x - x / y * y) a b) := by
  intro ρ st S post hk hx kk
  exact ha ρ st S _ hk hx (fun x S h => hb ρ _ S _ (hd_c2 hk) h (fun y S h => hd_t_lrem C d h.1 (kk _ _ h.2)))
theorem hd_lshl (C : hd_Ok κ cc own Ts nL sh cl lv) {a : hd_xJ} {b : hd_xI} (ha : hd_XJ κ pc p1 k a) (hb : hd_XI κ p1 p2 (k + 2) b) (d : decode cc p2 = .ok (.lshl, 1)) : hd_XJ κ pc (p2 + 1) k (hd_jH (fun x y => x <<< (y.toInt64 &&& 63)) a b) := by
  intro ρ st S post hk hx kk
  exact ha ρ st S _ hk hx (fun x S h => hb ρ _ S _ (hd_c2 hk) h (fun y S h => hd_t_lshl C d (kk _ _ h)))
theorem hd_lshr (C : hd_Ok κ cc own Ts nL sh cl lv) {a : hd_xJ} {b : hd_xI} (ha : hd_XJ κ pc p1 k a) (hb : hd_XI κ p1 p2 (k + 2) b) (d : decode cc p2 = .ok (.lshr, 1)) : hd_XJ κ pc (p2 + 1) k (hd_jH (fun x y => x >>> (y.toInt64 &&& 63)) a b) := by
  intro ρ st S post hk hx kk
  exact ha ρ st S _ hk hx (fun x S h => hb ρ _ S _ (hd_c2 hk) h (fun y S h => hd_t_lshr C d (kk _ _ h)))
theorem hd_lneg (C : hd_Ok κ cc own Ts nL sh cl lv) {a : hd_xJ} (ha : hd_XJ κ pc p1 k a) (d : decode cc p1 = .ok (.lneg, 1)) : hd_XJ κ pc (p1 + 1) k (hd_jU (fun x => -x) a) := by
  intro ρ st S post hk hx kk
  exact ha ρ st S _ hk hx (fun x S h => hd_t_lneg C d (kk _ _ h))
theorem hd_i2l (C : hd_Ok κ cc own Ts nL sh cl lv) {a : hd_xI} (ha : hd_XI κ pc p1 k a) (d : decode cc p1 = .ok (.i2l, 1)) : hd_XJ κ pc (p1 + 1) k (hd_jI a) := by
  intro ρ st S post hk hx kk
  exact ha ρ st S _ hk hx (fun x S h => hd_t_i2l C d (kk _ _ h))
theorem hd_l2i (C : hd_Ok κ cc own Ts nL sh cl lv) {a : hd_xJ} (ha : hd_XJ κ pc p1 k a) (d : decode cc p1 = .ok (.l2i, 1)) : hd_XI κ pc (p1 + 1) k (hd_iJ a) := by
  intro ρ st S post hk hx kk
  exact ha ρ st S _ hk hx (fun x S h => hd_t_l2i C d (kk _ _ h))
theorem hd_mmax (C : hd_Ok κ cc own Ts nL sh cl lv) {a b : hd_xI} {idx : Nat} (h1 : Cond.methodLink own idx Lib.Math.max.name ∈ Ts) (h2 : Cond.static Lib.Math.max.name ∈ Ts) (h3 : Cond.initialized "java/lang/Math" ∈ Ts) (h4 : Cond.code Lib.Math.max.name Lib.Math.max.code 2 (some .int) ∈ Ts) (hk8 : k ≤ 8) (ha : hd_XI κ pc p1 k a) (hb : hd_XI κ p1 p2 (k + 1) b) (d : decode cc p2 = .ok (.invokestatic idx, 3)) : hd_XI κ pc (p2 + 3) k (hd_iB (fun x y => if x < y then y else x) a b) := by
  intro ρ st S post hk hx kk
  exact ha ρ st S _ hk hx (fun x S h => hb ρ _ S _ (hd_c1 rfl hk) h (fun y S h => hd_t_mmax C h1 h2 h3 h4 (Nat.le_trans hk hk8) d (kk _ _ h)))
theorem hd_mmin (C : hd_Ok κ cc own Ts nL sh cl lv) {a b : hd_xI} {idx : Nat} (h1 : Cond.methodLink own idx Lib.Math.min.name ∈ Ts) (h2 : Cond.static Lib.Math.min.name ∈ Ts) (h3 : Cond.initialized "java/lang/Math" ∈ Ts) (h4 : Cond.code Lib.Math.min.name Lib.Math.min.code 2 (some .int) ∈ Ts) (hk8 : k ≤ 8) (ha : hd_XI κ pc p1 k a) (hb : hd_XI κ p1 p2 (k + 1) b) (d : decode cc p2 = .ok (.invokestatic idx, 3)) : hd_XI κ pc (p2 + 3) k (hd_iB (fun x y => if y < x then y else x) a b) := by
  intro ρ st S post hk hx kk
  exact ha ρ st S _ hk hx (fun x S h => hb ρ _ S _ (hd_c1 rfl hk) h (fun y S h => hd_t_mmin C h1 h2 h3 h4 (Nat.le_trans hk hk8) d (kk _ _ h)))
theorem hd_mabs (C : hd_Ok κ cc own Ts nL sh cl lv) {a : hd_xI} {idx : Nat} (h1 : Cond.methodLink own idx Lib.Math.abs.name ∈ Ts) (h2 : Cond.static Lib.Math.abs.name ∈ Ts) (h3 : Cond.initialized "java/lang/Math" ∈ Ts) (h4 : Cond.code Lib.Math.abs.name Lib.Math.abs.code 1 (some .int) ∈ Ts) (hk8 : k ≤ 8) (ha : hd_XI κ pc p1 k a) (d : decode cc p1 = .ok (.invokestatic idx, 3)) : hd_XI κ pc (p1 + 3) k (hd_iU (fun x => if 0 ≤ x then x else 0 - x) a) := by
  intro ρ st S post hk hx kk
  exact ha ρ st S _ hk hx (fun x S h => hd_t_mabs C h1 h2 h3 h4 (Nat.le_trans hk hk8) d (kk _ _ h))
theorem hd_mmaxL (C : hd_Ok κ cc own Ts nL sh cl lv) {a b : hd_xJ} {idx : Nat} (h1 : Cond.methodLink own idx Lib.MathLoose.max_long.x ∈ Ts) (h2 : Cond.static Lib.MathLoose.max_long.x ∈ Ts) (h3 : Cond.initialized "java/lang/Math" ∈ Ts) (h4 : Cond.code Lib.MathLoose.max_long.x Lib.MathLoose.max_long.code 4 (some .long) ∈ Ts) (hk8 : k ≤ 8) (ha : hd_XJ κ pc p1 k a) (hb : hd_XJ κ p1 p2 (k + 2) b) (d : decode cc p2 = .ok (.invokestatic idx, 3)) : hd_XJ κ pc (p2 + 3) k (hd_jB (fun x y => if y < x then x else y) a b) := by
  intro ρ st S post hk hx kk
  exact ha ρ st S _ hk hx (fun x S h => hb ρ _ S _ (hd_c2 hk) h (fun y S h => hd_t_mmaxL C h1 h2 h3 h4 (Nat.le_trans hk hk8) d (kk _ _ h)))
theorem hd_mminL (C : hd_Ok κ cc own Ts nL sh cl lv) {a b : hd_xJ} {idx : Nat} (h1 : Cond.methodLink own idx Lib.MathLoose.min_long.x ∈ Ts) (h2 : Cond.static Lib.MathLoose.min_long.x ∈ Ts) (h3 : Cond.initialized "java/lang/Math" ∈ Ts) (h4 : Cond.code Lib.MathLoose.min_long.x Lib.MathLoose.min_long.code 4 (some .long) ∈ Ts) (hk8 : k ≤ 8) (ha : hd_XJ κ pc p1 k a) (hb : hd_XJ κ p1 p2 (k + 2) b) (d : decode cc p2 = .ok (.invokestatic idx, 3)) : hd_XJ κ pc (p2 + 3) k (hd_jB (fun x y => if y < x then y else x) a b) := by
  intro ρ st S post hk hx kk
  exact ha ρ st S _ hk hx (fun x S h => hb ρ _ S _ (hd_c2 hk) h (fun y S h => hd_t_mminL C h1 h2 h3 h4 (Nat.le_trans hk hk8) d (kk _ _ h)))
theorem hd_mabsL (C : hd_Ok κ cc own Ts nL sh cl lv) {a : hd_xJ} {idx : Nat} (h1 : Cond.methodLink own idx Lib.MathLoose.abs_long.x ∈ Ts) (h2 : Cond.static Lib.MathLoose.abs_long.x ∈ Ts) (h3 : Cond.initialized "java/lang/Math" ∈ Ts) (h4 : Cond.code Lib.MathLoose.abs_long.x Lib.MathLoose.abs_long.code 2 (some .long) ∈ Ts) (hk8 : k ≤ 8) (ha : hd_XJ κ pc p1 k a) (d : decode cc p1 = .ok (.invokestatic idx, 3)) : hd_XJ κ pc (p1 + 3) k (hd_jU (fun x => if 0 < x then x else -x) a) := by
  intro ρ st S post hk hx kk
  exact ha ρ st S _ hk hx (fun x S h => hd_t_mabsL C h1 h2 h3 h4 (Nat.le_trans hk hk8) d (kk _ _ h))
theorem hd_getI (C : hd_Ok κ cc own Ts nL sh cl lv) {ci k0 idx : Nat} {r : hd_xR} (hF : hd_F Ts own cl ci k0 idx) (hr : hd_XR κ pc p1 k r) (d : decode cc p1 = .ok (.getfield idx, 3)) : hd_XI κ pc (p1 + 3) k (hd_iG sh ci k0 r) := by
  intro ρ st S post hk hx kk
  exact hr ρ st S _ hk hx (fun c S ⟨⟨fl, h1, h2⟩, h⟩ => hd_t_getI C hF h1 h2 d (kk _ _ h))
theorem hd_getR (C : hd_Ok κ cc own Ts nL sh cl lv) {ci k0 idx : Nat} {r : hd_xR} (hF : hd_F Ts own cl ci k0 idx) (hr : hd_XR κ pc p1 k r) (d : decode cc p1 = .ok (.getfield idx, 3)) : hd_XR κ pc (p1 + 3) k (hd_rG sh ci k0 r) := by
  intro ρ st S post hk hx kk
  exact hr ρ st S _ hk hx (fun c S ⟨⟨fl, h1, h2⟩, h⟩ => hd_t_getR C hF h1 h2 d (kk _ _ h))
theorem hd_iald (C : hd_Ok κ cc own Ts nL sh cl lv) {r : hd_xR} {a : hd_xI} (hr : hd_XR κ pc p1 k r) (ha : hd_XI κ p1 p2 (k + 1) a) (d : decode cc p2 = .ok (.iaload, 1)) : hd_XI κ pc (p2 + 1) k (hd_iA sh r a) := by
  intro ρ st S post hk hx kk
  exact hr ρ st S _ hk hx (fun c S h => ha ρ _ S _ (hd_c1 rfl hk) h (fun i S ⟨⟨n, h1, h2⟩, h⟩ => hd_t_iald C h1 h2 d (kk _ _ h)))
theorem hd_lald (C : hd_Ok κ cc own Ts nL sh cl lv) {r : hd_xR} {a : hd_xI} (hr : hd_XR κ pc p1 k r) (ha : hd_XI κ p1 p2 (k + 1) a) (d : decode cc p2 = .ok (.laload, 1)) : hd_XJ κ pc (p2 + 1) k (hd_jA sh r a) := by
  intro ρ st S post hk hx kk
  exact hr ρ st S _ hk hx (fun c S h => ha ρ _ S _ (hd_c1 rfl hk) h (fun i S ⟨⟨n, h1, h2⟩, h⟩ => hd_t_lald C h1 h2 d (kk _ _ h)))
theorem hd_aald2 (C : hd_Ok κ cc own Ts nL sh cl lv) {r : hd_xR} {a : hd_xI} (hr : hd_XR κ pc p1 k r) (ha : hd_XI κ p1 p2 (k + 1) a) (d : decode cc p2 = .ok (.aaload, 1)) : hd_XR κ pc (p2 + 1) k (hd_rA sh 2 r a) := by
  intro ρ st S post hk hx kk
  exact hr ρ st S _ hk hx (fun c S h => ha ρ _ S _ (hd_c1 rfl hk) h (fun i S ⟨⟨n, h1, h2⟩, h⟩ => hd_t_aald2 C h1 h2 d (kk _ _ h)))
theorem hd_aald3 (C : hd_Ok κ cc own Ts nL sh cl lv) {r : hd_xR} {a : hd_xI} (hr : hd_XR κ pc p1 k r) (ha : hd_XI κ p1 p2 (k + 1) a) (d : decode cc p2 = .ok (.aaload, 1)) : hd_XR κ pc (p2 + 1) k (hd_rA sh 3 r a) := by
  intro ρ st S post hk hx kk
  exact hr ρ st S _ hk hx (fun c S h => ha ρ _ S _ (hd_c1 rfl hk) h (fun i S ⟨⟨n, h1, h2⟩, h⟩ => hd_t_aald3 C h1 h2 d (kk _ _ h)))
theorem hd_alen (C : hd_Ok κ cc own Ts nL sh cl lv) {t : Nat} {ty : FieldType} {r : hd_xR} (ht : (hd_tys (fun k => k))[t]? = some (t, ty)) (hr : hd_XR κ pc p1 k r) (d : decode cc p1 = .ok (.arraylength, 1)) : hd_XI κ pc (p1 + 1) k (hd_iE sh t r) := by
  intro ρ st S post hk hx kk
  exact hr ρ st S _ hk hx (fun c S ⟨⟨n, h1⟩, h⟩ => by
    refine hd_t_alen C h1 ht d (kk _ _ ?_)
    have e : hd_len sh c = n := by simp [hd_len, h1]
    rw [← e]
    exact h)
theorem hd_tnI (C : hd_Ok κ cc own Ts nL sh cl lv) {c : hd_xC} {a b : hd_xI} {off : Int} (hc : hd_XC κ pc p1 p3 k c) (ha : hd_XI κ p1 p2 k a) (d : decode cc p2 = .ok (.goto off, 3)) (ht : (p2 : Int) + off = (p4 : Int)) (hb : hd_XI κ p3 p4 k b) : hd_XI κ pc p4 k (hd_iQ c a b) := by
  intro ρ st S post hk hx kk
  exact hc ρ st S _ hk hx (fun S h => ha ρ st S _ hk h (fun v S h => hd_t_goto C d ht (kk _ _ h))) (fun S h => hb ρ st S _ hk h kk)
theorem hd_tnJ (C : hd_Ok κ cc own Ts nL sh cl lv) {c : hd_xC} {a b : hd_xJ} {off : Int} (hc : hd_XC κ pc p1 p3 k c) (ha : hd_XJ κ p1 p2 k a) (d : decode cc p2 = .ok (.goto off, 3)) (ht : (p2 : Int) + off = (p4 : Int)) (hb : hd_XJ κ p3 p4 k b) : hd_XJ κ pc p4 k (hd_jQ c a b) := by
  intro ρ st S post hk hx kk
  exact hc ρ st S _ hk hx (fun S h => ha ρ st S _ hk h (fun v S h => hd_t_goto C d ht (kk _ _ h))) (fun S h => hb ρ st S _ hk h kk)
theorem hd_boC (C : hd_Ok κ cc own Ts nL sh cl lv) {c : hd_xC} {off : Int} (hc : hd_XC κ pc p1 p3 k c) (d1 : decode cc p1 = .ok (.iconst 1, 1)) (d : decode cc (p1 + 1) = .ok (.goto off, 3)) (ht : ((p1 + 1 : Nat) : Int) + off = (p4 : Int)) (d2 : decode cc p3 = .ok (.iconst 0, 1)) (h34 : p4 = p3 + 1) : hd_XI κ pc p4 k (hd_iC c) := by
  subst h34
  intro ρ st S post hk hx kk
  exact hc ρ st S _ hk hx (fun S h => hd_t_iconst C d1 (by decide) (hd_t_goto C d ht (kk _ _ h))) (fun S h => hd_t_iconst C d2 (by decide) (kk _ _ h))
theorem hd_boCn (C : hd_Ok κ cc own Ts nL sh cl lv) {c : hd_xC} {off : Int} (hc : hd_XC κ pc p3 p1 k c) (d1 : decode cc p1 = .ok (.iconst 0, 1)) (d : decode cc (p1 + 1) = .ok (.goto off, 3)) (ht : ((p1 + 1 : Nat) : Int) + off = (p4 : Int)) (d2 : decode cc p3 = .ok (.iconst 1, 1)) (h34 : p4 = p3 + 1) : hd_XI κ pc p4 k (hd_iC c) := by
  subst h34
  intro ρ st S post hk hx kk
  exact hc ρ st S _ hk hx (fun S h => hd_t_iconst C d2 (by decide) (kk _ _ h)) (fun S h => hd_t_iconst C d1 (by decide) (hd_t_goto C d ht (kk _ _ h)))
theorem hd_c_ltT (C : hd_Ok κ cc own Ts nL sh cl lv) {a b : hd_xI} {off : Int} {tgt : Nat} (ha : hd_XI κ pc p1 k a) (hb : hd_XI κ p1 p2 (k + 1) b) (d : decode cc p2 = .ok (.if_icmp .lt off, 3)) (ht : (p2 : Int) + off = (tgt : Int)) : hd_XC κ pc tgt (p2 + 3) k (hd_cI (fun x y => decide (x < y)) a b) := by
  intro ρ st S post hk hx kt kf
  refine ha ρ st S _ hk hx (fun x S h => hb ρ _ S _ (hd_c1 rfl hk) h (fun y S h => hd_t_icmp_lt C d ht (fun q => ?_) (fun q => ?_)))
  · refine kt S ?_
    have e : (decide (x < y)) = true := by simp only [Int32.lt_iff_toInt_lt, Int32.le_iff_toInt_le, decide_eq_true_eq, decide_eq_false_iff_not, Bool.not_eq_true', Bool.not_eq_false', ← Int32.toInt_inj] at q ⊢; omega
    refine Eq.mp (congrArg (fun t => post t S) e) ?_
    exact h
  · refine kf S ?_
    have e : (decide (x < y)) = false := by simp only [Int32.lt_iff_toInt_lt, Int32.le_iff_toInt_le, decide_eq_true_eq, decide_eq_false_iff_not, Bool.not_eq_true', Bool.not_eq_false', ← Int32.toInt_inj] at q ⊢; omega
    refine Eq.mp (congrArg (fun t => post t S) e) ?_
    exact h
theorem hd_z_ltT (C : hd_Ok κ cc own Ts nL sh cl lv) {a : hd_xI} {off : Int} {tgt : Nat} (ha : hd_XI κ pc p2 k a) (d : decode cc p2 = .ok (.ifCond .lt off, 3)) (ht : (p2 : Int) + off = (tgt : Int)) : hd_XC κ pc tgt (p2 + 3) k (hd_c0 (fun x => decide (x < 0)) a) := by
  intro ρ st S post hk hx kt kf
  refine ha ρ st S _ hk hx (fun x S h => hd_t_if_lt C (y := 0) d ht (fun q => ?_) (fun q => ?_))
  · refine kt S ?_
    have e : (decide (x < 0)) = true := by simp only [Int32.lt_iff_toInt_lt, Int32.le_iff_toInt_le, decide_eq_true_eq, decide_eq_false_iff_not, Bool.not_eq_true', Bool.not_eq_false', ← Int32.toInt_inj] at q ⊢; omega
    refine Eq.mp (congrArg (fun t => post t S) e) ?_
    exact h
  · refine kf S ?_
    have e : (decide (x < 0)) = false := by simp only [Int32.lt_iff_toInt_lt, Int32.le_iff_toInt_le, decide_eq_true_eq, decide_eq_false_iff_not, Bool.not_eq_true', Bool.not_eq_false', ← Int32.toInt_inj] at q ⊢; omega
    refine Eq.mp (congrArg (fun t => post t S) e) ?_
    exact h
theorem hd_l_ltT (C : hd_Ok κ cc own Ts nL sh cl lv) {a b : hd_xJ} {off : Int} {tgt : Nat} (ha : hd_XJ κ pc p1 k a) (hb : hd_XJ κ p1 p2 (k + 2) b) (d0 : decode cc p2 = .ok (.lcmp, 1)) (d : decode cc (p2 + 1) = .ok (.ifCond .lt off, 3)) (ht : ((p2 + 1 : Nat) : Int) + off = (tgt : Int)) : hd_XC κ pc tgt (p2 + 4) k (hd_cJ (fun x y => decide (x < y)) a b) := by
  intro ρ st S post hk hx kt kf
  refine ha ρ st S _ hk hx (fun x S h => hb ρ _ S _ (hd_c2 hk) h (fun y S h => hd_t_lcmp C d0 (hd_t_if_lt C (y := 0) d ht (fun q => ?_) (fun q => ?_))))
  · refine kt S ?_
    have e : (decide (x < y)) = true := by have e1 := lg_cmp_eq x y; have e2 := lg_cmp_lt x y; have e3 : (0 : Int32) ≤ lg_cmp x y ↔ ¬ lg_cmp x y < 0 := Int32.not_lt.symm; simp only [e3, e1, e2, Decidable.not_not] at q; simp [q]
    refine Eq.mp (congrArg (fun t => post t S) e) ?_
    exact h
  · refine kf S ?_
    have e : (decide (x < y)) = false := by have e1 := lg_cmp_eq x y; have e2 := lg_cmp_lt x y; have e3 : (0 : Int32) ≤ lg_cmp x y ↔ ¬ lg_cmp x y < 0 := Int32.not_lt.symm; simp only [e3, e1, e2, Decidable.not_not] at q; simp [q]
    refine Eq.mp (congrArg (fun t => post t S) e) ?_
    exact h
theorem hd_c_ltF (C : hd_Ok κ cc own Ts nL sh cl lv) {a b : hd_xI} {off : Int} {tgt : Nat} (ha : hd_XI κ pc p1 k a) (hb : hd_XI κ p1 p2 (k + 1) b) (d : decode cc p2 = .ok (.if_icmp .ge off, 3)) (ht : (p2 : Int) + off = (tgt : Int)) : hd_XC κ pc (p2 + 3) tgt k (hd_cI (fun x y => decide (x < y)) a b) := by
  intro ρ st S post hk hx kt kf
  refine ha ρ st S _ hk hx (fun x S h => hb ρ _ S _ (hd_c1 rfl hk) h (fun y S h => hd_t_icmp_ge C d ht (fun q => ?_) (fun q => ?_)))
  · refine kf S ?_
    have e : (decide (x < y)) = false := by simp only [Int32.lt_iff_toInt_lt, Int32.le_iff_toInt_le, decide_eq_true_eq, decide_eq_false_iff_not, Bool.not_eq_true', Bool.not_eq_false', ← Int32.toInt_inj] at q ⊢; omega
    refine Eq.mp (congrArg (fun t => post t S) e) ?_
    exact h
  · refine kt S ?_
    have e : (decide (x < y)) = true := by simp only [Int32.lt_iff_toInt_lt, Int32.le_iff_toInt_le, decide_eq_true_eq, decide_eq_false_iff_not, Bool.not_eq_true', Bool.not_eq_false', ← Int32.toInt_inj] at q ⊢; omega
    refine Eq.mp (congrArg (fun t => post t S) e) ?_
    exact h
theorem hd_z_ltF (C : hd_Ok κ cc own Ts nL sh cl lv) {a : hd_xI} {off : Int} {tgt : Nat} (ha : hd_XI κ pc p2 k a) (d : decode cc p2 = .ok (.ifCond .ge off, 3)) (ht : (p2 : Int) + off = (tgt : Int)) : hd_XC κ pc (p2 + 3) tgt k (hd_c0 (fun x => decide (x < 0)) a) := by
  intro ρ st S post hk hx kt kf
  refine ha ρ st S _ hk hx (fun x S h => hd_t_if_ge C (y := 0) d ht (fun q => ?_) (fun q => ?_))
  · refine kf S ?_
    have e : (decide (x < 0)) = false := by simp only [Int32.lt_iff_toInt_lt, Int32.le_iff_toInt_le, decide_eq_true_eq, decide_eq_false_iff_not, Bool.not_eq_true', Bool.not_eq_false', ← Int32.toInt_inj] at q ⊢; omega
    refine Eq.mp (congrArg (fun t => post t S) e) ?_
    exact h
  · refine kt S ?_
    have e : (decide (x < 0)) = true := by simp only [Int32.lt_iff_toInt_lt, Int32.le_iff_toInt_le, decide_eq_true_eq, decide_eq_false_iff_not, Bool.not_eq_true', Bool.not_eq_false', ← Int32.toInt_inj] at q ⊢; omega
    refine Eq.mp (congrArg (fun t => post t S) e) ?_
    exact h
theorem hd_l_ltF (C : hd_Ok κ cc own Ts nL sh cl lv) {a b : hd_xJ} {off : Int} {tgt : Nat} (ha : hd_XJ κ pc p1 k a) (hb : hd_XJ κ p1 p2 (k + 2) b) (d0 : decode cc p2 = .ok (.lcmp, 1)) (d : decode cc (p2 + 1) = .ok (.ifCond .ge off, 3)) (ht : ((p2 + 1 : Nat) : Int) + off = (tgt : Int)) : hd_XC κ pc (p2 + 4) tgt k (hd_cJ (fun x y => decide (x < y)) a b) := by
  intro ρ st S post hk hx kt kf
  refine ha ρ st S _ hk hx (fun x S h => hb ρ _ S _ (hd_c2 hk) h (fun y S h => hd_t_lcmp C d0 (hd_t_if_ge C (y := 0) d ht (fun q => ?_) (fun q => ?_))))
  · refine kf S ?_
    have e : (decide (x < y)) = false := by have e1 := lg_cmp_eq x y; have e2 := lg_cmp_lt x y; have e3 : (0 : Int32) ≤ lg_cmp x y ↔ ¬ lg_cmp x y < 0 := Int32.not_lt.symm; simp only [e3, e1, e2, Decidable.not_not] at q; simp [q]
    refine Eq.mp (congrArg (fun t => post t S) e) ?_
    exact h
  · refine kt S ?_
    have e : (decide (x < y)) = true := by have e1 := lg_cmp_eq x y; have e2 := lg_cmp_lt x y; have e3 : (0 : Int32) ≤ lg_cmp x y ↔ ¬ lg_cmp x y < 0 := Int32.not_lt.symm; simp only [e3, e1, e2, Decidable.not_not] at q; simp [q]
    refine Eq.mp (congrArg (fun t => post t S) e) ?_
    exact h
theorem hd_c_leT (C : hd_Ok κ cc own Ts nL sh cl lv) {a b : hd_xI} {off : Int} {tgt : Nat} (ha : hd_XI κ pc p1 k a) (hb : hd_XI κ p1 p2 (k + 1) b) (d : decode cc p2 = .ok (.if_icmp .le off, 3)) (ht : (p2 : Int) + off = (tgt : Int)) : hd_XC κ pc tgt (p2 + 3) k (hd_cI (fun x y => decide (x ≤ y)) a b) := by
  intro ρ st S post hk hx kt kf
  refine ha ρ st S _ hk hx (fun x S h => hb ρ _ S _ (hd_c1 rfl hk) h (fun y S h => hd_t_icmp_le C d ht (fun q => ?_) (fun q => ?_)))
  · refine kt S ?_
    have e : (decide (x ≤ y)) = true := by simp only [Int32.lt_iff_toInt_lt, Int32.le_iff_toInt_le, decide_eq_true_eq, decide_eq_false_iff_not, Bool.not_eq_true', Bool.not_eq_false', ← Int32.toInt_inj] at q ⊢; omega
    refine Eq.mp (congrArg (fun t => post t S) e) ?_
    exact h
  · refine kf S ?_
    have e : (decide (x ≤ y)) = false := by simp only [Int32.lt_iff_toInt_lt, Int32.le_iff_toInt_le, decide_eq_true_eq, decide_eq_false_iff_not, Bool.not_eq_true', Bool.not_eq_false', ← Int32.toInt_inj] at q ⊢; omega
    refine Eq.mp (congrArg (fun t => post t S) e) ?_
    exact h
theorem hd_z_leT (C : hd_Ok κ cc own Ts nL sh cl lv) {a : hd_xI} {off : Int} {tgt : Nat} (ha : hd_XI κ pc p2 k a) (d : decode cc p2 = .ok (.ifCond .le off, 3)) (ht : (p2 : Int) + off = (tgt : Int)) : hd_XC κ pc tgt (p2 + 3) k (hd_c0 (fun x => decide (x ≤ 0)) a) := by
  intro ρ st S post hk hx kt kf
  refine ha ρ st S _ hk hx (fun x S h => hd_t_if_le C (y := 0) d ht (fun q => ?_) (fun q => ?_))
  · refine kt S ?_
    have e : (decide (x ≤ 0)) = true := by simp only [Int32.lt_iff_toInt_lt, Int32.le_iff_toInt_le, decide_eq_true_eq, decide_eq_false_iff_not, Bool.not_eq_true', Bool.not_eq_false', ← Int32.toInt_inj] at q ⊢; omega
    refine Eq.mp (congrArg (fun t => post t S) e) ?_
    exact h
  · refine kf S ?_
    have e : (decide (x ≤ 0)) = false := by simp only [Int32.lt_iff_toInt_lt, Int32.le_iff_toInt_le, decide_eq_true_eq, decide_eq_false_iff_not, Bool.not_eq_true', Bool.not_eq_false', ← Int32.toInt_inj] at q ⊢; omega
    refine Eq.mp (congrArg (fun t => post t S) e) ?_
    exact h
theorem hd_c_leF (C : hd_Ok κ cc own Ts nL sh cl lv) {a b : hd_xI} {off : Int} {tgt : Nat} (ha : hd_XI κ pc p1 k a) (hb : hd_XI κ p1 p2 (k + 1) b) (d : decode cc p2 = .ok (.if_icmp .gt off, 3)) (ht : (p2 : Int) + off = (tgt : Int)) : hd_XC κ pc (p2 + 3) tgt k (hd_cI (fun x y => decide (x ≤ y)) a b) := by
  intro ρ st S post hk hx kt kf
  refine ha ρ st S _ hk hx (fun x S h => hb ρ _ S _ (hd_c1 rfl hk) h (fun y S h => hd_t_icmp_gt C d ht (fun q => ?_) (fun q => ?_)))
  · refine kf S ?_
    have e : (decide (x ≤ y)) = false := by simp only [Int32.lt_iff_toInt_lt, Int32.le_iff_toInt_le, decide_eq_true_eq, decide_eq_false_iff_not, Bool.not_eq_true', Bool.not_eq_false', ← Int32.toInt_inj] at q ⊢; omega
    refine Eq.mp (congrArg (fun t => post t S) e) ?_
    exact h
  · refine kt S ?_
    have e : (decide (x ≤ y)) = true := by simp only [Int32.lt_iff_toInt_lt, Int32.le_iff_toInt_le, decide_eq_true_eq, decide_eq_false_iff_not, Bool.not_eq_true', Bool.not_eq_false', ← Int32.toInt_inj] at q ⊢; omega
    refine Eq.mp (congrArg (fun t => post t S) e) ?_
    exact h
theorem hd_z_leF (C : hd_Ok κ cc own Ts nL sh cl lv) {a : hd_xI} {off : Int} {tgt : Nat} (ha : hd_XI κ pc p2 k a) (d : decode cc p2 = .ok (.ifCond .gt off, 3)) (ht : (p2 : Int) + off = (tgt : Int)) : hd_XC κ pc (p2 + 3) tgt k (hd_c0 (fun x => decide (x ≤ 0)) a) := by
  intro ρ st S post hk hx kt kf
  refine ha ρ st S _ hk hx (fun x S h => hd_t_if_gt C (y := 0) d ht (fun q => ?_) (fun q => ?_))
  · refine kf S ?_
    have e : (decide (x ≤ 0)) = false := by simp only [Int32.lt_iff_toInt_lt, Int32.le_iff_toInt_le, decide_eq_true_eq, decide_eq_false_iff_not, Bool.not_eq_true', Bool.not_eq_false', ← Int32.toInt_inj] at q ⊢; omega
    refine Eq.mp (congrArg (fun t => post t S) e) ?_
    exact h
  · refine kt S ?_
    have e : (decide (x ≤ 0)) = true := by simp only [Int32.lt_iff_toInt_lt, Int32.le_iff_toInt_le, decide_eq_true_eq, decide_eq_false_iff_not, Bool.not_eq_true', Bool.not_eq_false', ← Int32.toInt_inj] at q ⊢; omega
    refine Eq.mp (congrArg (fun t => post t S) e) ?_
    exact h
theorem hd_c_gtT (C : hd_Ok κ cc own Ts nL sh cl lv) {a b : hd_xI} {off : Int} {tgt : Nat} (ha : hd_XI κ pc p1 k a) (hb : hd_XI κ p1 p2 (k + 1) b) (d : decode cc p2 = .ok (.if_icmp .gt off, 3)) (ht : (p2 : Int) + off = (tgt : Int)) : hd_XC κ pc tgt (p2 + 3) k (hd_cI (fun x y => decide (y < x)) a b) := by
  intro ρ st S post hk hx kt kf
  refine ha ρ st S _ hk hx (fun x S h => hb ρ _ S _ (hd_c1 rfl hk) h (fun y S h => hd_t_icmp_gt C d ht (fun q => ?_) (fun q => ?_)))
  · refine kt S ?_
    have e : (decide (y < x)) = true := by simp only [Int32.lt_iff_toInt_lt, Int32.le_iff_toInt_le, decide_eq_true_eq, decide_eq_false_iff_not, Bool.not_eq_true', Bool.not_eq_false', ← Int32.toInt_inj] at q ⊢; omega
    refine Eq.mp (congrArg (fun t => post t S) e) ?_
    exact h
  · refine kf S ?_
    have e : (decide (y < x)) = false := by simp only [Int32.lt_iff_toInt_lt, Int32.le_iff_toInt_le, decide_eq_true_eq, decide_eq_false_iff_not, Bool.not_eq_true', Bool.not_eq_false', ← Int32.toInt_inj] at q ⊢; omega
    refine Eq.mp (congrArg (fun t => post t S) e) ?_
    exact h
theorem hd_z_gtT (C : hd_Ok κ cc own Ts nL sh cl lv) {a : hd_xI} {off : Int} {tgt : Nat} (ha : hd_XI κ pc p2 k a) (d : decode cc p2 = .ok (.ifCond .gt off, 3)) (ht : (p2 : Int) + off = (tgt : Int)) : hd_XC κ pc tgt (p2 + 3) k (hd_c0 (fun x => decide (0 < x)) a) := by
  intro ρ st S post hk hx kt kf
  refine ha ρ st S _ hk hx (fun x S h => hd_t_if_gt C (y := 0) d ht (fun q => ?_) (fun q => ?_))
  · refine kt S ?_
    have e : (decide (0 < x)) = true := by simp only [Int32.lt_iff_toInt_lt, Int32.le_iff_toInt_le, decide_eq_true_eq, decide_eq_false_iff_not, Bool.not_eq_true', Bool.not_eq_false', ← Int32.toInt_inj] at q ⊢; omega
    refine Eq.mp (congrArg (fun t => post t S) e) ?_
    exact h
  · refine kf S ?_
    have e : (decide (0 < x)) = false := by simp only [Int32.lt_iff_toInt_lt, Int32.le_iff_toInt_le, decide_eq_true_eq, decide_eq_false_iff_not, Bool.not_eq_true', Bool.not_eq_false', ← Int32.toInt_inj] at q ⊢; omega
    refine Eq.mp (congrArg (fun t => post t S) e) ?_
    exact h
theorem hd_c_gtF (C : hd_Ok κ cc own Ts nL sh cl lv) {a b : hd_xI} {off : Int} {tgt : Nat} (ha : hd_XI κ pc p1 k a) (hb : hd_XI κ p1 p2 (k + 1) b) (d : decode cc p2 = .ok (.if_icmp .le off, 3)) (ht : (p2 : Int) + off = (tgt : Int)) : hd_XC κ pc (p2 + 3) tgt k (hd_cI (fun x y => decide (y < x)) a b) := by
  intro ρ st S post hk hx kt kf
  refine ha ρ st S _ hk hx (fun x S h => hb ρ _ S _ (hd_c1 rfl hk) h (fun y S h => hd_t_icmp_le C d ht (fun q => ?_) (fun q => ?_)))
  · refine kf S ?_
    have e : (decide (y < x)) = false := by simp only [Int32.lt_iff_toInt_lt, Int32.le_iff_toInt_le, decide_eq_true_eq, decide_eq_false_iff_not, Bool.not_eq_true', Bool.not_eq_false', ← Int32.toInt_inj] at q ⊢; omega
    refine Eq.mp (congrArg (fun t => post t S) e) ?_
    exact h
  · refine kt S ?_
    have e : (decide (y < x)) = true := by simp only [Int32.lt_iff_toInt_lt, Int32.le_iff_toInt_le, decide_eq_true_eq, decide_eq_false_iff_not, Bool.not_eq_true', Bool.not_eq_false', ← Int32.toInt_inj] at q ⊢; omega
    refine Eq.mp (congrArg (fun t => post t S) e) ?_
    exact h
theorem hd_z_gtF (C : hd_Ok κ cc own Ts nL sh cl lv) {a : hd_xI} {off : Int} {tgt : Nat} (ha : hd_XI κ pc p2 k a) (d : decode cc p2 = .ok (.ifCond .le off, 3)) (ht : (p2 : Int) + off = (tgt : Int)) : hd_XC κ pc (p2 + 3) tgt k (hd_c0 (fun x => decide (0 < x)) a) := by
  intro ρ st S post hk hx kt kf
  refine ha ρ st S _ hk hx (fun x S h => hd_t_if_le C (y := 0) d ht (fun q => ?_) (fun q => ?_))
  · refine kf S ?_
    have e : (decide (0 < x)) = false := by simp only [Int32.lt_iff_toInt_lt, Int32.le_iff_toInt_le, decide_eq_true_eq, decide_eq_false_iff_not, Bool.not_eq_true', Bool.not_eq_false', ← Int32.toInt_inj] at q ⊢; omega
    refine Eq.mp (congrArg (fun t => post t S) e) ?_
    exact h
  · refine kt S ?_
    have e : (decide (0 < x)) = true := by simp only [Int32.lt_iff_toInt_lt, Int32.le_iff_toInt_le, decide_eq_true_eq, decide_eq_false_iff_not, Bool.not_eq_true', Bool.not_eq_false', ← Int32.toInt_inj] at q ⊢; omega
    refine Eq.mp (congrArg (fun t => post t S) e) ?_
    exact h
theorem hd_c_geT (C : hd_Ok κ cc own Ts nL sh cl lv) {a b : hd_xI} {off : Int} {tgt : Nat} (ha : hd_XI κ pc p1 k a) (hb : hd_XI κ p1 p2 (k + 1) b) (d : decode cc p2 = .ok (.if_icmp .ge off, 3)) (ht : (p2 : Int) + off = (tgt : Int)) : hd_XC κ pc tgt (p2 + 3) k (hd_cI (fun x y => decide (y ≤ x)) a b) := by
  intro ρ st S post hk hx kt kf
  refine ha ρ st S _ hk hx (fun x S h => hb ρ _ S _ (hd_c1 rfl hk) h (fun y S h => hd_t_icmp_ge C d ht (fun q => ?_) (fun q => ?_)))
  · refine kt S ?_
    have e : (decide (y ≤ x)) = true := by simp only [Int32.lt_iff_toInt_lt, Int32.le_iff_toInt_le, decide_eq_true_eq, decide_eq_false_iff_not, Bool.not_eq_true', Bool.not_eq_false', ← Int32.toInt_inj] at q ⊢; omega
    refine Eq.mp (congrArg (fun t => post t S) e) ?_
    exact h
  · refine kf S ?_
    have e : (decide (y ≤ x)) = false := by simp only [Int32.lt_iff_toInt_lt, Int32.le_iff_toInt_le, decide_eq_true_eq, decide_eq_false_iff_not, Bool.not_eq_true', Bool.not_eq_false', ← Int32.toInt_inj] at q ⊢; omega
    refine Eq.mp (congrArg (fun t => post t S) e) ?_
    exact h
theorem hd_z_geT (C : hd_Ok κ cc own Ts nL sh cl lv) {a : hd_xI} {off : Int} {tgt : Nat} (ha : hd_XI κ pc p2 k a) (d : decode cc p2 = .ok (.ifCond .ge off, 3)) (ht : (p2 : Int) + off = (tgt : Int)) : hd_XC κ pc tgt (p2 + 3) k (hd_c0 (fun x => decide (0 ≤ x)) a) := by
  intro ρ st S post hk hx kt kf
  refine ha ρ st S _ hk hx (fun x S h => hd_t_if_ge C (y := 0) d ht (fun q => ?_) (fun q => ?_))
  · refine kt S ?_
    have e : (decide (0 ≤ x)) = true := by simp only [Int32.lt_iff_toInt_lt, Int32.le_iff_toInt_le, decide_eq_true_eq, decide_eq_false_iff_not, Bool.not_eq_true', Bool.not_eq_false', ← Int32.toInt_inj] at q ⊢; omega
    refine Eq.mp (congrArg (fun t => post t S) e) ?_
    exact h
  · refine kf S ?_
    have e : (decide (0 ≤ x)) = false := by simp only [Int32.lt_iff_toInt_lt, Int32.le_iff_toInt_le, decide_eq_true_eq, decide_eq_false_iff_not, Bool.not_eq_true', Bool.not_eq_false', ← Int32.toInt_inj] at q ⊢; omega
    refine Eq.mp (congrArg (fun t => post t S) e) ?_
    exact h
theorem hd_c_geF (C : hd_Ok κ cc own Ts nL sh cl lv) {a b : hd_xI} {off : Int} {tgt : Nat} (ha : hd_XI κ pc p1 k a) (hb : hd_XI κ p1 p2 (k + 1) b) (d : decode cc p2 = .ok (.if_icmp .lt off, 3)) (ht : (p2 : Int) + off = (tgt : Int)) : hd_XC κ pc (p2 + 3) tgt k (hd_cI (fun x y => decide (y ≤ x)) a b) := by
  intro ρ st S post hk hx kt kf
  refine ha ρ st S _ hk hx (fun x S h => hb ρ _ S _ (hd_c1 rfl hk) h (fun y S h => hd_t_icmp_lt C d ht (fun q => ?_) (fun q => ?_)))
  · refine kf S ?_
    have e : (decide (y ≤ x)) = false := by simp only [Int32.lt_iff_toInt_lt, Int32.le_iff_toInt_le, decide_eq_true_eq, decide_eq_false_iff_not, Bool.not_eq_true', Bool.not_eq_false', ← Int32.toInt_inj] at q ⊢; omega
    refine Eq.mp (congrArg (fun t => post t S) e) ?_
    exact h
  · refine kt S ?_
    have e : (decide (y ≤ x)) = true := by simp only [Int32.lt_iff_toInt_lt, Int32.le_iff_toInt_le, decide_eq_true_eq, decide_eq_false_iff_not, Bool.not_eq_true', Bool.not_eq_false', ← Int32.toInt_inj] at q ⊢; omega
    refine Eq.mp (congrArg (fun t => post t S) e) ?_
    exact h
theorem hd_z_geF (C : hd_Ok κ cc own Ts nL sh cl lv) {a : hd_xI} {off : Int} {tgt : Nat} (ha : hd_XI κ pc p2 k a) (d : decode cc p2 = .ok (.ifCond .lt off, 3)) (ht : (p2 : Int) + off = (tgt : Int)) : hd_XC κ pc (p2 + 3) tgt k (hd_c0 (fun x => decide (0 ≤ x)) a) := by
  intro ρ st S post hk hx kt kf
  refine ha ρ st S _ hk hx (fun x S h => hd_t_if_lt C (y := 0) d ht (fun q => ?_) (fun q => ?_))
  · refine kf S ?_
    have e : (decide (0 ≤ x)) = false := by simp only [Int32.lt_iff_toInt_lt, Int32.le_iff_toInt_le, decide_eq_true_eq, decide_eq_false_iff_not, Bool.not_eq_true', Bool.not_eq_false', ← Int32.toInt_inj] at q ⊢; omega
    refine Eq.mp (congrArg (fun t => post t S) e) ?_
    exact h
  · refine kt S ?_
    have e : (decide (0 ≤ x)) = true := by simp only [Int32.lt_iff_toInt_lt, Int32.le_iff_toInt_le, decide_eq_true_eq, decide_eq_false_iff_not, Bool.not_eq_true', Bool.not_eq_false', ← Int32.toInt_inj] at q ⊢; omega
    refine Eq.mp (congrArg (fun t => post t S) e) ?_
    exact h
theorem hd_c_eqT (C : hd_Ok κ cc own Ts nL sh cl lv) {a b : hd_xI} {off : Int} {tgt : Nat} (ha : hd_XI κ pc p1 k a) (hb : hd_XI κ p1 p2 (k + 1) b) (d : decode cc p2 = .ok (.if_icmp .eq off, 3)) (ht : (p2 : Int) + off = (tgt : Int)) : hd_XC κ pc tgt (p2 + 3) k (hd_cI (fun x y => decide (x = y)) a b) := by
  intro ρ st S post hk hx kt kf
  refine ha ρ st S _ hk hx (fun x S h => hb ρ _ S _ (hd_c1 rfl hk) h (fun y S h => hd_t_icmp_eq C d ht (fun q => ?_) (fun q => ?_)))
  · refine kt S ?_
    have e : (decide (x = y)) = true := by simp only [Int32.lt_iff_toInt_lt, Int32.le_iff_toInt_le, decide_eq_true_eq, decide_eq_false_iff_not, Bool.not_eq_true', Bool.not_eq_false', ← Int32.toInt_inj] at q ⊢; omega
    refine Eq.mp (congrArg (fun t => post t S) e) ?_
    exact h
  · refine kf S ?_
    have e : (decide (x = y)) = false := by simp only [Int32.lt_iff_toInt_lt, Int32.le_iff_toInt_le, decide_eq_true_eq, decide_eq_false_iff_not, Bool.not_eq_true', Bool.not_eq_false', ← Int32.toInt_inj] at q ⊢; omega
    refine Eq.mp (congrArg (fun t => post t S) e) ?_
    exact h
theorem hd_z_eqT (C : hd_Ok κ cc own Ts nL sh cl lv) {a : hd_xI} {off : Int} {tgt : Nat} (ha : hd_XI κ pc p2 k a) (d : decode cc p2 = .ok (.ifCond .eq off, 3)) (ht : (p2 : Int) + off = (tgt : Int)) : hd_XC κ pc tgt (p2 + 3) k (hd_c0 (fun x => decide (x = 0)) a) := by
  intro ρ st S post hk hx kt kf
  refine ha ρ st S _ hk hx (fun x S h => hd_t_if_eq C (y := 0) d ht (fun q => ?_) (fun q => ?_))
  · refine kt S ?_
    have e : (decide (x = 0)) = true := by simp only [Int32.lt_iff_toInt_lt, Int32.le_iff_toInt_le, decide_eq_true_eq, decide_eq_false_iff_not, Bool.not_eq_true', Bool.not_eq_false', ← Int32.toInt_inj] at q ⊢; omega
    refine Eq.mp (congrArg (fun t => post t S) e) ?_
    exact h
  · refine kf S ?_
    have e : (decide (x = 0)) = false := by simp only [Int32.lt_iff_toInt_lt, Int32.le_iff_toInt_le, decide_eq_true_eq, decide_eq_false_iff_not, Bool.not_eq_true', Bool.not_eq_false', ← Int32.toInt_inj] at q ⊢; omega
    refine Eq.mp (congrArg (fun t => post t S) e) ?_
    exact h
theorem hd_l_eqT (C : hd_Ok κ cc own Ts nL sh cl lv) {a b : hd_xJ} {off : Int} {tgt : Nat} (ha : hd_XJ κ pc p1 k a) (hb : hd_XJ κ p1 p2 (k + 2) b) (d0 : decode cc p2 = .ok (.lcmp, 1)) (d : decode cc (p2 + 1) = .ok (.ifCond .eq off, 3)) (ht : ((p2 + 1 : Nat) : Int) + off = (tgt : Int)) : hd_XC κ pc tgt (p2 + 4) k (hd_cJ (fun x y => decide (x = y)) a b) := by
  intro ρ st S post hk hx kt kf
  refine ha ρ st S _ hk hx (fun x S h => hb ρ _ S _ (hd_c2 hk) h (fun y S h => hd_t_lcmp C d0 (hd_t_if_eq C (y := 0) d ht (fun q => ?_) (fun q => ?_))))
  · refine kt S ?_
    have e : (decide (x = y)) = true := by have e1 := lg_cmp_eq x y; have e2 := lg_cmp_lt x y; have e3 : (0 : Int32) ≤ lg_cmp x y ↔ ¬ lg_cmp x y < 0 := Int32.not_lt.symm; simp only [e3, e1, e2, Decidable.not_not] at q; simp [q]
    refine Eq.mp (congrArg (fun t => post t S) e) ?_
    exact h
  · refine kf S ?_
    have e : (decide (x = y)) = false := by have e1 := lg_cmp_eq x y; have e2 := lg_cmp_lt x y; have e3 : (0 : Int32) ≤ lg_cmp x y ↔ ¬ lg_cmp x y < 0 := Int32.not_lt.symm; simp only [e3, e1, e2, Decidable.not_not] at q; simp [q]
    refine Eq.mp (congrArg (fun t => post t S) e) ?_
    exact h
theorem hd_c_eqF (C : hd_Ok κ cc own Ts nL sh cl lv) {a b : hd_xI} {off : Int} {tgt : Nat} (ha : hd_XI κ pc p1 k a) (hb : hd_XI κ p1 p2 (k + 1) b) (d : decode cc p2 = .ok (.if_icmp .ne off, 3)) (ht : (p2 : Int) + off = (tgt : Int)) : hd_XC κ pc (p2 + 3) tgt k (hd_cI (fun x y => decide (x = y)) a b) := by
  intro ρ st S post hk hx kt kf
  refine ha ρ st S _ hk hx (fun x S h => hb ρ _ S _ (hd_c1 rfl hk) h (fun y S h => hd_t_icmp_ne C d ht (fun q => ?_) (fun q => ?_)))
  · refine kf S ?_
    have e : (decide (x = y)) = false := by simp only [Int32.lt_iff_toInt_lt, Int32.le_iff_toInt_le, decide_eq_true_eq, decide_eq_false_iff_not, Bool.not_eq_true', Bool.not_eq_false', ← Int32.toInt_inj] at q ⊢; omega
    refine Eq.mp (congrArg (fun t => post t S) e) ?_
    exact h
  · refine kt S ?_
    have e : (decide (x = y)) = true := by simp only [Int32.lt_iff_toInt_lt, Int32.le_iff_toInt_le, decide_eq_true_eq, decide_eq_false_iff_not, Bool.not_eq_true', Bool.not_eq_false', ← Int32.toInt_inj] at q ⊢; omega
    refine Eq.mp (congrArg (fun t => post t S) e) ?_
    exact h
theorem hd_z_eqF (C : hd_Ok κ cc own Ts nL sh cl lv) {a : hd_xI} {off : Int} {tgt : Nat} (ha : hd_XI κ pc p2 k a) (d : decode cc p2 = .ok (.ifCond .ne off, 3)) (ht : (p2 : Int) + off = (tgt : Int)) : hd_XC κ pc (p2 + 3) tgt k (hd_c0 (fun x => decide (x = 0)) a) := by
  intro ρ st S post hk hx kt kf
  refine ha ρ st S _ hk hx (fun x S h => hd_t_if_ne C (y := 0) d ht (fun q => ?_) (fun q => ?_))
  · refine kf S ?_
    have e : (decide (x = 0)) = false := by simp only [Int32.lt_iff_toInt_lt, Int32.le_iff_toInt_le, decide_eq_true_eq, decide_eq_false_iff_not, Bool.not_eq_true', Bool.not_eq_false', ← Int32.toInt_inj] at q ⊢; omega
    refine Eq.mp (congrArg (fun t => post t S) e) ?_
    exact h
  · refine kt S ?_
    have e : (decide (x = 0)) = true := by simp only [Int32.lt_iff_toInt_lt, Int32.le_iff_toInt_le, decide_eq_true_eq, decide_eq_false_iff_not, Bool.not_eq_true', Bool.not_eq_false', ← Int32.toInt_inj] at q ⊢; omega
    refine Eq.mp (congrArg (fun t => post t S) e) ?_
    exact h
theorem hd_l_eqF (C : hd_Ok κ cc own Ts nL sh cl lv) {a b : hd_xJ} {off : Int} {tgt : Nat} (ha : hd_XJ κ pc p1 k a) (hb : hd_XJ κ p1 p2 (k + 2) b) (d0 : decode cc p2 = .ok (.lcmp, 1)) (d : decode cc (p2 + 1) = .ok (.ifCond .ne off, 3)) (ht : ((p2 + 1 : Nat) : Int) + off = (tgt : Int)) : hd_XC κ pc (p2 + 4) tgt k (hd_cJ (fun x y => decide (x = y)) a b) := by
  intro ρ st S post hk hx kt kf
  refine ha ρ st S _ hk hx (fun x S h => hb ρ _ S _ (hd_c2 hk) h (fun y S h => hd_t_lcmp C d0 (hd_t_if_ne C (y := 0) d ht (fun q => ?_) (fun q => ?_))))
  · refine kf S ?_
    have e : (decide (x = y)) = false := by have e1 := lg_cmp_eq x y; have e2 := lg_cmp_lt x y; have e3 : (0 : Int32) ≤ lg_cmp x y ↔ ¬ lg_cmp x y < 0 := Int32.not_lt.symm; simp only [e3, e1, e2, Decidable.not_not] at q; simp [q]
    refine Eq.mp (congrArg (fun t => post t S) e) ?_
    exact h
  · refine kt S ?_
    have e : (decide (x = y)) = true := by have e1 := lg_cmp_eq x y; have e2 := lg_cmp_lt x y; have e3 : (0 : Int32) ≤ lg_cmp x y ↔ ¬ lg_cmp x y < 0 := Int32.not_lt.symm; simp only [e3, e1, e2, Decidable.not_not] at q; simp [q]
    refine Eq.mp (congrArg (fun t => post t S) e) ?_
    exact h
theorem hd_c_neT (C : hd_Ok κ cc own Ts nL sh cl lv) {a b : hd_xI} {off : Int} {tgt : Nat} (ha : hd_XI κ pc p1 k a) (hb : hd_XI κ p1 p2 (k + 1) b) (d : decode cc p2 = .ok (.if_icmp .ne off, 3)) (ht : (p2 : Int) + off = (tgt : Int)) : hd_XC κ pc tgt (p2 + 3) k (hd_cI (fun x y => !decide (x = y)) a b) := by
  intro ρ st S post hk hx kt kf
  refine ha ρ st S _ hk hx (fun x S h => hb ρ _ S _ (hd_c1 rfl hk) h (fun y S h => hd_t_icmp_ne C d ht (fun q => ?_) (fun q => ?_)))
  · refine kt S ?_
    have e : (!decide (x = y)) = true := by simp only [Int32.lt_iff_toInt_lt, Int32.le_iff_toInt_le, decide_eq_true_eq, decide_eq_false_iff_not, Bool.not_eq_true', Bool.not_eq_false', ← Int32.toInt_inj] at q ⊢; omega
    refine Eq.mp (congrArg (fun t => post t S) e) ?_
    exact h
  · refine kf S ?_
    have e : (!decide (x = y)) = false := by simp only [Int32.lt_iff_toInt_lt, Int32.le_iff_toInt_le, decide_eq_true_eq, decide_eq_false_iff_not, Bool.not_eq_true', Bool.not_eq_false', ← Int32.toInt_inj] at q ⊢; omega
    refine Eq.mp (congrArg (fun t => post t S) e) ?_
    exact h
theorem hd_z_neT (C : hd_Ok κ cc own Ts nL sh cl lv) {a : hd_xI} {off : Int} {tgt : Nat} (ha : hd_XI κ pc p2 k a) (d : decode cc p2 = .ok (.ifCond .ne off, 3)) (ht : (p2 : Int) + off = (tgt : Int)) : hd_XC κ pc tgt (p2 + 3) k (hd_c0 (fun x => !decide (x = 0)) a) := by
  intro ρ st S post hk hx kt kf
  refine ha ρ st S _ hk hx (fun x S h => hd_t_if_ne C (y := 0) d ht (fun q => ?_) (fun q => ?_))
  · refine kt S ?_
    have e : (!decide (x = 0)) = true := by simp only [Int32.lt_iff_toInt_lt, Int32.le_iff_toInt_le, decide_eq_true_eq, decide_eq_false_iff_not, Bool.not_eq_true', Bool.not_eq_false', ← Int32.toInt_inj] at q ⊢; omega
    refine Eq.mp (congrArg (fun t => post t S) e) ?_
    exact h
  · refine kf S ?_
    have e : (!decide (x = 0)) = false := by simp only [Int32.lt_iff_toInt_lt, Int32.le_iff_toInt_le, decide_eq_true_eq, decide_eq_false_iff_not, Bool.not_eq_true', Bool.not_eq_false', ← Int32.toInt_inj] at q ⊢; omega
    refine Eq.mp (congrArg (fun t => post t S) e) ?_
    exact h
theorem hd_l_neT (C : hd_Ok κ cc own Ts nL sh cl lv) {a b : hd_xJ} {off : Int} {tgt : Nat} (ha : hd_XJ κ pc p1 k a) (hb : hd_XJ κ p1 p2 (k + 2) b) (d0 : decode cc p2 = .ok (.lcmp, 1)) (d : decode cc (p2 + 1) = .ok (.ifCond .ne off, 3)) (ht : ((p2 + 1 : Nat) : Int) + off = (tgt : Int)) : hd_XC κ pc tgt (p2 + 4) k (hd_cJ (fun x y => !decide (x = y)) a b) := by
  intro ρ st S post hk hx kt kf
  refine ha ρ st S _ hk hx (fun x S h => hb ρ _ S _ (hd_c2 hk) h (fun y S h => hd_t_lcmp C d0 (hd_t_if_ne C (y := 0) d ht (fun q => ?_) (fun q => ?_))))
  · refine kt S ?_
    have e : (!decide (x = y)) = true := by have e1 := lg_cmp_eq x y; have e2 := lg_cmp_lt x y; have e3 : (0 : Int32) ≤ lg_cmp x y ↔ ¬ lg_cmp x y < 0 := Int32.not_lt.symm; simp only [e3, e1, e2, Decidable.not_not] at q; simp [q]
    refine Eq.mp (congrArg (fun t => post t S) e) ?_
    exact h
  · refine kf S ?_
    have e : (!decide (x = y)) = false := by have e1 := lg_cmp_eq x y; have e2 := lg_cmp_lt x y; have e3 : (0 : Int32) ≤ lg_cmp x y ↔ ¬ lg_cmp x y < 0 := Int32.not_lt.symm; simp only [e3, e1, e2, Decidable.not_not] at q; simp [q]
    refine Eq.mp (congrArg (fun t => post t S) e) ?_
    exact h
theorem hd_c_neF (C : hd_Ok κ cc own Ts nL sh cl lv) {a b : hd_xI} {off : Int} {tgt : Nat} (ha : hd_XI κ pc p1 k a) (hb : hd_XI κ p1 p2 (k + 1) b) (d : decode cc p2 = .ok (.if_icmp .eq off, 3)) (ht : (p2 : Int) + off = (tgt : Int)) : hd_XC κ pc (p2 + 3) tgt k (hd_cI (fun x y => !decide (x = y)) a b) := by
  intro ρ st S post hk hx kt kf
  refine ha ρ st S _ hk hx (fun x S h => hb ρ _ S _ (hd_c1 rfl hk) h (fun y S h => hd_t_icmp_eq C d ht (fun q => ?_) (fun q => ?_)))
  · refine kf S ?_
    have e : (!decide (x = y)) = false := by simp only [Int32.lt_iff_toInt_lt, Int32.le_iff_toInt_le, decide_eq_true_eq, decide_eq_false_iff_not, Bool.not_eq_true', Bool.not_eq_false', ← Int32.toInt_inj] at q ⊢; omega
    refine Eq.mp (congrArg (fun t => post t S) e) ?_
    exact h
  · refine kt S ?_
    have e : (!decide (x = y)) = true := by simp only [Int32.lt_iff_toInt_lt, Int32.le_iff_toInt_le, decide_eq_true_eq, decide_eq_false_iff_not, Bool.not_eq_true', Bool.not_eq_false', ← Int32.toInt_inj] at q ⊢; omega
    refine Eq.mp (congrArg (fun t => post t S) e) ?_
    exact h
theorem hd_z_neF (C : hd_Ok κ cc own Ts nL sh cl lv) {a : hd_xI} {off : Int} {tgt : Nat} (ha : hd_XI κ pc p2 k a) (d : decode cc p2 = .ok (.ifCond .eq off, 3)) (ht : (p2 : Int) + off = (tgt : Int)) : hd_XC κ pc (p2 + 3) tgt k (hd_c0 (fun x => !decide (x = 0)) a) := by
  intro ρ st S post hk hx kt kf
  refine ha ρ st S _ hk hx (fun x S h => hd_t_if_eq C (y := 0) d ht (fun q => ?_) (fun q => ?_))
  · refine kf S ?_
    have e : (!decide (x = 0)) = false := by simp only [Int32.lt_iff_toInt_lt, Int32.le_iff_toInt_le, decide_eq_true_eq, decide_eq_false_iff_not, Bool.not_eq_true', Bool.not_eq_false', ← Int32.toInt_inj] at q ⊢; omega
    refine Eq.mp (congrArg (fun t => post t S) e) ?_
    exact h
  · refine kt S ?_
    have e : (!decide (x = 0)) = true := by simp only [Int32.lt_iff_toInt_lt, Int32.le_iff_toInt_le, decide_eq_true_eq, decide_eq_false_iff_not, Bool.not_eq_true', Bool.not_eq_false', ← Int32.toInt_inj] at q ⊢; omega
    refine Eq.mp (congrArg (fun t => post t S) e) ?_
    exact h
theorem hd_l_neF (C : hd_Ok κ cc own Ts nL sh cl lv) {a b : hd_xJ} {off : Int} {tgt : Nat} (ha : hd_XJ κ pc p1 k a) (hb : hd_XJ κ p1 p2 (k + 2) b) (d0 : decode cc p2 = .ok (.lcmp, 1)) (d : decode cc (p2 + 1) = .ok (.ifCond .eq off, 3)) (ht : ((p2 + 1 : Nat) : Int) + off = (tgt : Int)) : hd_XC κ pc (p2 + 4) tgt k (hd_cJ (fun x y => !decide (x = y)) a b) := by
  intro ρ st S post hk hx kt kf
  refine ha ρ st S _ hk hx (fun x S h => hb ρ _ S _ (hd_c2 hk) h (fun y S h => hd_t_lcmp C d0 (hd_t_if_eq C (y := 0) d ht (fun q => ?_) (fun q => ?_))))
  · refine kf S ?_
    have e : (!decide (x = y)) = false := by have e1 := lg_cmp_eq x y; have e2 := lg_cmp_lt x y; have e3 : (0 : Int32) ≤ lg_cmp x y ↔ ¬ lg_cmp x y < 0 := Int32.not_lt.symm; simp only [e3, e1, e2, Decidable.not_not] at q; simp [q]
    refine Eq.mp (congrArg (fun t => post t S) e) ?_
    exact h
  · refine kt S ?_
    have e : (!decide (x = y)) = true := by have e1 := lg_cmp_eq x y; have e2 := lg_cmp_lt x y; have e3 : (0 : Int32) ≤ lg_cmp x y ↔ ¬ lg_cmp x y < 0 := Int32.not_lt.symm; simp only [e3, e1, e2, Decidable.not_not] at q; simp [q]
    refine Eq.mp (congrArg (fun t => post t S) e) ?_
    exact h
theorem hd_not {a : hd_xC} (ha : hd_XC κ pc p2 p1 k a) : hd_XC κ pc p1 p2 k (hd_cX a) := by
  intro ρ st S post hk hx kt kf
  exact ha ρ st S _ hk hx (fun S h => kf S h) (fun S h => kt S h)
theorem hd_and {a b : hd_xC} (ha : hd_XC κ pc p1 p3 k a) (hb : hd_XC κ p1 p2 p3 k b) : hd_XC κ pc p2 p3 k (hd_cA a b) := by
  intro ρ st S post hk hx kt kf
  exact ha ρ st S _ hk hx (fun S h => hb ρ st S _ hk h kt kf) (fun S h => kf S h)
theorem hd_or {a b : hd_xC} (ha : hd_XC κ pc p2 p1 k a) (hb : hd_XC κ p1 p2 p3 k b) : hd_XC κ pc p2 p3 k (hd_cO a b) := by
  intro ρ st S post hk hx kt kf
  exact ha ρ st S _ hk hx (fun S h => kt S h) (fun S h => hb ρ st S _ hk h kt kf)
theorem hd_av0 : hd_XV κ pc pc k 0 hd_v0 := by
  intro ρ st S post hk hx kk
  exact kk [] S hx (Nat.le_refl 0)
theorem hd_apI {vs : hd_xV} {a : hd_xI} (hv : hd_XV κ pc p1 k n vs) (ha : hd_XI κ p1 p2 (k + n) a) : hd_XV κ pc p2 k (n + 1) (hd_pI vs a) := by
  intro ρ st S post hk hx kk
  refine hv ρ st S _ hk hx (fun as S h hn => ha ρ _ S _ ?_ h (fun x S h => ?_))
  · simp only [hd_cat, List.map_append, List.sum_append, List.map_reverse, List.sum_reverse] at hk hn ⊢
    omega
  · have h2 := kk (as ++ [hd_vI x]) S h (by rw [List.map_append]; show hd_cat (_ ++ [_]) ≤ _; rw [hd_cat_app]; exact Nat.add_le_add_right hn _)
    rw [List.map_append, List.reverse_append] at h2
    exact h2
theorem hd_apJ {vs : hd_xV} {a : hd_xJ} (hv : hd_XV κ pc p1 k n vs) (ha : hd_XJ κ p1 p2 (k + n) a) : hd_XV κ pc p2 k (n + 2) (hd_pJ vs a) := by
  intro ρ st S post hk hx kk
  refine hv ρ st S _ hk hx (fun as S h hn => ha ρ _ S _ ?_ h (fun x S h => ?_))
  · simp only [hd_cat, List.map_append, List.sum_append, List.map_reverse, List.sum_reverse] at hk hn ⊢
    omega
  · have h2 := kk (as ++ [hd_vJ x]) S h (by rw [List.map_append]; show hd_cat (_ ++ [_]) ≤ _; rw [hd_cat_app]; exact Nat.add_le_add_right hn _)
    rw [List.map_append, List.reverse_append] at h2
    exact h2
theorem hd_apR {vs : hd_xV} {a : hd_xR} (hv : hd_XV κ pc p1 k n vs) (ha : hd_XR κ p1 p2 (k + n) a) : hd_XV κ pc p2 k (n + 1) (hd_pR vs a) := by
  intro ρ st S post hk hx kk
  refine hv ρ st S _ hk hx (fun as S h hn => ha ρ _ S _ ?_ h (fun x S h => ?_))
  · simp only [hd_cat, List.map_append, List.sum_append, List.map_reverse, List.sum_reverse] at hk hn ⊢
    omega
  · have h2 := kk (as ++ [hd_vR x]) S h (by rw [List.map_append]; show hd_cat (_ ++ [_]) ≤ _; rw [hd_cat_app]; exact Nat.add_le_add_right hn _)
    rw [List.map_append, List.reverse_append] at h2
    exact h2
theorem hd_invV (C : hd_Ok κ cc own Ts nL sh cl lv) {y : MethodName} {wy ws2 : List Cond} {bytes : ByteArray} {maxL d idx ci nn cn : Nat} {ret : Option FieldType} {Cn : String} {T : u_T} {N : Nat} {r : hd_xR} {vs : hd_xV} {wm : hd_M} (hM : hd_Snd cl sh y wy d wm) (hw : wy = Cond.code y bytes maxL ret :: ws2) (hG : GoodIn Ts (wsV own idx Cn y wy)) (hcl : cl[ci]? = some (Cn, T, N)) (hy : y.cls = Cn ∧ y.cls ≠ "java/lang/invoke/MethodHandle" ∧ y.cls ≠ "java/lang/invoke/VarHandle" ∧ (parseMethodDescriptor y.desc).map (fun d => d.parameters.length) = some nn) (hd : d + 1 ≤ lv ∧ maxL ≤ 45) (hk8 : k ≤ 8) (hr : hd_XR κ pc p1 k r) (hv : hd_XV κ p1 p2 (k + 1) cn vs) (dd : decode cc p2 = .ok (.invokevirtual idx, 3)) : hd_XN κ pc (p2 + 3) k (hd_nV sh ci r nn vs wm) := by
  intro ρ st S post hk hx kk
  refine hr ρ st S _ hk hx (fun c S ⟨⟨fl, h1⟩, h⟩ => hv ρ _ S _ (hd_c1 rfl hk) h (fun as S ⟨hn, h9⟩ _ => ?_))
  subst hn
  exact hd_t_callV C hw hG hcl h1 hy hd hM h9 dd (Nat.le_trans hk hk8) kk
theorem hd_invS (C : hd_Ok κ cc own Ts nL sh cl lv) {y : MethodName} {wy ws2 : List Cond} {bytes : ByteArray} {maxL d idx nn cn : Nat} {ret : Option FieldType} {vs : hd_xV} {wm : hd_M} (hM : hd_Snd cl sh y wy d wm) (hw : wy = Cond.code y bytes maxL ret :: ws2) (hG : GoodIn Ts (va_wsS own idx y wy)) (hy : y.cls ≠ "java/lang/invoke/MethodHandle" ∧ y.cls ≠ "java/lang/invoke/VarHandle" ∧ (parseMethodDescriptor y.desc).map (fun d => d.parameters.length) = some nn) (hd : d + 1 ≤ lv ∧ maxL ≤ 45) (hk8 : k ≤ 8) (hv : hd_XV κ pc p2 k cn vs) (dd : decode cc p2 = .ok (.invokestatic idx, 3)) : hd_XN κ pc (p2 + 3) k (hd_nS nn vs wm) := by
  intro ρ st S post hk hx kk
  refine hv ρ st S _ hk hx (fun as S ⟨hn, h⟩ _ => ?_)
  subst hn
  exact hd_t_callS C hw hG hy hd hM h dd (Nat.le_trans hk hk8) kk
theorem hd_inI {x : hd_xN} (h : hd_XN κ pc p1 k x) : hd_XI κ pc p1 k (hd_iN x) := by
  intro ρ st S post hk hx kk
  refine h ρ st S _ hk hx (fun v S h => ?_)
  split at h
  · exact kk _ _ h
  · exact h.elim
theorem hd_inJ {x : hd_xN} (h : hd_XN κ pc p1 k x) : hd_XJ κ pc p1 k (hd_jN x) := by
  intro ρ st S post hk hx kk
  refine h ρ st S _ hk hx (fun v S h => ?_)
  split at h
  · exact kk _ _ h
  · exact h.elim
theorem hd_inR {x : hd_xN} (h : hd_XN κ pc p1 k x) : hd_XR κ pc p1 k (hd_rN x) := by
  intro ρ st S post hk hx kk
  refine h ρ st S _ hk hx (fun v S h => ?_)
  split at h
  · exact kk _ _ h
  · exact h.elim
theorem hd_st0 {es : List Nat} (h : pc ∈ es) : hd_XS κ pc es hd_s0 := by
  intro ρ S nrm ret hx kk kr
  exact kk pc h ρ S hx
theorem hd_seq {es : List Nat} {a b : hd_xS} (ha : hd_XS κ pc [p1] a) (hb : hd_XS κ p1 es b) : hd_XS κ pc es (hd_sQ a b) := by
  intro ρ S nrm ret hx kk kr
  exact ha ρ S _ ret hx (fun q hq ρ' S' h => by rw [List.mem_singleton.mp hq]; exact hb ρ' S' nrm ret h kk kr) kr
/-- a statement that never ends normally, or whose every end is behind -/
theorem hd_seqn {es : List Nat} {a b : hd_xS} (ha : hd_XS κ pc [] a) (hn : ∀ ρ S nrm nrm' ret, a ρ S nrm ret → a ρ S nrm' ret) : hd_XS κ pc es (hd_sQ a b) := by
  intro ρ S nrm ret hx kk kr
  exact ha ρ S (fun _ _ => False) ret (hn ρ S _ _ ret hx) (fun q hq => by cases hq) kr
theorem hd_ends {es es' : List Nat} {a : hd_xS} (h : ∀ q ∈ es, q ∈ es') (ha : hd_XS κ pc es a) : hd_XS κ pc es' a := by
  intro ρ S nrm ret hx kk kr
  exact ha ρ S nrm ret hx (fun q hq => kk q (h q hq)) kr
theorem hd_sistore_n (C : hd_Ok κ cc own Ts nL sh cl lv) {kk0 : Fin 4} {a : hd_xI} (ha : hd_XI κ pc p1 0 a) (d : decode cc p1 = .ok (.istore_n kk0, 1)) (hn : (kk0 : Nat) < nL) : hd_XS κ pc [p1 + 1] (hd_sI (kk0 : Nat) a) := by
  intro ρ S nrm ret hx kk kr
  exact ha ρ [] S _ (Nat.le_refl 0) hx (fun x S h => hd_t_istore_n C d rfl hn (kk _ (List.mem_singleton.mpr rfl) _ _ h))
theorem hd_sistore (C : hd_Ok κ cc own Ts nL sh cl lv) {i : Nat} {a : hd_xI} (ha : hd_XI κ pc p1 0 a) (d : decode cc p1 = .ok (.istore i, 2)) (hn : i < nL) : hd_XS κ pc [p1 + 2] (hd_sI i a) := by
  intro ρ S nrm ret hx kk kr
  exact ha ρ [] S _ (Nat.le_refl 0) hx (fun x S h => hd_t_istore C d hn (kk _ (List.mem_singleton.mpr rfl) _ _ h))
theorem hd_slstore_n (C : hd_Ok κ cc own Ts nL sh cl lv) {kk0 : Fin 4} {a : hd_xJ} (ha : hd_XJ κ pc p1 0 a) (d : decode cc p1 = .ok (.lstore_n kk0, 1)) (hn : (kk0 : Nat) + 1 < nL) : hd_XS κ pc [p1 + 1] (hd_sJ (kk0 : Nat) a) := by
  intro ρ S nrm ret hx kk kr
  exact ha ρ [] S _ (Nat.le_refl 0) hx (fun x S h => hd_t_lstore_n C d rfl hn (kk _ (List.mem_singleton.mpr rfl) _ _ h))
theorem hd_slstore (C : hd_Ok κ cc own Ts nL sh cl lv) {i : Nat} {a : hd_xJ} (ha : hd_XJ κ pc p1 0 a) (d : decode cc p1 = .ok (.lstore i, 2)) (hn : i + 1 < nL) : hd_XS κ pc [p1 + 2] (hd_sJ i a) := by
  intro ρ S nrm ret hx kk kr
  exact ha ρ [] S _ (Nat.le_refl 0) hx (fun x S h => hd_t_lstore C d hn (kk _ (List.mem_singleton.mpr rfl) _ _ h))
theorem hd_sastore_n (C : hd_Ok κ cc own Ts nL sh cl lv) {kk0 : Fin 4} {a : hd_xR} (ha : hd_XR κ pc p1 0 a) (d : decode cc p1 = .ok (.astore_n kk0, 1)) (hn : (kk0 : Nat) < nL) : hd_XS κ pc [p1 + 1] (hd_sR (kk0 : Nat) a) := by
  intro ρ S nrm ret hx kk kr
  exact ha ρ [] S _ (Nat.le_refl 0) hx (fun x S h => hd_t_astore_n C d rfl hn (kk _ (List.mem_singleton.mpr rfl) _ _ h))
theorem hd_sastore (C : hd_Ok κ cc own Ts nL sh cl lv) {i : Nat} {a : hd_xR} (ha : hd_XR κ pc p1 0 a) (d : decode cc p1 = .ok (.astore i, 2)) (hn : i < nL) : hd_XS κ pc [p1 + 2] (hd_sR i a) := by
  intro ρ S nrm ret hx kk kr
  exact ha ρ [] S _ (Nat.le_refl 0) hx (fun x S h => hd_t_astore C d hn (kk _ (List.mem_singleton.mpr rfl) _ _ h))
theorem hd_siinc (C : hd_Ok κ cc own Ts nL sh cl lv) {i : Nat} {n : Int} {v : Int32} (d : decode cc pc = .ok (.iinc i n, 3)) (hn : i < nL) (hv : Int32.ofInt n = v) : hd_XS κ pc [pc + 3] (hd_sP i v) := by
  intro ρ S nrm ret hx kk kr
  subst hv
  unfold hd_sP at hx
  split at hx
  · next x h0 => exact hd_t_iinc C d h0 hn rfl (kk _ (List.mem_singleton.mpr rfl) _ _ hx)
  · exact hx.elim
theorem hd_sputI (C : hd_Ok κ cc own Ts nL sh cl lv) {ci k0 idx : Nat} {r : hd_xR} {a : hd_xI} (hF : hd_FP Ts own cl ci k0 idx .int) (hr : hd_XR κ pc p1 0 r) (ha : hd_XI κ p1 p2 1 a) (d : decode cc p2 = .ok (.putfield idx, 3)) : hd_XS κ pc [p2 + 3] (hd_sF sh ci k0 r a) := by
  intro ρ S nrm ret hx kk kr
  exact hr ρ [] S _ (Nat.le_refl 0) hx (fun c S h => ha ρ _ S _ (hd_c1 rfl (Nat.le_refl 0)) h (fun x S ⟨⟨fl, h1, h2⟩, h⟩ => hd_t_putI C hF rfl rfl h1 h2 d (kk _ (List.mem_singleton.mpr rfl) _ _ h)))
theorem hd_sputZ (C : hd_Ok κ cc own Ts nL sh cl lv) {ci k0 idx : Nat} {r : hd_xR} {a : hd_xI} (hF : hd_FP Ts own cl ci k0 idx .boolean) (hr : hd_XR κ pc p1 0 r) (ha : hd_XI κ p1 p2 1 a) (d : decode cc p2 = .ok (.putfield idx, 3)) : hd_XS κ pc [p2 + 3] (hd_sZ sh ci k0 r a) := by
  intro ρ S nrm ret hx kk kr
  exact hr ρ [] S _ (Nat.le_refl 0) hx (fun c S h => ha ρ _ S _ (hd_c1 rfl (Nat.le_refl 0)) h (fun x S ⟨hz, ⟨fl, h1, h2⟩, h⟩ => hd_t_putI C hF (by rcases hz with rfl | rfl <;> rfl) (by rcases hz with rfl | rfl <;> rfl) h1 h2 d (kk _ (List.mem_singleton.mpr rfl) _ _ h)))
theorem hd_sfld_iadd (C : hd_Ok κ cc own Ts nL sh cl lv) {ci k0 idx : Nat} {r : hd_xR} {a : hd_xI} (hG : hd_F Ts own cl ci k0 idx) (hF : hd_FP Ts own cl ci k0 idx .int) (hr : hd_XR κ pc p1 0 r) (d1 : decode cc p1 = .ok (.dup, 1)) (d2 : decode cc (p1 + 1) = .ok (.getfield idx, 3)) (ha : hd_XI κ (p1 + 1 + 3) p2 2 a) (d3 : decode cc p2 = .ok (.iadd, 1)) (d : decode cc (p2 + 1) = .ok (.putfield idx, 3)) : hd_XS κ pc [p2 + 1 + 3] (hd_sG (fun x y => x + y) sh ci k0 r a) := by
  intro ρ S nrm ret hx kk kr
  refine hr ρ [] S _ (Nat.le_refl 0) hx (fun c S ⟨⟨fl, h1, h2⟩, h⟩ => hd_t_dup C d1 rfl (hd_t_getI C hG h1 h2 d2 ?_))
  exact ha ρ _ S _ (hd_c1 rfl (hd_c1 rfl (Nat.le_refl 0))) h (fun x S' h => hd_t_iadd C d3 (hd_t_putI C hF rfl rfl h1 h2 d (kk _ (List.mem_singleton.mpr rfl) _ _ h)))
theorem hd_sarr_iadd (C : hd_Ok κ cc own Ts nL sh cl lv) {r : hd_xR} {a b : hd_xI} (hr : hd_XR κ pc p1 0 r) (ha : hd_XI κ p1 p2 1 a) (d1 : decode cc p2 = .ok (.dup2, 1)) (d2 : decode cc (p2 + 1) = .ok (.iaload, 1)) (hb : hd_XI κ (p2 + 1 + 1) p3 3 b) (d3 : decode cc p3 = .ok (.iadd, 1)) (d : decode cc (p3 + 1) = .ok (.iastore, 1)) : hd_XS κ pc [p3 + 1 + 1] (hd_sO (fun x y => x + y) sh r a b) := by
  intro ρ S nrm ret hx kk kr
  refine hr ρ [] S _ (Nat.le_refl 0) hx (fun c S h => ha ρ _ S _ (hd_c1 rfl (Nat.le_refl 0)) h (fun i S ⟨⟨n, h1, h2⟩, h⟩ => hd_t_dup2 C d1 rfl rfl (hd_t_iald C h1 h2 d2 ?_)))
  exact hb ρ _ S _ (hd_c1 rfl (hd_c1 rfl (hd_c1 rfl (Nat.le_refl 0)))) h (fun x S' h => hd_t_iadd C d3 (hd_t_iast C h1 h2 d (kk _ (List.mem_singleton.mpr rfl) _ _ h)))
theorem hd_sfld_isub (C : hd_Ok κ cc own Ts nL sh cl lv) {ci k0 idx : Nat} {r : hd_xR} {a : hd_xI} (hG : hd_F Ts own cl ci k0 idx) (hF : hd_FP Ts own cl ci k0 idx .int) (hr : hd_XR κ pc p1 0 r) (d1 : decode cc p1 = .ok (.dup, 1)) (d2 : decode cc (p1 + 1) = .ok (.getfield idx, 3)) (ha : hd_XI κ (p1 + 1 + 3) p2 2 a) (d3 : decode cc p2 = .ok (.isub, 1)) (d : decode cc (p2 + 1) = .ok (.putfield idx, 3)) : hd_XS κ pc [p2 + 1 + 3] (hd_sG (fun x y => x - y) sh ci k0 r a) := by
  intro ρ S nrm ret hx kk kr
  refine hr ρ [] S _ (Nat.le_refl 0) hx (fun c S ⟨⟨fl, h1, h2⟩, h⟩ => hd_t_dup C d1 rfl (hd_t_getI C hG h1 h2 d2 ?_))
  exact ha ρ _ S _ (hd_c1 rfl (hd_c1 rfl (Nat.le_refl 0))) h (fun x S' h => hd_t_isub C d3 (hd_t_putI C hF rfl rfl h1 h2 d (kk _ (List.mem_singleton.mpr rfl) _ _ h)))
theorem hd_sarr_isub (C : hd_Ok κ cc own Ts nL sh cl lv) {r : hd_xR} {a b : hd_xI} (hr : hd_XR κ pc p1 0 r) (ha : hd_XI κ p1 p2 1 a) (d1 : decode cc p2 = .ok (.dup2, 1)) (d2 : decode cc (p2 + 1) = .ok (.iaload, 1)) (hb : hd_XI κ (p2 + 1 + 1) p3 3 b) (d3 : decode cc p3 = .ok (.isub, 1)) (d : decode cc (p3 + 1) = .ok (.iastore, 1)) : hd_XS κ pc [p3 + 1 + 1] (hd_sO (fun x y => x - y) sh r a b) := by
  intro ρ S nrm ret hx kk kr
  refine hr ρ [] S _ (Nat.le_refl 0) hx (fun c S h => ha ρ _ S _ (hd_c1 rfl (Nat.le_refl 0)) h (fun i S ⟨⟨n, h1, h2⟩, h⟩ => hd_t_dup2 C d1 rfl rfl (hd_t_iald C h1 h2 d2 ?_)))
  exact hb ρ _ S _ (hd_c1 rfl (hd_c1 rfl (hd_c1 rfl (Nat.le_refl 0)))) h (fun x S' h => hd_t_isub C d3 (hd_t_iast C h1 h2 d (kk _ (List.mem_singleton.mpr rfl) _ _ h)))
theorem hd_sfld_iand (C : hd_Ok κ cc own Ts nL sh cl lv) {ci k0 idx : Nat} {r : hd_xR} {a : hd_xI} (hG : hd_F Ts own cl ci k0 idx) (hF : hd_FP Ts own cl ci k0 idx .int) (hr : hd_XR κ pc p1 0 r) (d1 : decode cc p1 = .ok (.dup, 1)) (d2 : decode cc (p1 + 1) = .ok (.getfield idx, 3)) (ha : hd_XI κ (p1 + 1 + 3) p2 2 a) (d3 : decode cc p2 = .ok (.iand, 1)) (d : decode cc (p2 + 1) = .ok (.putfield idx, 3)) : hd_XS κ pc [p2 + 1 + 3] (hd_sG (fun x y => x &&& y) sh ci k0 r a) := by
  intro ρ S nrm ret hx kk kr
  refine hr ρ [] S _ (Nat.le_refl 0) hx (fun c S ⟨⟨fl, h1, h2⟩, h⟩ => hd_t_dup C d1 rfl (hd_t_getI C hG h1 h2 d2 ?_))
  exact ha ρ _ S _ (hd_c1 rfl (hd_c1 rfl (Nat.le_refl 0))) h (fun x S' h => hd_t_iand C d3 (hd_t_putI C hF rfl rfl h1 h2 d (kk _ (List.mem_singleton.mpr rfl) _ _ h)))
theorem hd_sarr_iand (C : hd_Ok κ cc own Ts nL sh cl lv) {r : hd_xR} {a b : hd_xI} (hr : hd_XR κ pc p1 0 r) (ha : hd_XI κ p1 p2 1 a) (d1 : decode cc p2 = .ok (.dup2, 1)) (d2 : decode cc (p2 + 1) = .ok (.iaload, 1)) (hb : hd_XI κ (p2 + 1 + 1) p3 3 b) (d3 : decode cc p3 = .ok (.iand, 1)) (d : decode cc (p3 + 1) = .ok (.iastore, 1)) : hd_XS κ pc [p3 + 1 + 1] (hd_sO (fun x y => x &&& y) sh r a b) := by
  intro ρ S nrm ret hx kk kr
  refine hr ρ [] S _ (Nat.le_refl 0) hx (fun c S h => ha ρ _ S _ (hd_c1 rfl (Nat.le_refl 0)) h (fun i S ⟨⟨n, h1, h2⟩, h⟩ => hd_t_dup2 C d1 rfl rfl (hd_t_iald C h1 h2 d2 ?_)))
  exact hb ρ _ S _ (hd_c1 rfl (hd_c1 rfl (hd_c1 rfl (Nat.le_refl 0)))) h (fun x S' h => hd_t_iand C d3 (hd_t_iast C h1 h2 d (kk _ (List.mem_singleton.mpr rfl) _ _ h)))
theorem hd_siast (C : hd_Ok κ cc own Ts nL sh cl lv) {r : hd_xR} {a b : hd_xI} (hr : hd_XR κ pc p1 0 r) (ha : hd_XI κ p1 p2 1 a) (hb : hd_XI κ p2 p3 2 b) (d : decode cc p3 = .ok (.iastore, 1)) : hd_XS κ pc [p3 + 1] (hd_sA sh r a b) := by
  intro ρ S nrm ret hx kk kr
  exact hr ρ [] S _ (Nat.le_refl 0) hx (fun c S h => ha ρ _ S _ (hd_c1 rfl (Nat.le_refl 0)) h (fun i S h => hb ρ _ S _ (hd_c1 rfl (hd_c1 rfl (Nat.le_refl 0))) h (fun x S ⟨⟨n, h1, h2⟩, h⟩ => hd_t_iast C h1 h2 d (kk _ (List.mem_singleton.mpr rfl) _ _ h))))
theorem hd_slast (C : hd_Ok κ cc own Ts nL sh cl lv) {r : hd_xR} {a : hd_xI} {b : hd_xJ} (hr : hd_XR κ pc p1 0 r) (ha : hd_XI κ p1 p2 1 a) (hb : hd_XJ κ p2 p3 2 b) (d : decode cc p3 = .ok (.lastore, 1)) : hd_XS κ pc [p3 + 1] (hd_sL sh r a b) := by
  intro ρ S nrm ret hx kk kr
  exact hr ρ [] S _ (Nat.le_refl 0) hx (fun c S h => ha ρ _ S _ (hd_c1 rfl (Nat.le_refl 0)) h (fun i S h => hb ρ _ S _ (hd_c1 rfl (hd_c1 rfl (Nat.le_refl 0))) h (fun x S ⟨⟨n, h1, h2⟩, h⟩ => hd_t_last C h1 h2 d (kk _ (List.mem_singleton.mpr rfl) _ _ h))))
theorem hd_saast (C : hd_Ok κ cc own Ts nL sh cl lv) {ci N : Nat} {T : u_T} {r b : hd_xR} {a : hd_xI} (hcl : cl[ci]? = some ("HallDesk$Plan", T, N)) (hr : hd_XR κ pc p1 0 r) (ha : hd_XI κ p1 p2 1 a) (hb : hd_XR κ p2 p3 2 b) (d : decode cc p3 = .ok (.aastore, 1)) : hd_XS κ pc [p3 + 1] (hd_sB sh ci r a b) := by
  intro ρ S nrm ret hx kk kr
  exact hr ρ [] S _ (Nat.le_refl 0) hx (fun c S h => ha ρ _ S _ (hd_c1 rfl (Nat.le_refl 0)) h (fun i S h => hb ρ _ S _ (hd_c1 rfl (hd_c1 rfl (Nat.le_refl 0))) h (fun x S ⟨⟨n, h1, h2⟩, ⟨fl, h3⟩, h⟩ => hd_t_aast2 C h1 h3 hcl h2 d (kk _ (List.mem_singleton.mpr rfl) _ _ h))))
theorem hd_scopyi (C : hd_Ok κ cc own Ts nL sh cl lv) {idx : Nat} {r q : hd_xR} {a b e : hd_xI} (h1 : Cond.methodLink own idx arraycopyName ∈ Ts) (h2 : Cond.native arraycopyName ∈ Ts) (h3 : Cond.static arraycopyName ∈ Ts) (h4 : Cond.initialized "java/lang/System" ∈ Ts) (hr : hd_XR κ pc p1 0 r) (ha : hd_XI κ p1 p2 1 a) (hq : hd_XR κ p2 p3 2 q) (hb : hd_XI κ p3 p4 3 b) (he : hd_XI κ p4 p5 4 e) (d : decode cc p5 = .ok (.invokestatic idx, 3)) : hd_XS κ pc [p5 + 3] (hd_sCI sh r a q b e) := by
  intro ρ S nrm ret hx kk kr
  exact hr ρ [] S _ (Nat.le_refl 0) hx (fun c0 S h => ha ρ _ S _ (hd_c1 rfl (Nat.le_refl 0)) h (fun sp S h => hq ρ _ S _ (hd_c1 rfl (hd_c1 rfl (Nat.le_refl 0))) h (fun c S h => hb ρ _ S _ (hd_c1 rfl (hd_c1 rfl (hd_c1 rfl (Nat.le_refl 0)))) h (fun dp S h => he ρ _ S _ (hd_c1 rfl (hd_c1 rfl (hd_c1 rfl (hd_c1 rfl (Nat.le_refl 0))))) h (fun mm S ⟨⟨n0, n, g1, g2, g3, g4, g5, g6, g7⟩, h⟩ => hd_t_copyi C h1 h2 h3 h4 g1 g2 g3 g4 g5 g6 g7 (Nat.zero_le 8) d (kk _ (List.mem_singleton.mpr rfl) _ _ h))))))
theorem hd_scopyl (C : hd_Ok κ cc own Ts nL sh cl lv) {idx : Nat} {r q : hd_xR} {a b e : hd_xI} (h1 : Cond.methodLink own idx arraycopyName ∈ Ts) (h2 : Cond.native arraycopyName ∈ Ts) (h3 : Cond.static arraycopyName ∈ Ts) (h4 : Cond.initialized "java/lang/System" ∈ Ts) (hr : hd_XR κ pc p1 0 r) (ha : hd_XI κ p1 p2 1 a) (hq : hd_XR κ p2 p3 2 q) (hb : hd_XI κ p3 p4 3 b) (he : hd_XI κ p4 p5 4 e) (d : decode cc p5 = .ok (.invokestatic idx, 3)) : hd_XS κ pc [p5 + 3] (hd_sCL sh r a q b e) := by
  intro ρ S nrm ret hx kk kr
  exact hr ρ [] S _ (Nat.le_refl 0) hx (fun c0 S h => ha ρ _ S _ (hd_c1 rfl (Nat.le_refl 0)) h (fun sp S h => hq ρ _ S _ (hd_c1 rfl (hd_c1 rfl (Nat.le_refl 0))) h (fun c S h => hb ρ _ S _ (hd_c1 rfl (hd_c1 rfl (hd_c1 rfl (Nat.le_refl 0)))) h (fun dp S h => he ρ _ S _ (hd_c1 rfl (hd_c1 rfl (hd_c1 rfl (hd_c1 rfl (Nat.le_refl 0))))) h (fun mm S ⟨⟨n0, n, g1, g2, g3, g4, g5, g6, g7⟩, h⟩ => hd_t_copyl C h1 h2 h3 h4 g1 g2 g3 g4 g5 g6 g7 (Nat.zero_le 8) d (kk _ (List.mem_singleton.mpr rfl) _ _ h))))))
theorem hd_scall {x : hd_xN} (h : hd_XN κ pc p1 0 x) : hd_XS κ pc [p1] (hd_sN x) := by
  intro ρ S nrm ret hx kk kr
  refine h ρ [] S _ (Nat.le_refl 0) hx (fun v S ⟨hv, h⟩ => ?_)
  subst hv
  exact kk _ (List.mem_singleton.mpr rfl) _ _ h
theorem hd_spop (C : hd_Ok κ cc own Ts nL sh cl lv) {x : hd_xI} (h : hd_XI κ pc p1 0 x) (d : decode cc p1 = .ok (.pop, 1)) : hd_XS κ pc [p1 + 1] (hd_sD x) := by
  intro ρ S nrm ret hx kk kr
  exact h ρ [] S _ (Nat.le_refl 0) hx (fun v S h => hd_t_pop C d rfl (kk _ (List.mem_singleton.mpr rfl) _ _ h))
theorem hd_if {es : List Nat} {c : hd_xC} {a : hd_xS} (hc : hd_XC κ pc p1 p2 0 c) (ha : hd_XS κ p1 es a) (h2 : p2 ∈ es) : hd_XS κ pc es (hd_sW c a) := by
  intro ρ S nrm ret hx kk kr
  exact hc ρ [] S _ (Nat.le_refl 0) hx (fun S h => ha ρ S nrm ret h kk kr) (fun S h => kk p2 h2 ρ S h)
/-- both ways end in es themselves -/
theorem hd_ife {es : List Nat} {c : hd_xC} {a b : hd_xS} (hc : hd_XC κ pc p1 p2 0 c) (ha : hd_XS κ p1 es a) (hb : hd_XS κ p2 es b) : hd_XS κ pc es (hd_sE c a b) := by
  intro ρ S nrm ret hx kk kr
  exact hc ρ [] S _ (Nat.le_refl 0) hx (fun S h => ha ρ S nrm ret h kk kr) (fun S h => hb ρ S nrm ret h kk kr)
theorem hd_sgoto (C : hd_Ok κ cc own Ts nL sh cl lv) {es : List Nat} {a : hd_xS} {off : Int} {tgt : Nat} (ha : hd_XS κ pc (p1 :: es) a) (d : decode cc p1 = .ok (.goto off, 3)) (ht : (p1 : Int) + off = (tgt : Int)) (h : tgt ∈ es) : hd_XS κ pc es a := by
  intro ρ S nrm ret hx kk kr
  refine ha ρ S nrm ret hx (fun q hq ρ' S' h' => ?_) kr
  rcases List.mem_cons.mp hq with rfl | hq
  · exact hd_t_goto C d ht (kk tgt h ρ' S' h')
  · exact kk q hq ρ' S' h'
theorem hd_loop (C : hd_Ok κ cc own Ts nL sh cl lv) {es : List Nat} {c : hd_xC} {b : hd_xS} (hc : hd_XC κ pc p1 p2 0 c) (hb : hd_XS κ p1 [pc] b) (h2 : p2 ∈ es) : hd_XS κ pc es (hd_sH c b) := by
  intro ρ S nrm ret hx kk kr
  obtain ⟨n, hx⟩ := hx
  induction n generalizing ρ S with
  | zero => exact hx.elim
  | succ n ih =>
    refine hc ρ [] S _ (Nat.le_refl 0) hx (fun S h => ?_) (fun S h => kk p2 h2 ρ S h)
    exact hb ρ S _ ret h (fun q hq ρ' S' h' => by rw [List.mem_singleton.mp hq]; exact ih ρ' S' h') kr
theorem hd_retI (C : hd_Ok κ cc own Ts nL sh cl lv) {es : List Nat} (Rk : hd_OkR κ (some .int)) {a : hd_xI} (ha : hd_XI κ pc p1 0 a) (d : decode cc p1 = .ok (.ireturn, 1)) : hd_XS κ pc es (hd_sRI a) := by
  intro ρ S nrm ret hx kk kr
  exact ha ρ [] S _ (Nat.le_refl 0) hx (fun x S h => hd_t_ireturn C Rk d (kr _ _ h))
theorem hd_retJ (C : hd_Ok κ cc own Ts nL sh cl lv) {es : List Nat} (Rk : hd_OkR κ (some .long)) {a : hd_xJ} (ha : hd_XJ κ pc p1 0 a) (d : decode cc p1 = .ok (.lreturn, 1)) : hd_XS κ pc es (hd_sRJ a) := by
  intro ρ S nrm ret hx kk kr
  exact ha ρ [] S _ (Nat.le_refl 0) hx (fun x S h => hd_t_lreturn C Rk d (kr _ _ h))
theorem hd_retZ (C : hd_Ok κ cc own Ts nL sh cl lv) {es : List Nat} (Rk : hd_OkR κ (some .boolean)) {a : hd_xI} (ha : hd_XI κ pc p1 0 a) (d : decode cc p1 = .ok (.ireturn, 1)) : hd_XS κ pc es (hd_sRZ a) := by
  intro ρ S nrm ret hx kk kr
  exact ha ρ [] S _ (Nat.le_refl 0) hx (fun x S ⟨hz, h⟩ => hd_t_zreturn C Rk hz d (kr _ _ h))
theorem hd_retR (C : hd_Ok κ cc own Ts nL sh cl lv) {es : List Nat} {nm : String} (Rk : hd_OkR κ (some (.object nm))) {a : hd_xR} (ha : hd_XR κ pc p1 0 a) (d : decode cc p1 = .ok (.areturn, 1)) : hd_XS κ pc es (hd_sRR a) := by
  intro ρ S nrm ret hx kk kr
  exact ha ρ [] S _ (Nat.le_refl 0) hx (fun x S h => hd_t_areturn C Rk d (kr _ _ h))
theorem hd_retV (C : hd_Ok κ cc own Ts nL sh cl lv) {es : List Nat} (Rk : hd_OkR κ none) (d : decode cc pc = .ok (.return_, 1)) : hd_XS κ pc es hd_sRV := by
  intro ρ S nrm ret hx kk kr
  exact hd_t_vreturn C Rk d (kr _ _ hx)
end HDRULES
