/-! THE SCRIPT is no cell of the world: its cell stays as it was (130 names its address) -/
def hd_scr : hd_Ctx → Nat → (Nat → Int32) → Prop
  | (_, _, _, _, s, _, _, _, _, _, _, _, _, _, _, _, ad, _, A, _, _), L, xs => va_X (ad 130) L xs s s.heap ∧ ad 130 < s.heap.size ∧ ¬ A (ad 130)
def hd_iS (L : Nat) (xs : Nat → Int32) (a : hd_xI) : hd_xI := fun ρ S post => hd_rL 0 ρ S (fun c S => c = 130 ∧ a ρ S (fun i S => vp_in i L ∧ post (xs i.toNatClampNeg) S))
def hd_iSL (L : Nat) : hd_xI := fun ρ S post => hd_rL 0 ρ S (fun c S => c = 130 ∧ post (Int32.ofNat L) S)
section HDSCR
variable {κ : hd_Ctx} {cc : ByteArray} {own : String} {Ts : List Cond} {nL : Nat} {sh : List hd_K} {cl : List vw_C} {lv : Nat} {pc p1 p2 k L : Nat} {ρ : List hd_V} {st : List Value} {S : hd_S} {xs : Nat → Int32}
theorem hd_t_sld (C : hd_Ok κ cc own Ts nL sh cl lv) (X : hd_scr κ L xs) {i : Int32} (hi : vp_in i L) (d : decode cc pc = .ok (.iaload, 1)) (k : hd_At κ (pc + 1) ρ (.int (xs i.toNatClampNeg) :: st) S) : hd_At κ pc ρ (.int i :: .ref (hd_ad κ 130) :: st) S := by
  obtain ⟨p, l, e, R, s, m, args, below, meth, cd, cells, slots, Q, D, cl, sh, ad, cA, A, PM, Z⟩ := κ
  obtain ⟨hx, hb, hrest⟩ := C
  obtain ⟨X1, X2, X3⟩ := X
  intro ls H locs hl hP hS
  exact va_sld hx hb X1 X2 X3 hS hi d (k ls H locs hl hP hS)
theorem hd_t_slen (C : hd_Ok κ cc own Ts nL sh cl lv) (X : hd_scr κ L xs) (d : decode cc pc = .ok (.arraylength, 1)) (k : hd_At κ (pc + 1) ρ (.int (Int32.ofNat L) :: st) S) : hd_At κ pc ρ (.ref (hd_ad κ 130) :: st) S := by
  obtain ⟨p, l, e, R, s, m, args, below, meth, cd, cells, slots, Q, D, cl, sh, ad, cA, A, PM, Z⟩ := κ
  obtain ⟨hx, hb, hrest⟩ := C
  obtain ⟨X1, X2, X3⟩ := X
  intro ls H locs hl hP hS
  exact va_slen hx hb X1 X2 X3 hS d (k ls H locs hl hP hS)
theorem hd_sld (C : hd_Ok κ cc own Ts nL sh cl lv) (X : hd_scr κ L xs) {a : hd_xI} (d0 : decode cc pc = .ok (.aload_n 0, 1)) (ha : hd_XI κ (pc + 1) p2 (k + 1) a) (d : decode cc p2 = .ok (.iaload, 1)) : hd_XI κ pc (p2 + 1) k (hd_iS L xs a) := by
  intro ρ st S post hk hx kk
  refine hd_aload_n C (k := k) (kk0 := 0) d0 ρ st S _ hk hx (fun c S ⟨hc, h⟩ => ?_)
  subst hc
  exact ha ρ _ S _ (hd_c1 rfl hk) h (fun i S ⟨hi, h⟩ => hd_t_sld C X hi d (kk _ _ h))
theorem hd_slen (C : hd_Ok κ cc own Ts nL sh cl lv) (X : hd_scr κ L xs) (d0 : decode cc pc = .ok (.aload_n 0, 1)) (d : decode cc (pc + 1) = .ok (.arraylength, 1)) : hd_XI κ pc (pc + 1 + 1) k (hd_iSL L) := by
  intro ρ st S post hk hx kk
  refine hd_aload_n C (k := k) (kk0 := 0) d0 ρ st S _ hk hx (fun c S ⟨hc, h⟩ => ?_)
  subst hc
  exact hd_t_slen C X d (kk _ _ h)
end HDSCR
