/-! what expressions (int, long, cell), conditions, arguments, statements do: transformers of what must hold behind them -/
abbrev hd_xI : Type := List hd_V → hd_S → (Int32 → hd_S → Prop) → Prop
abbrev hd_xJ : Type := List hd_V → hd_S → (Int64 → hd_S → Prop) → Prop
abbrev hd_xR : Type := List hd_V → hd_S → (Nat → hd_S → Prop) → Prop
abbrev hd_xC : Type := List hd_V → hd_S → (Bool → hd_S → Prop) → Prop
abbrev hd_xV : Type := List hd_V → hd_S → (List hd_V → hd_S → Prop) → Prop
abbrev hd_xN : Type := List hd_V → hd_S → (Option hd_V → hd_S → Prop) → Prop
abbrev hd_xS : Type := List hd_V → hd_S → (List hd_V → hd_S → Prop) → (Option hd_V → hd_S → Prop) → Prop
/-- an int field, a field that is a cell, an array's place, an object of a class -/
def hd_fI (sh : List hd_K) (ci k c : Nat) : Prop := ∃ fl, sh[c]? = some (.inl (ci, fl)) ∧ fl[k]? = some none
def hd_fR (sh : List hd_K) (ci k c t : Nat) : Prop := ∃ fl, sh[c]? = some (.inl (ci, fl)) ∧ fl[k]? = some (some t)
/-- the cell that a field holds; not to be evaluated -/
noncomputable def hd_ft (sh : List hd_K) (ci k c : Nat) : Nat := Classical.epsilon (fun t => hd_fR sh ci k c t)
theorem hd_ft_eq {sh : List hd_K} {ci k c t : Nat} (h : hd_fR sh ci k c t) : hd_ft sh ci k c = t := by
  have h2 : hd_fR sh ci k c (hd_ft sh ci k c) := Classical.epsilon_spec (p := fun t => hd_fR sh ci k c t) ⟨t, h⟩
  obtain ⟨fl, a, b⟩ := h
  obtain ⟨fl2, a2, b2⟩ := h2
  rw [a] at a2
  cases a2
  rw [b] at b2
  exact (Option.some.inj (Option.some.inj b2)).symm
def hd_in (sh : List hd_K) (t c : Nat) (i : Int32) : Prop := ∃ n, sh[c]? = some (.inr (t, n)) ∧ vp_in i n
def hd_isO (sh : List hd_K) (ci c : Nat) : Prop := ∃ fl, sh[c]? = some (.inl (ci, fl))
def hd_len (sh : List hd_K) (c : Nat) : Nat := match sh[c]? with
  | some (.inr (_, n)) => n
  | _ => 0
-- ints
def hd_iK (v : Int32) : hd_xI := fun _ S post => post v S
def hd_iL (i : Nat) : hd_xI := fun ρ S post => match hd_get ρ i with
  | .inl x => post x S
  | _ => False
def hd_iU (f : Int32 → Int32) (a : hd_xI) : hd_xI := fun ρ S post => a ρ S (fun x S => post (f x) S)
def hd_iB (f : Int32 → Int32 → Int32) (a b : hd_xI) : hd_xI := fun ρ S post => a ρ S (fun x S => b ρ S (fun y S => post (f x y) S))
def hd_iD (f : Int32 → Int32 → Int32) (a b : hd_xI) : hd_xI := fun ρ S post => a ρ S (fun x S => b ρ S (fun y S => ¬ y = 0 ∧ post (f x y) S))
def hd_iJ (a : hd_xJ) : hd_xI := fun ρ S post => a ρ S (fun x S => post x.toInt32 S)
def hd_iG (sh : List hd_K) (ci k : Nat) (r : hd_xR) : hd_xI := fun ρ S post => r ρ S (fun c S => hd_fI sh ci k c ∧ post (S.1 c k) S)
def hd_iA (sh : List hd_K) (r : hd_xR) (a : hd_xI) : hd_xI := fun ρ S post => r ρ S (fun c S => a ρ S (fun i S => hd_in sh 0 c i ∧ post (S.1 c i.toNatClampNeg) S))
def hd_iQ (c : hd_xC) (a b : hd_xI) : hd_xI := fun ρ S post => c ρ S (fun t S => if t then a ρ S post else b ρ S post)
def hd_iC (c : hd_xC) : hd_xI := fun ρ S post => c ρ S (fun t S => post (if t then 1 else 0) S)
def hd_iN (n : hd_xN) : hd_xI := fun ρ S post => n ρ S (fun v S => match v with
  | some (.inl x) => post x S
  | _ => False)
def hd_iE (sh : List hd_K) (t : Nat) (r : hd_xR) : hd_xI := fun ρ S post => r ρ S (fun c S => (∃ n, sh[c]? = some (.inr (t, n))) ∧ post (Int32.ofNat (hd_len sh c)) S)
-- longs
def hd_jK (v : Int64) : hd_xJ := fun _ S post => post v S
def hd_jL (i : Nat) : hd_xJ := fun ρ S post => match hd_get ρ i with
  | .inr (.inl x) => post x S
  | _ => False
def hd_jU (f : Int64 → Int64) (a : hd_xJ) : hd_xJ := fun ρ S post => a ρ S (fun x S => post (f x) S)
def hd_jB (f : Int64 → Int64 → Int64) (a b : hd_xJ) : hd_xJ := fun ρ S post => a ρ S (fun x S => b ρ S (fun y S => post (f x y) S))
def hd_jD (f : Int64 → Int64 → Int64) (a b : hd_xJ) : hd_xJ := fun ρ S post => a ρ S (fun x S => b ρ S (fun y S => ¬ y = 0 ∧ post (f x y) S))
def hd_jH (f : Int64 → Int32 → Int64) (a : hd_xJ) (b : hd_xI) : hd_xJ := fun ρ S post => a ρ S (fun x S => b ρ S (fun y S => post (f x y) S))
def hd_jI (a : hd_xI) : hd_xJ := fun ρ S post => a ρ S (fun x S => post x.toInt64 S)
def hd_jA (sh : List hd_K) (r : hd_xR) (a : hd_xI) : hd_xJ := fun ρ S post => r ρ S (fun c S => a ρ S (fun i S => hd_in sh 1 c i ∧ post (S.2.1 c i.toNatClampNeg) S))
def hd_jQ (c : hd_xC) (a b : hd_xJ) : hd_xJ := fun ρ S post => c ρ S (fun t S => if t then a ρ S post else b ρ S post)
def hd_jN (n : hd_xN) : hd_xJ := fun ρ S post => n ρ S (fun v S => match v with
  | some (.inr (.inl x)) => post x S
  | _ => False)
-- cells
def hd_rL (i : Nat) : hd_xR := fun ρ S post => match hd_get ρ i with
  | .inr (.inr (.inl c)) => post c S
  | _ => False
def hd_rG (sh : List hd_K) (ci k : Nat) (r : hd_xR) : hd_xR := fun ρ S post => r ρ S (fun c S => hd_fR sh ci k c (hd_ft sh ci k c) ∧ post (hd_ft sh ci k c) S)
def hd_rA (sh : List hd_K) (t : Nat) (r : hd_xR) (a : hd_xI) : hd_xR := fun ρ S post => r ρ S (fun c S => a ρ S (fun i S => hd_in sh t c i ∧ post (S.2.2 c i.toNatClampNeg) S))
def hd_rN (n : hd_xN) : hd_xR := fun ρ S post => n ρ S (fun v S => match v with
  | some (.inr (.inr (.inl c))) => post c S
  | _ => False)
-- conditions
def hd_cI (f : Int32 → Int32 → Bool) (a b : hd_xI) : hd_xC := fun ρ S post => a ρ S (fun x S => b ρ S (fun y S => post (f x y) S))
def hd_c0 (f : Int32 → Bool) (a : hd_xI) : hd_xC := fun ρ S post => a ρ S (fun x S => post (f x) S)
def hd_cJ (f : Int64 → Int64 → Bool) (a b : hd_xJ) : hd_xC := fun ρ S post => a ρ S (fun x S => b ρ S (fun y S => post (f x y) S))
def hd_cX (a : hd_xC) : hd_xC := fun ρ S post => a ρ S (fun t S => post (!t) S)
def hd_cA (a b : hd_xC) : hd_xC := fun ρ S post => a ρ S (fun t S => if t then b ρ S post else post false S)
def hd_cO (a b : hd_xC) : hd_xC := fun ρ S post => a ρ S (fun t S => if t then post true S else b ρ S post)
-- arguments
def hd_v0 : hd_xV := fun _ S post => post [] S
def hd_pI (vs : hd_xV) (a : hd_xI) : hd_xV := fun ρ S post => vs ρ S (fun as S => a ρ S (fun x S => post (as ++ [hd_vI x]) S))
def hd_pJ (vs : hd_xV) (a : hd_xJ) : hd_xV := fun ρ S post => vs ρ S (fun as S => a ρ S (fun x S => post (as ++ [hd_vJ x]) S))
def hd_pR (vs : hd_xV) (a : hd_xR) : hd_xV := fun ρ S post => vs ρ S (fun as S => a ρ S (fun x S => post (as ++ [hd_vR x]) S))
-- calls
def hd_nV (sh : List hd_K) (ci : Nat) (r : hd_xR) (n : Nat) (vs : hd_xV) (wm : hd_M) : hd_xN := fun ρ S post => r ρ S (fun c S => hd_isO sh ci c ∧ vs ρ S (fun as S => as.length = n ∧ wm (hd_vR c :: as) S post))
def hd_nS (n : Nat) (vs : hd_xV) (wm : hd_M) : hd_xN := fun ρ S post => vs ρ S (fun as S => as.length = n ∧ wm as S post)
-- statements
def hd_s0 : hd_xS := fun ρ S nrm _ => nrm ρ S
def hd_sQ (a b : hd_xS) : hd_xS := fun ρ S nrm ret => a ρ S (fun ρ S => b ρ S nrm ret) ret
def hd_sI (i : Nat) (a : hd_xI) : hd_xS := fun ρ S nrm _ => a ρ S (fun x S => nrm (hd_st ρ i (hd_vI x)) S)
def hd_sJ (i : Nat) (a : hd_xJ) : hd_xS := fun ρ S nrm _ => a ρ S (fun x S => nrm (hd_stW ρ i (hd_vJ x)) S)
def hd_sR (i : Nat) (a : hd_xR) : hd_xS := fun ρ S nrm _ => a ρ S (fun x S => nrm (hd_st ρ i (hd_vR x)) S)
def hd_sP (i : Nat) (n : Int32) : hd_xS := fun ρ S nrm _ => match hd_get ρ i with
  | .inl x => nrm (hd_st ρ i (hd_vI (x + n))) S
  | _ => False
def hd_sF (sh : List hd_K) (ci k : Nat) (r : hd_xR) (a : hd_xI) : hd_xS := fun ρ S nrm _ => r ρ S (fun c S => a ρ S (fun x S => hd_fI sh ci k c ∧ nrm ρ (hd_wI S c k x)))
def hd_sZ (sh : List hd_K) (ci k : Nat) (r : hd_xR) (a : hd_xI) : hd_xS := fun ρ S nrm _ => r ρ S (fun c S => a ρ S (fun x S => (x = 0 ∨ x = 1) ∧ hd_fI sh ci k c ∧ nrm ρ (hd_wI S c k x)))
def hd_sG (f : Int32 → Int32 → Int32) (sh : List hd_K) (ci k : Nat) (r : hd_xR) (a : hd_xI) : hd_xS := fun ρ S nrm _ => r ρ S (fun c S => hd_fI sh ci k c ∧ a ρ S (fun x S' => nrm ρ (hd_wI S' c k (f (S.1 c k) x))))
def hd_sA (sh : List hd_K) (r : hd_xR) (a b : hd_xI) : hd_xS := fun ρ S nrm _ => r ρ S (fun c S => a ρ S (fun i S => b ρ S (fun x S => hd_in sh 0 c i ∧ nrm ρ (hd_wI S c i.toNatClampNeg x))))
def hd_sL (sh : List hd_K) (r : hd_xR) (a : hd_xI) (b : hd_xJ) : hd_xS := fun ρ S nrm _ => r ρ S (fun c S => a ρ S (fun i S => b ρ S (fun x S => hd_in sh 1 c i ∧ nrm ρ (hd_wL S c i.toNatClampNeg x))))
def hd_sB (sh : List hd_K) (ci : Nat) (r : hd_xR) (a : hd_xI) (b : hd_xR) : hd_xS := fun ρ S nrm _ => r ρ S (fun c S => a ρ S (fun i S => b ρ S (fun x S => hd_in sh 2 c i ∧ hd_isO sh ci x ∧ nrm ρ (hd_wR S c i.toNatClampNeg x))))
def hd_sO (f : Int32 → Int32 → Int32) (sh : List hd_K) (r : hd_xR) (a b : hd_xI) : hd_xS := fun ρ S nrm _ => r ρ S (fun c S => a ρ S (fun i S => hd_in sh 0 c i ∧ b ρ S (fun x S' => nrm ρ (hd_wI S' c i.toNatClampNeg (f (S.1 c i.toNatClampNeg) x)))))
def hd_sN (n : hd_xN) : hd_xS := fun ρ S nrm _ => n ρ S (fun v S => v = none ∧ nrm ρ S)
def hd_sD (a : hd_xI) : hd_xS := fun ρ S nrm _ => a ρ S (fun _ S => nrm ρ S)
def hd_sW (c : hd_xC) (a : hd_xS) : hd_xS := fun ρ S nrm ret => c ρ S (fun t S => if t then a ρ S nrm ret else nrm ρ S)
def hd_sE (c : hd_xC) (a b : hd_xS) : hd_xS := fun ρ S nrm ret => c ρ S (fun t S => if t then a ρ S nrm ret else b ρ S nrm ret)
def hd_wh (c : hd_xC) (b : hd_xS) : Nat → hd_xS
  | 0 => fun _ _ _ _ => False
  | n + 1 => fun ρ S nrm ret => c ρ S (fun t S => if t then b ρ S (fun ρ S => hd_wh c b n ρ S nrm ret) ret else nrm ρ S)
/-- a loop -/
def hd_sH (c : hd_xC) (b : hd_xS) : hd_xS := fun ρ S nrm ret => ∃ n, hd_wh c b n ρ S nrm ret
def hd_sRI (a : hd_xI) : hd_xS := fun ρ S _ ret => a ρ S (fun x S => ret (some (hd_vI x)) S)
def hd_sRZ (a : hd_xI) : hd_xS := fun ρ S _ ret => a ρ S (fun x S => (x = 0 ∨ x = 1) ∧ ret (some (hd_vI x)) S)
def hd_sRJ (a : hd_xJ) : hd_xS := fun ρ S _ ret => a ρ S (fun x S => ret (some (hd_vJ x)) S)
def hd_sRR (a : hd_xR) : hd_xS := fun ρ S _ ret => a ρ S (fun x S => ret (some (hd_vR x)) S)
def hd_sRV : hd_xS := fun _ S _ ret => ret none S
/-- a switch over 0, 1, .. -/
def hd_sw : List hd_xS → hd_xS → Int32 → Nat → hd_xS
  | [], d, _, _ => d
  | a :: r, d, x, k => fun ρ S nrm ret => if x = Int32.ofNat k then a ρ S nrm ret else hd_sw r d x (k + 1) ρ S nrm ret
def hd_sSw (a : hd_xI) (cs : List hd_xS) (d : hd_xS) : hd_xS := fun ρ S nrm ret => a ρ S (fun x S => hd_sw cs d x 0 ρ S nrm ret)
/-- System.arraycopy -/
def hd_cp (sh : List hd_K) (t c0 c : Nat) (sp dp mm : Int32) : Prop := ∃ n0 n, sh[c0]? = some (.inr (t, n0)) ∧ sh[c]? = some (.inr (t, n)) ∧ ¬ sp < 0 ∧ ¬ dp < 0 ∧ ¬ mm < 0 ∧ sp.toNatClampNeg + mm.toNatClampNeg ≤ n0 ∧ dp.toNatClampNeg + mm.toNatClampNeg ≤ n
def hd_sCI (sh : List hd_K) (r : hd_xR) (a : hd_xI) (q : hd_xR) (b e : hd_xI) : hd_xS := fun ρ S nrm _ => r ρ S (fun c0 S => a ρ S (fun sp S => q ρ S (fun c S => b ρ S (fun dp S => e ρ S (fun mm S => hd_cp sh 0 c0 c sp dp mm ∧ nrm ρ (hd_rowI S c (va_cpy (S.1 c0) (S.1 c) sp.toNatClampNeg dp.toNatClampNeg mm.toNatClampNeg)))))))
def hd_sCL (sh : List hd_K) (r : hd_xR) (a : hd_xI) (q : hd_xR) (b e : hd_xI) : hd_xS := fun ρ S nrm _ => r ρ S (fun c0 S => a ρ S (fun sp S => q ρ S (fun c S => b ρ S (fun dp S => e ρ S (fun mm S => hd_cp sh 1 c0 c sp dp mm ∧ nrm ρ (hd_rowL S c (va_cpy (S.2.1 c0) (S.2.1 c) sp.toNatClampNeg dp.toNatClampNeg mm.toNatClampNeg)))))))
/-- a method: its body from its arguments on; its end is reached by return alone -/
def hd_mth (nL : Nat) (b : hd_xS) : hd_M := fun as S post => (hd_args as).length ≤ nL ∧ b (hd_rho0 nL as) S (fun _ _ => False) post

