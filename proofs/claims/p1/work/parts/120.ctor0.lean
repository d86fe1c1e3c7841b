/-! CONSTRUCTORS: rows over growing worlds -/
section HCTOR
variable {p : Program} {l : Launch} {e : Env} {R : Room} {s : State} {m : MethodId} {args : Array Value} {below : List Frame} {meth : Method} {c : Code} {H : Heap} {locs : List Loc} {cells slots : Nat} {Q : State → Prop} {cc : ByteArray} {pc : Nat} {ls : Array Slot} {rest : List Value} {D : va_G} {cl : List vw_C} {A : Nat → Prop} {ws : va_W} {H0 : Heap} {cA : Nat → ClassId}
theorem hc_u0 {c' : ClassId} (hK : va_K D cl (hd_tys cA ++ [(c', .int)]) s) : c' = cA 0 := by
  have h1 : s.vm.findClass ("[" ++ FieldType.int.toString) = some (cA 0) := (hK.2 0 (cA 0, .int) rfl).2
  have h2 : s.vm.findClass ("[" ++ FieldType.int.toString) = some c' := (hK.2 4 (c', .int) rfl).2
  exact Option.some.inj (h2.symm.trans h1)
theorem hc_u1 {c' : ClassId} (hK : va_K D cl (hd_tys cA ++ [(c', .long)]) s) : c' = cA 1 := by
  have h1 : s.vm.findClass ("[" ++ FieldType.long.toString) = some (cA 1) := (hK.2 1 (cA 1, .long) rfl).2
  have h2 : s.vm.findClass ("[" ++ FieldType.long.toString) = some c' := (hK.2 4 (c', .long) rfl).2
  exact Option.some.inj (h2.symm.trans h1)
theorem hc_u2 {c' : ClassId} (hK : va_K D cl (hd_tys cA ++ [(c', .object "HallDesk$Plan")]) s) : c' = cA 2 := by
  obtain ⟨_, _, _, _, _, h1⟩ := (hK.2 2 (cA 2, .object "HallDesk$Plan") rfl).2
  obtain ⟨_, _, _, _, _, h2⟩ := (hK.2 4 (c', .object "HallDesk$Plan") rfl).2
  exact Option.some.inj (h2.symm.trans h1)
theorem hc_newI (hexec : p.tables.exec = Jvm.exec) (hb : c.code = cc) (harr : (Cond.arrayClass .int).before args s = true) (hK : va_K D cl (hd_tys cA) s) (hP : va_P D cl ws H) (hD : va_D A ws) (hS : va_S A H0 H locs) (hA : ∀ q, H0.size ≤ q → A q) {n : Int32} (N' : Nat) (hn : ¬ n < 0) (hN : n.toNatClampNeg = N') (hbytes : N' * 4 ≤ 536870912) (hcells : cells + 1 ≤ R.cells) (hslots : slots + N' ≤ R.slots) (hdg : decode cc pc = .ok (.newarray .int, 2))
    (kk : ∀ (q : Nat) (H1 : Heap), va_P D cl (ws ++ [(q, .inl (cA 0, N', .inl (fun _ => 0)))]) H1 → va_D A (ws ++ [(q, .inl (cA 0, N', .inl (fun _ => 0)))]) → va_S A H0 H1 locs → W p l e R s m args below meth c H1 locs (cells + 1) (slots + N') Q (F0 m (pc + 2) ls (.ref q :: rest))) : W p l e R s m args below meth c H locs cells slots Q (F0 m pc ls (.int n :: rest)) := by
  refine va_newa (atype := .int) (ty := .int) (a0 := (N', .inl (fun _ => 0))) hexec hb harr rfl hK hP hD hS hA (fun _ => rfl) hn hN hbytes hcells hslots hdg (fun q c' H1 hK1 hP1 hD1 hS1 => ?_)
  have e := hc_u0 hK1
  subst e
  exact kk q H1 hP1 hD1 hS1
theorem hc_newL (hexec : p.tables.exec = Jvm.exec) (hb : c.code = cc) (harr : (Cond.arrayClass .long).before args s = true) (hK : va_K D cl (hd_tys cA) s) (hP : va_P D cl ws H) (hD : va_D A ws) (hS : va_S A H0 H locs) (hA : ∀ q, H0.size ≤ q → A q) {n : Int32} (N' : Nat) (hn : ¬ n < 0) (hN : n.toNatClampNeg = N') (hbytes : N' * 8 ≤ 536870912) (hcells : cells + 1 ≤ R.cells) (hslots : slots + N' ≤ R.slots) (hdg : decode cc pc = .ok (.newarray .long, 2))
    (kk : ∀ (q : Nat) (H1 : Heap), va_P D cl (ws ++ [(q, .inl (cA 1, N', .inr (.inl (fun _ => 0))))]) H1 → va_D A (ws ++ [(q, .inl (cA 1, N', .inr (.inl (fun _ => 0))))]) → va_S A H0 H1 locs → W p l e R s m args below meth c H1 locs (cells + 1) (slots + N') Q (F0 m (pc + 2) ls (.ref q :: rest))) : W p l e R s m args below meth c H locs cells slots Q (F0 m pc ls (.int n :: rest)) := by
  refine va_newa (atype := .long) (ty := .long) (a0 := (N', .inr (.inl (fun _ => 0)))) hexec hb harr rfl hK hP hD hS hA (fun _ => rfl) hn hN hbytes hcells hslots hdg (fun q c' H1 hK1 hP1 hD1 hS1 => ?_)
  have e := hc_u1 hK1
  subst e
  exact kk q H1 hP1 hD1 hS1
theorem hc_newQ (hexec : p.tables.exec = Jvm.exec) (hb : c.code = cc) {own : String} {index : Nat} (hown : s.vm.findClass own = some m.cls) (hclink : (Cond.classLink own index "HallDesk$Plan").before args s = true) (hover : va_AO "HallDesk$Plan" s) (hK : va_K D cl (hd_tys cA) s) (hP : va_P D cl ws H) (hD : va_D A ws) (hS : va_S A H0 H locs) (hA : ∀ q, H0.size ≤ q → A q) {n : Int32} (N' : Nat) (hn : ¬ n < 0) (hN : n.toNatClampNeg = N') (hbytes : N' * 4 ≤ 536870912) (hcells : cells + 1 ≤ R.cells) (hslots : slots + N' ≤ R.slots) (hdg : decode cc pc = .ok (.anewarray index, 3))
    (kk : ∀ (q : Nat) (H1 : Heap), va_P D cl (ws ++ [(q, .inl (cA 2, N', .inr (.inr (.inr (.inr (fun _ => none))))))]) H1 → va_D A (ws ++ [(q, .inl (cA 2, N', .inr (.inr (.inr (.inr (fun _ => none))))))]) → va_S A H0 H1 locs → W p l e R s m args below meth c H1 locs (cells + 1) (slots + N') Q (F0 m (pc + 3) ls (.ref q :: rest))) : W p l e R s m args below meth c H locs cells slots Q (F0 m pc ls (.int n :: rest)) := by
  refine va_newq hexec hb hown hclink hover hK hP hD hS hA hn hN hbytes hcells hslots hdg (fun q c' H1 hK1 hP1 hD1 hS1 => ?_)
  have e := hc_u2 hK1
  subst e
  exact kk q H1 hP1 hD1 hS1
/-- what the constructors need of the tables, and that no word of a method's list can hold -/
def hc_A3 (c1 c3 : ClassId) (U : State) : Prop := ∃ kA kB cB, U.vm.classes[c3]? = some kA ∧ kA.kind = .array c1 (.array .long) ∧ U.vm.findClass "[[J" = some c3 ∧ U.vm.classes[c1]? = some kB ∧ kB.kind = .array cB .long ∧ U.vm.findClass "[J" = some c1
theorem hc_A3.moved {c1 c3 : ClassId} {u U : State} (hvm : u.vm.Alike U.vm) (h : hc_A3 c1 c3 u) : hc_A3 c1 c3 U := by
  obtain ⟨kA, kB, cB, h1, h2, h3, h4, h5, h6⟩ := h
  obtain ⟨kA', a1, a2⟩ := hvm.2.2 _ _ h1
  obtain ⟨kB', b1, b2⟩ := hvm.2.2 _ _ h4
  exact ⟨kA', kB', cB, a1, by rw [a2]; exact h2, by rw [hvm.findClass]; exact h3, b1, by rw [b2]; exact h5, by rw [hvm.findClass]; exact h6⟩
def hc_N (cA : Nat → ClassId) (U : State) : Prop := va_Nw (.methodLinkNest RX8 11 yX5_init "HallDesk") U ∧ va_Nw (.methodLinkNest RX4 17 yX5_init "HallDesk") U ∧ va_AO "HallDesk$Plan" U ∧ hc_A3 (cA 1) (cA 3) U
theorem hc_N.warm {u U : State} (hW : u.WarmedH U.vm) (h : hc_N cA u) : hc_N cA U := ⟨va_Nw.warmM hW h.1, va_Nw.warmM hW h.2.1, va_AO.moved hW.alike h.2.2.1, hc_A3.moved hW.alike h.2.2.2⟩
theorem hc_N.same {u U : State} (hv : u.vm = U.vm) (h : hc_N cA u) : hc_N cA U := ⟨va_Nw.same rfl hv h.1, va_Nw.same rfl hv h.2.1, va_AO.moved (by rw [hv]; exact Vm.Alike.refl _) h.2.2.1, hc_A3.moved (by rw [hv]; exact Vm.Alike.refl _) h.2.2.2⟩
/-- a constructor's start and end -/
def hc_Pc (D : va_G) (cA : Nat → ClassId) (as : List Value) (ws : va_W) (sz : Nat) : Array Value → State → Prop := va_Pc as (fun U => U.heap.size = sz ∧ va_P D vwCl ws U.heap ∧ va_K D vwCl (hd_tys cA) U ∧ va_D (fun _ => True) ws ∧ hc_N cA U)
def hc_Qc {T : Type} (D : va_G) (ws : va_W) (sz : Nat) (G : T → va_W) : Array Value → State → Outcome → State → Prop := va_Qv (fun _ : T => True) (fun r t => va_P D vwCl (G r) t.heap ∧ va_D (va_A ws sz) (G r)) (va_A ws sz)
theorem hc_blind {as : List Value} {sz : Nat} : FrameBlind (hc_Pc D cA as ws sz) := by
  intro a U g mk h
  obtain ⟨h1, h2, h3, h4, h5, h6⟩ := h
  exact ⟨h1, h2, h3, va_K.moved (u := U) (U := U.calling g mk a) (Vm.Alike.refl U.vm) h4, h5, hc_N.same (u := U) (U := U.calling g mk a) rfl h6⟩
theorem hc_last {X : va_W} {x : Nat × va_E} : [X.length].map (fun i => (X ++ [x])[i]?) = [x].map some := by simp
theorem hc_nd : ∀ n k, va_nd (List.range' k n) = true
  | 0, _ => rfl
  | n + 1, k => by
    rw [List.range'_succ]
    simp only [va_nd, Bool.and_eq_true, decide_eq_true_eq]
    refine ⟨fun h => ?_, hc_nd n (k + 1)⟩
    rw [List.mem_range'] at h
    obtain ⟨i, _, h2⟩ := h
    omega
theorem hc_first {X : va_W} {x : Nat × va_E} : (List.range X.length).map (fun i => (X ++ [x])[i]?) = X.map some := by
  apply List.ext_getElem?
  intro i
  rw [List.getElem?_map, List.getElem?_map]
  by_cases hi : i < X.length
  · rw [List.getElem?_range hi, List.getElem?_eq_getElem hi]
    simp only [Option.map_some]
    rw [List.getElem?_append_left hi, List.getElem?_eq_getElem hi]
  · rw [List.getElem?_eq_none (by simpa using hi), List.getElem?_eq_none (by simpa using hi)]
    rfl
theorem hc_Plast {X : va_W} {x : Nat × va_E} (hP : va_P D cl (X ++ [x]) H) : va_P D cl [x] H := hP.sub [X.length] (by simp)
theorem hc_Dlast {X : va_W} {x : Nat × va_E} (hD : va_D A (X ++ [x])) : va_D (fun _ => True) [x] := (hD.sub (ws' := [x]) [X.length] rfl hc_last).weaken (fun _ _ _ _ => trivial)
/-- behind a constructor: its group stands in the place of its object -/
theorem hc_after {T : Type} {G : T → va_W} {X : va_W} {x : Nat × va_E} {mc ms : Nat} {a : Array Value} {st0 : List Value} (hr : va_Run p l e R s m args below meth c H locs cells slots mc ms (F0 m pc ls st0) rest (hc_Qc D [x] H.size G a) (va_A [x] H.size)) (hP : va_P D vwCl (X ++ [x]) H) (hD : va_D A (X ++ [x])) (hS : va_S A H0 H locs) (hA : ∀ q, H0.size ≤ q → A q)
    (kk : ∀ (u : T) (H1 : Heap) (locs1 : List Loc), va_P D vwCl (X ++ G u) H1 → va_D A (X ++ G u) → va_S A H0 H1 locs1 → W p l e R s m args below meth c H1 locs1 (cells + mc) (slots + ms) Q (F0 m (pc + 3) ls rest)) : W p l e R s m args below meth c H locs cells slots Q (F0 m pc ls st0) := by
  have hF := va_free (wc := [x]) hD hS hA [X.length] hc_last
  refine va_callv hr hS (fun q _ h => hF q h) hF (fun u t H1 locs1 ht hvm hw hB hz1 hk1 hS1 => ?_)
  obtain ⟨hP1, hD1⟩ := hB
  rw [ht] at hP1
  obtain ⟨hP2, hD2⟩ := va_join (wr := X) (w1 := G u) hP hD [X.length] (List.range X.length) hc_last hc_first (by rw [List.range_eq_range']; exact hc_nd _ _) (fun i hi => by simp at hi ⊢; omega) hk1 hF hP1 hD1
  exact kk u H1 locs1 hP2 hD2 hS1
theorem hc_pre {X : va_W} {x : Nat × va_E} {As : List Value} (hK : va_K D vwCl (hd_tys cA) s) (hN : hc_N cA s) (hP : va_P D vwCl (X ++ [x]) H) (hD : va_D A (X ++ [x])) : PreS s H (hc_Pc D cA As [x] H.size) As :=
  ⟨hc_blind, fun U hU hW => ⟨rfl, by rw [hU], by rw [hU]; exact hc_Plast hP, va_K.moved hW.alike hK, hc_Dlast hD, hc_N.warm hW hN⟩⟩
end HCTOR
theorem hc_df_X0 : ∀ j, j < 3 → defaultValue (tyX0 j) = vp_V [.null, .null, .null] j
  | 0, _ => rfl
  | 1, _ => rfl
  | 2, _ => rfl
  | k + 3, h => by omega
theorem hc_df_X1 : ∀ j, j < 5 → defaultValue (tyX1 j) = vp_V [.null, .null, .null, .null, .int 0] j
  | 0, _ => rfl
  | 1, _ => rfl
  | 2, _ => rfl
  | 3, _ => rfl
  | 4, _ => rfl
  | k + 5, h => by omega
theorem hc_df_X2 : ∀ j, j < 5 → defaultValue (tyX2 j) = vp_V [.null, .null, .null, .null, .int 0] j
  | 0, _ => rfl
  | 1, _ => rfl
  | 2, _ => rfl
  | 3, _ => rfl
  | 4, _ => rfl
  | k + 5, h => by omega
theorem hc_df_X3 : ∀ j, j < 5 → defaultValue (tyX3 j) = vp_V [.null, .null, .int 0, .int 0, .int 0] j
  | 0, _ => rfl
  | 1, _ => rfl
  | 2, _ => rfl
  | 3, _ => rfl
  | 4, _ => rfl
  | k + 5, h => by omega
theorem hc_df_X4 : ∀ j, j < 2 → defaultValue (tyX4 j) = vp_V [.null, .int 0] j
  | 0, _ => rfl
  | 1, _ => rfl
  | k + 2, h => by omega
theorem hc_df_X5 : ∀ j, j < 10 → defaultValue (tyX5 j) = vp_V [.int 0, .int 0, .null, .null, .null, .null, .null, .null, .null, .null] j
  | 0, _ => rfl
  | 1, _ => rfl
  | 2, _ => rfl
  | 3, _ => rfl
  | 4, _ => rfl
  | 5, _ => rfl
  | 6, _ => rfl
  | 7, _ => rfl
  | 8, _ => rfl
  | 9, _ => rfl
  | k + 10, h => by omega
theorem hc_df_X6 : ∀ j, j < 5 → defaultValue (tyX6 j) = vp_V [.null, .null, .null, .null, .int 0] j
  | 0, _ => rfl
  | 1, _ => rfl
  | 2, _ => rfl
  | 3, _ => rfl
  | 4, _ => rfl
  | k + 5, h => by omega
theorem hc_df_X7 : ∀ j, j < 10 → defaultValue (tyX7 j) = vp_V [.null, .null, .null, .null, .null, .null, .null, .null, .int 0, .int 0] j
  | 0, _ => rfl
  | 1, _ => rfl
  | 2, _ => rfl
  | 3, _ => rfl
  | 4, _ => rfl
  | 5, _ => rfl
  | 6, _ => rfl
  | 7, _ => rfl
  | 8, _ => rfl
  | 9, _ => rfl
  | k + 10, h => by omega
theorem hc_df_X8 : ∀ j, j < 9 → defaultValue (tyX8 j) = vp_V [.null, .null, .null, .null, .null, .null, .null, .null, .int 0] j
  | 0, _ => rfl
  | 1, _ => rfl
  | 2, _ => rfl
  | 3, _ => rfl
  | 4, _ => rfl
  | 5, _ => rfl
  | 6, _ => rfl
  | 7, _ => rfl
  | 8, _ => rfl
  | k + 9, h => by omega
theorem hc_df_X9 : ∀ j, j < 28 → defaultValue (tyX9 j) = vp_V [.int 0, .int 0, .int 0, .null, .null, .null, .null, .null, .null, .null, .null, .null, .int 0, .int 0, .int 0, .null, .int 0, .null, .null, .null, .null, .int 0, .int 0, .int 0, .null, .int 0, .null, .int 0] j
  | 0, _ => rfl
  | 1, _ => rfl
  | 2, _ => rfl
  | 3, _ => rfl
  | 4, _ => rfl
  | 5, _ => rfl
  | 6, _ => rfl
  | 7, _ => rfl
  | 8, _ => rfl
  | 9, _ => rfl
  | 10, _ => rfl
  | 11, _ => rfl
  | 12, _ => rfl
  | 13, _ => rfl
  | 14, _ => rfl
  | 15, _ => rfl
  | 16, _ => rfl
  | 17, _ => rfl
  | 18, _ => rfl
  | 19, _ => rfl
  | 20, _ => rfl
  | 21, _ => rfl
  | 22, _ => rfl
  | 23, _ => rfl
  | 24, _ => rfl
  | 25, _ => rfl
  | 26, _ => rfl
  | 27, _ => rfl
  | k + 28, h => by omega
