/-! WHAT THE TABLES GIVE AT THE START -/
theorem hw_arr {s : State} {c comp : ClassId} {k : Class} {ty : FieldType} (h1 : s.vm.classes[c]? = some k) (h2 : k.kind = .array comp ty) : ArrOfT s c ty := fun n z => ⟨fun q h => (by cases h), k, h1, comp, h2⟩
theorem hw_e1 : "[" ++ FieldType.long.toString = "[J" := by decide +kernel
theorem hw_e2 : "[" ++ (FieldType.array .long).toString = "[[J" := by decide +kernel
theorem hw_over {args : Array Value} {s : State} (h : (Cond.arrayOver (.array .long)).before args s = true) : ∃ comp c k, s.vm.findClass "[J" = some comp ∧ s.vm.classes[c]? = some k ∧ k.kind = .array comp (.array .long) ∧ s.vm.findClass "[[J" = some c := by
  have e1 : (FieldType.array .long).toString = "[J" := by decide +kernel
  have e2 : "[" ++ (FieldType.array .long).toString = "[[J" := by decide +kernel
  simp only [Cond.before, Cond.holds, Cond.value, beq_iff_eq] at h
  rw [e2, e1] at h
  cases hc : s.vm.findClass "[J" with
  | none => simp [hc] at h
  | some comp =>
    simp only [hc, Option.bind_some, Option.bind_eq_some_iff, Option.map_eq_some_iff] at h
    obtain ⟨c, hi, k, hk, hb⟩ := h
    obtain ⟨hlt, hp, -⟩ := Array.findIdx?_eq_some_iff_getElem.mp hi
    have hkk : s.vm.classes[c] = k := (Array.getElem?_eq_some_iff.mp hk).2
    rw [hkk] at hp
    cases hkind : k.kind with
    | array component ty =>
      rw [hkind] at hb hp
      simp at hb hp
      exact ⟨comp, c, k, rfl, hk, by rw [hkind, hp, hb.1], hb.2⟩
    | _ => rw [hkind] at hb; simp at hb
set_option maxRecDepth 20000 in
theorem hw_K {args : Array Value} {s : State} (hts : ∀ w ∈ lw_tbl, w.before args s = true) : ∃ (D : va_G) (cA : Nat → ClassId), va_K D vwCl (hd_tys cA) s ∧ hc_N cA s := by
  obtain ⟨c0, i0, k0⟩ := u_known (C := RX0) (T := TX0) (N := 3) hts in_wsX00 (hts (.instantiable RX0 3) (by decide +kernel))
  obtain ⟨c1, i1, k1⟩ := u_known (C := RX1) (T := TX1) (N := 5) hts in_wsX10 (hts (.instantiable RX1 5) (by decide +kernel))
  obtain ⟨c2, i2, k2⟩ := u_known (C := RX2) (T := TX2) (N := 5) hts in_wsX20 (hts (.instantiable RX2 5) (by decide +kernel))
  obtain ⟨c3, i3, k3⟩ := u_known (C := RX3) (T := TX3) (N := 5) hts in_wsX30 (hts (.instantiable RX3 5) (by decide +kernel))
  obtain ⟨c4, i4, k4⟩ := u_known (C := RX4) (T := TX4) (N := 2) hts in_wsX40 (hts (.instantiable RX4 2) (by decide +kernel))
  obtain ⟨c5, i5, k5⟩ := u_known (C := RX5) (T := TX5) (N := 10) hts in_wsX50 (hts (.instantiable RX5 10) (by decide +kernel))
  obtain ⟨c6, i6, k6⟩ := u_known (C := RX6) (T := TX6) (N := 5) hts in_wsX60 (hts (.instantiable RX6 5) (by decide +kernel))
  obtain ⟨c7, i7, k7⟩ := u_known (C := RX7) (T := TX7) (N := 10) hts in_wsX70 (hts (.instantiable RX7 10) (by decide +kernel))
  obtain ⟨c8, i8, k8⟩ := u_known (C := RX8) (T := TX8) (N := 9) hts in_wsX80 (hts (.instantiable RX8 9) (by decide +kernel))
  obtain ⟨c9, i9, k9⟩ := u_known (C := RX9) (T := TX9) (N := 28) hts in_wsX90 (hts (.instantiable RX9 28) (by decide +kernel))
  obtain ⟨a0, ka0, p0, f0, g0, t0⟩ := Cond.arrayClass_spec (hts (.arrayClass .int) (by decide +kernel))
  obtain ⟨a1, ka1, p1, f1, g1, t1⟩ := Cond.arrayClass_spec (hts (.arrayClass .long) (by decide +kernel))
  obtain ⟨p2, a2, ka2, f2, -, g2, t2, n2⟩ := Cond.arrayOver_spec (hts (.arrayOver (.object "HallDesk$Plan")) (by decide +kernel))
  obtain ⟨p3, a3, ka3, f3, g3, t3, n3⟩ := hw_over (hts (.arrayOver (.array .long)) (by decide +kernel))
  have f1' : s.vm.findClass "[J" = some a1 := (congrArg s.vm.findClass hw_e1).symm.trans f1
  have hp : p3 = a1 := Option.some.inj (f3.symm.trans f1')
  subst hp
  refine ⟨(fun c => [c0, c1, c2, c3, c4, c5, c6, c7, c8, c9].getD c 0, fun c => [i0, i1, i2, i3, i4, i5, i6, i7, i8, i9].getD c (fun _ => 0)), fun c => [a0, p3, a2, a3].getD c 0, ⟨fun c q hq => ?_, fun k q hq => ?_⟩, ?_⟩
  · match c, hq with
    | 0, hq =>
      obtain rfl : (RX0, TX0, 3) = q := Option.some.inj (hs_c_0.symm.trans hq)
      exact k0
    | 1, hq =>
      obtain rfl : (RX1, TX1, 5) = q := Option.some.inj (hs_c_1.symm.trans hq)
      exact k1
    | 2, hq =>
      obtain rfl : (RX2, TX2, 5) = q := Option.some.inj (hs_c_2.symm.trans hq)
      exact k2
    | 3, hq =>
      obtain rfl : (RX3, TX3, 5) = q := Option.some.inj (hs_c_3.symm.trans hq)
      exact k3
    | 4, hq =>
      obtain rfl : (RX4, TX4, 2) = q := Option.some.inj (hs_c_4.symm.trans hq)
      exact k4
    | 5, hq =>
      obtain rfl : (RX5, TX5, 10) = q := Option.some.inj (hs_c_5.symm.trans hq)
      exact k5
    | 6, hq =>
      obtain rfl : (RX6, TX6, 5) = q := Option.some.inj (hs_c_6.symm.trans hq)
      exact k6
    | 7, hq =>
      obtain rfl : (RX7, TX7, 10) = q := Option.some.inj (hs_c_7.symm.trans hq)
      exact k7
    | 8, hq =>
      obtain rfl : (RX8, TX8, 9) = q := Option.some.inj (hs_c_8.symm.trans hq)
      exact k8
    | 9, hq =>
      obtain rfl : (RX9, TX9, 28) = q := Option.some.inj (hs_c_9.symm.trans hq)
      exact k9
    | n + 10, hq => rw [List.getElem?_eq_none (by show 10 ≤ n + 10; omega)] at hq; cases hq
  · match k, hq with
    | 0, hq =>
      obtain rfl : (a0, FieldType.int) = q := Option.some.inj (show some (a0, FieldType.int) = some q from hq)
      exact ⟨hw_arr g0 t0, f0⟩
    | 1, hq =>
      obtain rfl : (p3, FieldType.long) = q := Option.some.inj (show some (p3, FieldType.long) = some q from hq)
      exact ⟨hw_arr g1 t1, f1⟩
    | 2, hq =>
      obtain rfl : (a2, FieldType.object "HallDesk$Plan") = q := Option.some.inj (show some (a2, FieldType.object "HallDesk$Plan") = some q from hq)
      exact ⟨hw_arr g2 t2, ka2, p2, g2, t2, f2, n2⟩
    | 3, hq =>
      obtain rfl : (a3, FieldType.array FieldType.long) = q := Option.some.inj (show some (a3, FieldType.array FieldType.long) = some q from hq)
      exact ⟨hw_arr g3 t3, (congrArg s.vm.findClass hw_e2).trans n3⟩
    | n + 4, hq => rw [List.getElem?_eq_none (by show 4 ≤ n + 4; omega)] at hq; cases hq
  · exact ⟨va_Nw.of rfl (hts (.methodLinkNest RX8 11 yX5_init "HallDesk") (by decide +kernel)), va_Nw.of rfl (hts (.methodLinkNest RX4 17 yX5_init "HallDesk") (by decide +kernel)), va_AO.of (hts (.arrayOver (.object "HallDesk$Plan")) (by decide +kernel)), ka3, ka1, p1, g3, t3, n3, g1, t1, f1'⟩
set_option maxRecDepth 20000 in
theorem hw_Z {args : Array Value} {s : State} (hts : ∀ w ∈ lw_tbl, w.before args s = true) (hgv : (Jvm.Cond.and given_1 narrow_1).before args s = true) : hd_ZF (fun q => s.heap.size ≤ q) s := by
  have hs := flat_of_before _ hgv
  have hA : ∀ a : Nat, a < s.heap.size → ¬ (fun q => s.heap.size ≤ q) a := fun a h q => absurd h (Nat.not_lt.mpr q)
  have e0 : (Term.elem (.static "HallDesk" "FACTORIALS" "[I") (.int (Int32.ofNat 0))).eval args s none [] s = some (.int (1 : Int32)) := va_eqt (hs (.eq (.elem (.static "HallDesk" "FACTORIALS" "[I") (.int 0)) (.int 1)) (by decide +kernel))
  have e1 : (Term.elem (.static "HallDesk" "FACTORIALS" "[I") (.int (Int32.ofNat 1))).eval args s none [] s = some (.int (1 : Int32)) := va_eqt (hs (.eq (.elem (.static "HallDesk" "FACTORIALS" "[I") (.int 1)) (.int 1)) (by decide +kernel))
  have e2 : (Term.elem (.static "HallDesk" "FACTORIALS" "[I") (.int (Int32.ofNat 2))).eval args s none [] s = some (.int (2 : Int32)) := va_eqt (hs (.eq (.elem (.static "HallDesk" "FACTORIALS" "[I") (.int 2)) (.int 2)) (by decide +kernel))
  have e3 : (Term.elem (.static "HallDesk" "FACTORIALS" "[I") (.int (Int32.ofNat 3))).eval args s none [] s = some (.int (6 : Int32)) := va_eqt (hs (.eq (.elem (.static "HallDesk" "FACTORIALS" "[I") (.int 3)) (.int 6)) (by decide +kernel))
  have e4 : (Term.elem (.static "HallDesk" "FACTORIALS" "[I") (.int (Int32.ofNat 4))).eval args s none [] s = some (.int (24 : Int32)) := va_eqt (hs (.eq (.elem (.static "HallDesk" "FACTORIALS" "[I") (.int 4)) (.int 24)) (by decide +kernel))
  have e5 : (Term.elem (.static "HallDesk" "FACTORIALS" "[I") (.int (Int32.ofNat 5))).eval args s none [] s = some (.int (120 : Int32)) := va_eqt (hs (.eq (.elem (.static "HallDesk" "FACTORIALS" "[I") (.int 5)) (.int 120)) (by decide +kernel))
  have e6 : (Term.elem (.static "HallDesk" "FACTORIALS" "[I") (.int (Int32.ofNat 6))).eval args s none [] s = some (.int (720 : Int32)) := va_eqt (hs (.eq (.elem (.static "HallDesk" "FACTORIALS" "[I") (.int 6)) (.int 720)) (by decide +kernel))
  have e7 : (Term.elem (.static "HallDesk" "FACTORIALS" "[I") (.int (Int32.ofNat 7))).eval args s none [] s = some (.int (5040 : Int32)) := va_eqt (hs (.eq (.elem (.static "HallDesk" "FACTORIALS" "[I") (.int 7)) (.int 5040)) (by decide +kernel))
  have e8 : (Term.elem (.static "HallDesk" "FACTORIALS" "[I") (.int (Int32.ofNat 8))).eval args s none [] s = some (.int (40320 : Int32)) := va_eqt (hs (.eq (.elem (.static "HallDesk" "FACTORIALS" "[I") (.int 8)) (.int 40320)) (by decide +kernel))
  obtain ⟨t, ht, hT⟩ := va_Tof (tm := (.static "HallDesk" "FACTORIALS" "[I")) (ty := .int) (N := 9) (f := fun j => .int (hd_fv j)) (A := fun q => s.heap.size ≤ q) (by decide) (hs (.arrayOf (.static "HallDesk" "FACTORIALS" "[I") .int) (by decide +kernel)) (va_eqt (hs (.eq (.length (.static "HallDesk" "FACTORIALS" "[I")) (.int 9)) (by decide +kernel))) (fun j hj => match j, hj with
    | 0, _ => e0
    | 1, _ => e1
    | 2, _ => e2
    | 3, _ => e3
    | 4, _ => e4
    | 5, _ => e5
    | 6, _ => e6
    | 7, _ => e7
    | 8, _ => e8
    | n + 9, h => absurd h (by omega)) hA
  exact ⟨t, va_Zof (hts (.laysStatic "HallDesk" "FACTORIALS" "[I") (by decide +kernel)) (hts (.initialized "HallDesk") (by decide +kernel)) ht hA, hT⟩
