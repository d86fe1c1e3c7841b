/-! Rooming -/
def cg_X7 (cA : Nat → ClassId) (h0 a1 a2 : Nat) (r : Nat → Nat) : va_W := (((((([(h0, .inr (7, [.ref a1, .ref a2, .ref (r 0), .ref (r 1), .ref (r 2), .ref (r 3), .ref (r 4), .ref (r 5), .int (-1), .int 1]))] ++ [(r 0, .inl (cA 1, 128, .inr (.inl (fun _ => 0))))]) ++ hc_rows cA (r 1)) ++ [(r 2, .inl (cA 1, 56, .inr (.inl (fun _ => 0))))]) ++ [(r 3, .inl (cA 1, 256, .inr (.inl (fun _ => 0))))]) ++ [(r 4, .inl (cA 0, 256, .inl (fun _ => 0)))]) ++ [(r 5, .inl (cA 0, 7, .inl (fun _ => 0)))])
set_option maxRecDepth 100000 in
theorem ucc_X7 : ∀ w ∈ u_ws RX7 TX7 10, w ∈ wsX7_init := by decide +kernel
set_option maxHeartbeats 4000000 in
set_option maxRecDepth 100000 in
theorem cc_X7 (l : Launch) (D : va_G) (cA : Nat → ClassId) (sz h0 a1 a2 : Nat) : Met l yX7_init wsX7_init { frames := 2, cells := 14, slots := 2759, locals := 64 } (hc_Pc D cA [.ref h0, .ref a1, .ref a2] [(h0, .inr (7, [.null, .null, .null, .null, .null, .null, .null, .null, .int 0, .int 0]))] sz) (hc_Qc D [(h0, .inr (7, [.null, .null, .null, .null, .null, .null, .null, .null, .int 0, .int 0]))] sz (cg_X7 cA h0 a1 a2)) 14 2759 (va_A [(h0, .inr (7, [.null, .null, .null, .null, .null, .null, .null, .null, .int 0, .int 0]))] sz) := by
  refine Met.ofW (cc := cX7_init) (maxL := 3) (ret := none) (by decide) rfl ?_
  intro p e s m args below meth c s₁ B hml hv
  obtain ⟨rfl, hsz, hP, hK, hD0, hN⟩ := hv
  have hx := B.exec
  have hb := B.bytes
  have hr := B.returns
  have hts := atoms_spec (ws := wsX7_init) B.pre
  have hown : s.vm.findClass RX7 = some m.cls := findClass_of_methodNamed B.named
  have hlocks := B.notSynchronized
  have hin : meth.name = "<init>" := (name_of_methodNamed B.named B.method).1
  subst hsz
  have hD := hD0.self (sz := s.heap.size)
  generalize hAe : va_A [(h0, .inr (7, [.null, .null, .null, .null, .null, .null, .null, .null, .int 0, .int 0]))] s.heap.size = A at hD ⊢
  have hA : ∀ q : Nat, s.heap.size ≤ q → A q := fun q h => by rw [← hAe]; exact Or.inr h
  have hS : va_S A s.heap s.heap [] := va_S.rf
  have hP : va_P D vwCl [(h0, .inr (7, [.null, .null, .null, .null, .null, .null, .null, .null, .int 0, .int 0]))] s.heap := hP
  have hl := lv_entry ([.ref h0, .ref a1, .ref a2]) (n := 3) (Nat.le_of_ble_eq_true rfl)
  rw [lg_entry_eq]
  generalize (lg_sl ([.ref h0, .ref a1, .ref a2]) ++ List.replicate (3 - (lg_sl ([.ref h0, .ref a1, .ref a2])).length) Slot.unset).toArray = ls at hl ⊢
  have hl : lv_has ls 3 [(0, .ref h0), (1, .ref a1), (2, .ref a2)] := hl
  refine lv_aload_n hx hb dX7_init_0 rfl (lv_at hl 0 rfl) ?_
  refine W.objInit hx hb hown (hts (.methodLink RX7 5 objectInit) (by decide +kernel)) (hts (.instanceMethod objectInit) (by decide +kernel)) (hts (.code objectInit ⟨#[0xb1]⟩ 1 none) (by decide +kernel)) rfl (by rw [hml]; exact hl.1) rfl dX7_init_1 (Nat.le_of_ble_eq_true rfl) (Nat.le_of_ble_eq_true rfl) ?_
  refine W.eq (g2 := F0 m 4 ls []) rfl ?_
  refine lv_aload_n hx hb dX7_init_4 rfl (lv_at hl 0 rfl) ?_
  refine lv_sipush (v := 128) hx hb dX7_init_5 (by decide) ?_
  refine hc_newL hx hb (hts (.arrayClass .long) (by decide +kernel)) hK hP hD hS hA 128 (by decide) rfl (Nat.le_of_ble_eq_true rfl) (Nat.le_of_ble_eq_true rfl) (Nat.le_of_ble_eq_true rfl) dX7_init_8 (fun q8 H hP hD hS => ?_)
  have hP : va_P D vwCl ([(h0, .inr (7, [.null, .null, .null, .null, .null, .null, .null, .null, .int 0, .int 0]))] ++ [(q8, .inl (cA 1, 128, .inr (.inl (fun _ => 0))))]) H := hP
  have hD : va_D A ([(h0, .inr (7, [.null, .null, .null, .null, .null, .null, .null, .null, .int 0, .int 0]))] ++ [(q8, .inl (cA 1, 128, .inr (.inl (fun _ => 0))))]) := hD
  refine va_putF (D := D) (ci := 7) (v := .ref q8) (ty := .array .long) (C := RX7) (T := TX7) (N := 10) hx hb hts ucc_X7 tyX7 tyX7_ok nmX7 hown hK hP hD hS 0 rfl rfl 2 (by decide) (hts (.fieldLink RX7 11 "HallDesk$Rooming" "fillings" "[J") (by decide +kernel)) (fun _ h9 => h9) rfl hin rfl (by decide +kernel) rfl rfl (Nat.le_of_ble_eq_true rfl) dX7_init_10 (fun H locs hP hD hS => ?_)
  have hP : va_P D vwCl ([(h0, .inr (7, [.null, .null, .ref q8, .null, .null, .null, .null, .null, .int 0, .int 0]))] ++ [(q8, .inl (cA 1, 128, .inr (.inl (fun _ => 0))))]) H := hP
  have hD : va_D A ([(h0, .inr (7, [.null, .null, .ref q8, .null, .null, .null, .null, .null, .int 0, .int 0]))] ++ [(q8, .inl (cA 1, 128, .inr (.inl (fun _ => 0))))]) := hD
  refine lv_aload_n hx hb dX7_init_13 rfl (lv_at hl 0 rfl) ?_
  refine lv_bipush (v := 8) hx hb dX7_init_14 (by decide) ?_
  refine lv_sipush (v := 256) hx hb dX7_init_16 (by decide) ?_
  refine hc_mna hx hb hown (hts (.classLink RX7 15 "[[J") (by decide +kernel)) hN.2.2.2 hP hD hS hA (Nat.le_of_ble_eq_true rfl) (Nat.le_of_ble_eq_true rfl) dX7_init_19 (fun q19 H hP hD hS => ?_)
  have hP : va_P D vwCl (([(h0, .inr (7, [.null, .null, .ref q8, .null, .null, .null, .null, .null, .int 0, .int 0]))] ++ [(q8, .inl (cA 1, 128, .inr (.inl (fun _ => 0))))]) ++ hc_rows cA q19) H := hP
  have hD : va_D A (([(h0, .inr (7, [.null, .null, .ref q8, .null, .null, .null, .null, .null, .int 0, .int 0]))] ++ [(q8, .inl (cA 1, 128, .inr (.inl (fun _ => 0))))]) ++ hc_rows cA q19) := hD
  refine va_putF (D := D) (ci := 7) (v := .ref q19) (ty := .array (.array .long)) (C := RX7) (T := TX7) (N := 10) hx hb hts ucc_X7 tyX7 tyX7_ok nmX7 hown hK hP hD hS 0 rfl rfl 3 (by decide) (hts (.fieldLink RX7 17 "HallDesk$Rooming" "tables" "[[J") (by decide +kernel)) (fun _ h9 => h9) rfl hin rfl (by decide +kernel) rfl rfl (Nat.le_of_ble_eq_true rfl) dX7_init_23 (fun H locs hP hD hS => ?_)
  have hP : va_P D vwCl (([(h0, .inr (7, [.null, .null, .ref q8, .ref q19, .null, .null, .null, .null, .int 0, .int 0]))] ++ [(q8, .inl (cA 1, 128, .inr (.inl (fun _ => 0))))]) ++ hc_rows cA q19) H := hP
  have hD : va_D A (([(h0, .inr (7, [.null, .null, .ref q8, .ref q19, .null, .null, .null, .null, .int 0, .int 0]))] ++ [(q8, .inl (cA 1, 128, .inr (.inl (fun _ => 0))))]) ++ hc_rows cA q19) := hD
  refine lv_aload_n hx hb dX7_init_26 rfl (lv_at hl 0 rfl) ?_
  refine lv_bipush (v := 56) hx hb dX7_init_27 (by decide) ?_
  refine hc_newL hx hb (hts (.arrayClass .long) (by decide +kernel)) hK hP hD hS hA 56 (by decide) rfl (Nat.le_of_ble_eq_true rfl) (Nat.le_of_ble_eq_true rfl) (Nat.le_of_ble_eq_true rfl) dX7_init_29 (fun q29 H hP hD hS => ?_)
  have hP : va_P D vwCl ((([(h0, .inr (7, [.null, .null, .ref q8, .ref q19, .null, .null, .null, .null, .int 0, .int 0]))] ++ [(q8, .inl (cA 1, 128, .inr (.inl (fun _ => 0))))]) ++ hc_rows cA q19) ++ [(q29, .inl (cA 1, 56, .inr (.inl (fun _ => 0))))]) H := hP
  have hD : va_D A ((([(h0, .inr (7, [.null, .null, .ref q8, .ref q19, .null, .null, .null, .null, .int 0, .int 0]))] ++ [(q8, .inl (cA 1, 128, .inr (.inl (fun _ => 0))))]) ++ hc_rows cA q19) ++ [(q29, .inl (cA 1, 56, .inr (.inl (fun _ => 0))))]) := hD
  refine va_putF (D := D) (ci := 7) (v := .ref q29) (ty := .array .long) (C := RX7) (T := TX7) (N := 10) hx hb hts ucc_X7 tyX7 tyX7_ok nmX7 hown hK hP hD hS 0 rfl rfl 4 (by decide) (hts (.fieldLink RX7 20 "HallDesk$Rooming" "trips" "[J") (by decide +kernel)) (fun _ h9 => h9) rfl hin rfl (by decide +kernel) rfl rfl (Nat.le_of_ble_eq_true rfl) dX7_init_31 (fun H locs hP hD hS => ?_)
  have hP : va_P D vwCl ((([(h0, .inr (7, [.null, .null, .ref q8, .ref q19, .ref q29, .null, .null, .null, .int 0, .int 0]))] ++ [(q8, .inl (cA 1, 128, .inr (.inl (fun _ => 0))))]) ++ hc_rows cA q19) ++ [(q29, .inl (cA 1, 56, .inr (.inl (fun _ => 0))))]) H := hP
  have hD : va_D A ((([(h0, .inr (7, [.null, .null, .ref q8, .ref q19, .ref q29, .null, .null, .null, .int 0, .int 0]))] ++ [(q8, .inl (cA 1, 128, .inr (.inl (fun _ => 0))))]) ++ hc_rows cA q19) ++ [(q29, .inl (cA 1, 56, .inr (.inl (fun _ => 0))))]) := hD
  refine lv_aload_n hx hb dX7_init_34 rfl (lv_at hl 0 rfl) ?_
  refine lv_sipush (v := 256) hx hb dX7_init_35 (by decide) ?_
  refine hc_newL hx hb (hts (.arrayClass .long) (by decide +kernel)) hK hP hD hS hA 256 (by decide) rfl (Nat.le_of_ble_eq_true rfl) (Nat.le_of_ble_eq_true rfl) (Nat.le_of_ble_eq_true rfl) dX7_init_38 (fun q38 H hP hD hS => ?_)
  have hP : va_P D vwCl (((([(h0, .inr (7, [.null, .null, .ref q8, .ref q19, .ref q29, .null, .null, .null, .int 0, .int 0]))] ++ [(q8, .inl (cA 1, 128, .inr (.inl (fun _ => 0))))]) ++ hc_rows cA q19) ++ [(q29, .inl (cA 1, 56, .inr (.inl (fun _ => 0))))]) ++ [(q38, .inl (cA 1, 256, .inr (.inl (fun _ => 0))))]) H := hP
  have hD : va_D A (((([(h0, .inr (7, [.null, .null, .ref q8, .ref q19, .ref q29, .null, .null, .null, .int 0, .int 0]))] ++ [(q8, .inl (cA 1, 128, .inr (.inl (fun _ => 0))))]) ++ hc_rows cA q19) ++ [(q29, .inl (cA 1, 56, .inr (.inl (fun _ => 0))))]) ++ [(q38, .inl (cA 1, 256, .inr (.inl (fun _ => 0))))]) := hD
  refine va_putF (D := D) (ci := 7) (v := .ref q38) (ty := .array .long) (C := RX7) (T := TX7) (N := 10) hx hb hts ucc_X7 tyX7 tyX7_ok nmX7 hown hK hP hD hS 0 rfl rfl 5 (by decide) (hts (.fieldLink RX7 23 "HallDesk$Rooming" "alone" "[J") (by decide +kernel)) (fun _ h9 => h9) rfl hin rfl (by decide +kernel) rfl rfl (Nat.le_of_ble_eq_true rfl) dX7_init_40 (fun H locs hP hD hS => ?_)
  have hP : va_P D vwCl (((([(h0, .inr (7, [.null, .null, .ref q8, .ref q19, .ref q29, .ref q38, .null, .null, .int 0, .int 0]))] ++ [(q8, .inl (cA 1, 128, .inr (.inl (fun _ => 0))))]) ++ hc_rows cA q19) ++ [(q29, .inl (cA 1, 56, .inr (.inl (fun _ => 0))))]) ++ [(q38, .inl (cA 1, 256, .inr (.inl (fun _ => 0))))]) H := hP
  have hD : va_D A (((([(h0, .inr (7, [.null, .null, .ref q8, .ref q19, .ref q29, .ref q38, .null, .null, .int 0, .int 0]))] ++ [(q8, .inl (cA 1, 128, .inr (.inl (fun _ => 0))))]) ++ hc_rows cA q19) ++ [(q29, .inl (cA 1, 56, .inr (.inl (fun _ => 0))))]) ++ [(q38, .inl (cA 1, 256, .inr (.inl (fun _ => 0))))]) := hD
  refine lv_aload_n hx hb dX7_init_43 rfl (lv_at hl 0 rfl) ?_
  refine lv_sipush (v := 256) hx hb dX7_init_44 (by decide) ?_
  refine hc_newI hx hb (hts (.arrayClass .int) (by decide +kernel)) hK hP hD hS hA 256 (by decide) rfl (Nat.le_of_ble_eq_true rfl) (Nat.le_of_ble_eq_true rfl) (Nat.le_of_ble_eq_true rfl) dX7_init_47 (fun q47 H hP hD hS => ?_)
  have hP : va_P D vwCl ((((([(h0, .inr (7, [.null, .null, .ref q8, .ref q19, .ref q29, .ref q38, .null, .null, .int 0, .int 0]))] ++ [(q8, .inl (cA 1, 128, .inr (.inl (fun _ => 0))))]) ++ hc_rows cA q19) ++ [(q29, .inl (cA 1, 56, .inr (.inl (fun _ => 0))))]) ++ [(q38, .inl (cA 1, 256, .inr (.inl (fun _ => 0))))]) ++ [(q47, .inl (cA 0, 256, .inl (fun _ => 0)))]) H := hP
  have hD : va_D A ((((([(h0, .inr (7, [.null, .null, .ref q8, .ref q19, .ref q29, .ref q38, .null, .null, .int 0, .int 0]))] ++ [(q8, .inl (cA 1, 128, .inr (.inl (fun _ => 0))))]) ++ hc_rows cA q19) ++ [(q29, .inl (cA 1, 56, .inr (.inl (fun _ => 0))))]) ++ [(q38, .inl (cA 1, 256, .inr (.inl (fun _ => 0))))]) ++ [(q47, .inl (cA 0, 256, .inl (fun _ => 0)))]) := hD
  refine va_putF (D := D) (ci := 7) (v := .ref q47) (ty := .array .int) (C := RX7) (T := TX7) (N := 10) hx hb hts ucc_X7 tyX7 tyX7_ok nmX7 hown hK hP hD hS 0 rfl rfl 6 (by decide) (hts (.fieldLink RX7 26 "HallDesk$Rooming" "peopleOf" "[I") (by decide +kernel)) (fun _ h9 => h9) rfl hin rfl (by decide +kernel) rfl rfl (Nat.le_of_ble_eq_true rfl) dX7_init_49 (fun H locs hP hD hS => ?_)
  have hP : va_P D vwCl ((((([(h0, .inr (7, [.null, .null, .ref q8, .ref q19, .ref q29, .ref q38, .ref q47, .null, .int 0, .int 0]))] ++ [(q8, .inl (cA 1, 128, .inr (.inl (fun _ => 0))))]) ++ hc_rows cA q19) ++ [(q29, .inl (cA 1, 56, .inr (.inl (fun _ => 0))))]) ++ [(q38, .inl (cA 1, 256, .inr (.inl (fun _ => 0))))]) ++ [(q47, .inl (cA 0, 256, .inl (fun _ => 0)))]) H := hP
  have hD : va_D A ((((([(h0, .inr (7, [.null, .null, .ref q8, .ref q19, .ref q29, .ref q38, .ref q47, .null, .int 0, .int 0]))] ++ [(q8, .inl (cA 1, 128, .inr (.inl (fun _ => 0))))]) ++ hc_rows cA q19) ++ [(q29, .inl (cA 1, 56, .inr (.inl (fun _ => 0))))]) ++ [(q38, .inl (cA 1, 256, .inr (.inl (fun _ => 0))))]) ++ [(q47, .inl (cA 0, 256, .inl (fun _ => 0)))]) := hD
  refine lv_aload_n hx hb dX7_init_52 rfl (lv_at hl 0 rfl) ?_
  refine lv_bipush (v := 7) hx hb dX7_init_53 (by decide) ?_
  refine hc_newI hx hb (hts (.arrayClass .int) (by decide +kernel)) hK hP hD hS hA 7 (by decide) rfl (Nat.le_of_ble_eq_true rfl) (Nat.le_of_ble_eq_true rfl) (Nat.le_of_ble_eq_true rfl) dX7_init_55 (fun q55 H hP hD hS => ?_)
  have hP : va_P D vwCl (((((([(h0, .inr (7, [.null, .null, .ref q8, .ref q19, .ref q29, .ref q38, .ref q47, .null, .int 0, .int 0]))] ++ [(q8, .inl (cA 1, 128, .inr (.inl (fun _ => 0))))]) ++ hc_rows cA q19) ++ [(q29, .inl (cA 1, 56, .inr (.inl (fun _ => 0))))]) ++ [(q38, .inl (cA 1, 256, .inr (.inl (fun _ => 0))))]) ++ [(q47, .inl (cA 0, 256, .inl (fun _ => 0)))]) ++ [(q55, .inl (cA 0, 7, .inl (fun _ => 0)))]) H := hP
  have hD : va_D A (((((([(h0, .inr (7, [.null, .null, .ref q8, .ref q19, .ref q29, .ref q38, .ref q47, .null, .int 0, .int 0]))] ++ [(q8, .inl (cA 1, 128, .inr (.inl (fun _ => 0))))]) ++ hc_rows cA q19) ++ [(q29, .inl (cA 1, 56, .inr (.inl (fun _ => 0))))]) ++ [(q38, .inl (cA 1, 256, .inr (.inl (fun _ => 0))))]) ++ [(q47, .inl (cA 0, 256, .inl (fun _ => 0)))]) ++ [(q55, .inl (cA 0, 7, .inl (fun _ => 0)))]) := hD
  refine va_putF (D := D) (ci := 7) (v := .ref q55) (ty := .array .int) (C := RX7) (T := TX7) (N := 10) hx hb hts ucc_X7 tyX7 tyX7_ok nmX7 hown hK hP hD hS 0 rfl rfl 7 (by decide) (hts (.fieldLink RX7 30 "HallDesk$Rooming" "guests" "[I") (by decide +kernel)) (fun _ h9 => h9) rfl hin rfl (by decide +kernel) rfl rfl (Nat.le_of_ble_eq_true rfl) dX7_init_57 (fun H locs hP hD hS => ?_)
  have hP : va_P D vwCl (((((([(h0, .inr (7, [.null, .null, .ref q8, .ref q19, .ref q29, .ref q38, .ref q47, .ref q55, .int 0, .int 0]))] ++ [(q8, .inl (cA 1, 128, .inr (.inl (fun _ => 0))))]) ++ hc_rows cA q19) ++ [(q29, .inl (cA 1, 56, .inr (.inl (fun _ => 0))))]) ++ [(q38, .inl (cA 1, 256, .inr (.inl (fun _ => 0))))]) ++ [(q47, .inl (cA 0, 256, .inl (fun _ => 0)))]) ++ [(q55, .inl (cA 0, 7, .inl (fun _ => 0)))]) H := hP
  have hD : va_D A (((((([(h0, .inr (7, [.null, .null, .ref q8, .ref q19, .ref q29, .ref q38, .ref q47, .ref q55, .int 0, .int 0]))] ++ [(q8, .inl (cA 1, 128, .inr (.inl (fun _ => 0))))]) ++ hc_rows cA q19) ++ [(q29, .inl (cA 1, 56, .inr (.inl (fun _ => 0))))]) ++ [(q38, .inl (cA 1, 256, .inr (.inl (fun _ => 0))))]) ++ [(q47, .inl (cA 0, 256, .inl (fun _ => 0)))]) ++ [(q55, .inl (cA 0, 7, .inl (fun _ => 0)))]) := hD
  refine lv_aload_n hx hb dX7_init_60 rfl (lv_at hl 0 rfl) ?_
  refine lv_iconst (v := (-1)) hx hb dX7_init_61 (by decide) ?_
  refine va_put (D := D) (ci := 7) (v := .int (-1)) (ty := .int) (C := RX7) (T := TX7) (N := 10) hx hb hts ucc_X7 tyX7 tyX7_ok nmX7 hown hK hP hD hS 0 rfl rfl 8 (by decide) (hts (.fieldLink RX7 33 "HallDesk$Rooming" "built" "I") (by decide +kernel)) (fun _ h9 => h9) rfl (by decide +kernel) rfl rfl (Nat.le_of_ble_eq_true rfl) dX7_init_62 (fun H locs hP hD hS => ?_)
  have hP : va_P D vwCl (((((([(h0, .inr (7, [.null, .null, .ref q8, .ref q19, .ref q29, .ref q38, .ref q47, .ref q55, .int (-1), .int 0]))] ++ [(q8, .inl (cA 1, 128, .inr (.inl (fun _ => 0))))]) ++ hc_rows cA q19) ++ [(q29, .inl (cA 1, 56, .inr (.inl (fun _ => 0))))]) ++ [(q38, .inl (cA 1, 256, .inr (.inl (fun _ => 0))))]) ++ [(q47, .inl (cA 0, 256, .inl (fun _ => 0)))]) ++ [(q55, .inl (cA 0, 7, .inl (fun _ => 0)))]) H := hP
  have hD : va_D A (((((([(h0, .inr (7, [.null, .null, .ref q8, .ref q19, .ref q29, .ref q38, .ref q47, .ref q55, .int (-1), .int 0]))] ++ [(q8, .inl (cA 1, 128, .inr (.inl (fun _ => 0))))]) ++ hc_rows cA q19) ++ [(q29, .inl (cA 1, 56, .inr (.inl (fun _ => 0))))]) ++ [(q38, .inl (cA 1, 256, .inr (.inl (fun _ => 0))))]) ++ [(q47, .inl (cA 0, 256, .inl (fun _ => 0)))]) ++ [(q55, .inl (cA 0, 7, .inl (fun _ => 0)))]) := hD
  refine lv_aload_n hx hb dX7_init_65 rfl (lv_at hl 0 rfl) ?_
  refine lv_iconst (v := 1) hx hb dX7_init_66 (by decide) ?_
  refine va_put (D := D) (ci := 7) (v := .int 1) (ty := .boolean) (C := RX7) (T := TX7) (N := 10) hx hb hts ucc_X7 tyX7 tyX7_ok nmX7 hown hK hP hD hS 0 rfl rfl 9 (by decide) (hts (.fieldLink RX7 37 "HallDesk$Rooming" "stale" "Z") (by decide +kernel)) (fun _ h9 => h9) rfl (by decide +kernel) rfl rfl (Nat.le_of_ble_eq_true rfl) dX7_init_67 (fun H locs hP hD hS => ?_)
  have hP : va_P D vwCl (((((([(h0, .inr (7, [.null, .null, .ref q8, .ref q19, .ref q29, .ref q38, .ref q47, .ref q55, .int (-1), .int 1]))] ++ [(q8, .inl (cA 1, 128, .inr (.inl (fun _ => 0))))]) ++ hc_rows cA q19) ++ [(q29, .inl (cA 1, 56, .inr (.inl (fun _ => 0))))]) ++ [(q38, .inl (cA 1, 256, .inr (.inl (fun _ => 0))))]) ++ [(q47, .inl (cA 0, 256, .inl (fun _ => 0)))]) ++ [(q55, .inl (cA 0, 7, .inl (fun _ => 0)))]) H := hP
  have hD : va_D A (((((([(h0, .inr (7, [.null, .null, .ref q8, .ref q19, .ref q29, .ref q38, .ref q47, .ref q55, .int (-1), .int 1]))] ++ [(q8, .inl (cA 1, 128, .inr (.inl (fun _ => 0))))]) ++ hc_rows cA q19) ++ [(q29, .inl (cA 1, 56, .inr (.inl (fun _ => 0))))]) ++ [(q38, .inl (cA 1, 256, .inr (.inl (fun _ => 0))))]) ++ [(q47, .inl (cA 0, 256, .inl (fun _ => 0)))]) ++ [(q55, .inl (cA 0, 7, .inl (fun _ => 0)))]) := hD
  refine lv_aload_n hx hb dX7_init_70 rfl (lv_at hl 0 rfl) ?_
  refine lv_aload_n hx hb dX7_init_71 rfl (lv_at hl 1 rfl) ?_
  refine va_putF (D := D) (ci := 7) (v := .ref a1) (ty := .object "HallDesk$Plan") (C := RX7) (T := TX7) (N := 10) hx hb hts ucc_X7 tyX7 tyX7_ok nmX7 hown hK hP hD hS 0 rfl rfl 0 (by decide) (hts (.fieldLink RX7 41 "HallDesk$Rooming" "plan" "LHallDesk$Plan;") (by decide +kernel)) (fun _ h9 => h9) rfl hin rfl (by decide +kernel) rfl rfl (Nat.le_of_ble_eq_true rfl) dX7_init_72 (fun H locs hP hD hS => ?_)
  have hP : va_P D vwCl (((((([(h0, .inr (7, [.ref a1, .null, .ref q8, .ref q19, .ref q29, .ref q38, .ref q47, .ref q55, .int (-1), .int 1]))] ++ [(q8, .inl (cA 1, 128, .inr (.inl (fun _ => 0))))]) ++ hc_rows cA q19) ++ [(q29, .inl (cA 1, 56, .inr (.inl (fun _ => 0))))]) ++ [(q38, .inl (cA 1, 256, .inr (.inl (fun _ => 0))))]) ++ [(q47, .inl (cA 0, 256, .inl (fun _ => 0)))]) ++ [(q55, .inl (cA 0, 7, .inl (fun _ => 0)))]) H := hP
  have hD : va_D A (((((([(h0, .inr (7, [.ref a1, .null, .ref q8, .ref q19, .ref q29, .ref q38, .ref q47, .ref q55, .int (-1), .int 1]))] ++ [(q8, .inl (cA 1, 128, .inr (.inl (fun _ => 0))))]) ++ hc_rows cA q19) ++ [(q29, .inl (cA 1, 56, .inr (.inl (fun _ => 0))))]) ++ [(q38, .inl (cA 1, 256, .inr (.inl (fun _ => 0))))]) ++ [(q47, .inl (cA 0, 256, .inl (fun _ => 0)))]) ++ [(q55, .inl (cA 0, 7, .inl (fun _ => 0)))]) := hD
  refine lv_aload_n hx hb dX7_init_75 rfl (lv_at hl 0 rfl) ?_
  refine lv_aload_n hx hb dX7_init_76 rfl (lv_at hl 2 rfl) ?_
  refine va_putF (D := D) (ci := 7) (v := .ref a2) (ty := .object "HallDesk$Reach") (C := RX7) (T := TX7) (N := 10) hx hb hts ucc_X7 tyX7 tyX7_ok nmX7 hown hK hP hD hS 0 rfl rfl 1 (by decide) (hts (.fieldLink RX7 45 "HallDesk$Rooming" "reach" "LHallDesk$Reach;") (by decide +kernel)) (fun _ h9 => h9) rfl hin rfl (by decide +kernel) rfl rfl (Nat.le_of_ble_eq_true rfl) dX7_init_77 (fun H locs hP hD hS => ?_)
  have hP : va_P D vwCl (((((([(h0, .inr (7, [.ref a1, .ref a2, .ref q8, .ref q19, .ref q29, .ref q38, .ref q47, .ref q55, .int (-1), .int 1]))] ++ [(q8, .inl (cA 1, 128, .inr (.inl (fun _ => 0))))]) ++ hc_rows cA q19) ++ [(q29, .inl (cA 1, 56, .inr (.inl (fun _ => 0))))]) ++ [(q38, .inl (cA 1, 256, .inr (.inl (fun _ => 0))))]) ++ [(q47, .inl (cA 0, 256, .inl (fun _ => 0)))]) ++ [(q55, .inl (cA 0, 7, .inl (fun _ => 0)))]) H := hP
  have hD : va_D A (((((([(h0, .inr (7, [.ref a1, .ref a2, .ref q8, .ref q19, .ref q29, .ref q38, .ref q47, .ref q55, .int (-1), .int 1]))] ++ [(q8, .inl (cA 1, 128, .inr (.inl (fun _ => 0))))]) ++ hc_rows cA q19) ++ [(q29, .inl (cA 1, 56, .inr (.inl (fun _ => 0))))]) ++ [(q38, .inl (cA 1, 256, .inr (.inl (fun _ => 0))))]) ++ [(q47, .inl (cA 0, 256, .inl (fun _ => 0)))]) ++ [(q55, .inl (cA 0, 7, .inl (fun _ => 0)))]) := hD
  refine W.widen (k := 14) (n := 2759) (Nat.le_of_ble_eq_true rfl) (Nat.le_of_ble_eq_true rfl) ?_
  exact W.vret hx hb hr (fun t ht hW => ⟨⟨(fun i => ([q8, q19, q29, q38, q47, q55] : List Nat).getD i 0), rfl, trivial, by rw [ht]; exact hP, by rw [hAe]; exact hD⟩, by rw [hAe]; exact hS.F ht⟩) hS.2.2 dX7_init_80 hlocks
