/-! HallDesk -/
abbrev hc_T8 : Type := (Nat → Nat) × (Nat → Nat → Nat) × hc_T4
def cg_X8 (cA : Nat → ClassId) (h0 : Nat) (u : hc_T8) : va_W := (((((((([(h0, .inr (8, [.ref (u.1 0), .ref (u.1 1), .ref (u.1 2), .ref (u.1 3), .ref (u.1 4), .ref (u.1 5), .ref (u.1 6), .ref (u.1 7), .int 0]))] ++ cg_X5 cA (u.1 0) (u.2.1 0)) ++ cg_X4 cA (u.1 1) u.2.2) ++ cg_X6 cA (u.1 2) (u.1 0) (u.2.1 2)) ++ cg_X7 cA (u.1 3) (u.1 0) (u.1 2) (u.2.1 3)) ++ cg_X1 cA (u.1 4) (u.1 0) (u.1 2) (u.1 3) (u.2.1 4)) ++ cg_X0 cA (u.1 5) (u.1 0) (u.2.1 5)) ++ cg_X2 cA (u.1 6) (u.1 0) (u.1 2) (u.2.1 6)) ++ cg_X3 cA (u.1 7) (u.1 0) (u.2.1 7))
set_option maxRecDepth 100000 in
theorem ucc_X8_X5 : ∀ w ∈ u_ws RX5 TX5 10, w ∈ wsX8_init := by decide +kernel
set_option maxRecDepth 100000 in
theorem ucc_X8_X4 : ∀ w ∈ u_ws RX4 TX4 2, w ∈ wsX8_init := by decide +kernel
set_option maxRecDepth 100000 in
theorem ucc_X8_X6 : ∀ w ∈ u_ws RX6 TX6 5, w ∈ wsX8_init := by decide +kernel
set_option maxRecDepth 100000 in
theorem ucc_X8_X7 : ∀ w ∈ u_ws RX7 TX7 10, w ∈ wsX8_init := by decide +kernel
set_option maxRecDepth 100000 in
theorem ucc_X8_X1 : ∀ w ∈ u_ws RX1 TX1 5, w ∈ wsX8_init := by decide +kernel
set_option maxRecDepth 100000 in
theorem ucc_X8_X0 : ∀ w ∈ u_ws RX0 TX0 3, w ∈ wsX8_init := by decide +kernel
set_option maxRecDepth 100000 in
theorem ucc_X8_X2 : ∀ w ∈ u_ws RX2 TX2 5, w ∈ wsX8_init := by decide +kernel
set_option maxRecDepth 100000 in
theorem ucc_X8_X3 : ∀ w ∈ u_ws RX3 TX3 5, w ∈ wsX8_init := by decide +kernel
set_option maxRecDepth 100000 in
theorem ucc_X8_X8 : ∀ w ∈ u_ws RX8 TX8 9, w ∈ wsX8_init := by decide +kernel
set_option maxHeartbeats 4000000 in
set_option maxRecDepth 100000 in
theorem cc_X8 (l : Launch) (D : va_G) (cA : Nat → ClassId) (sz h0 : Nat) : Met l yX8_init wsX8_init { frames := 8, cells := 112, slots := 5807, locals := 512 } (hc_Pc D cA [.ref h0] [(h0, .inr (8, [.null, .null, .null, .null, .null, .null, .null, .null, .int 0]))] sz) (hc_Qc D [(h0, .inr (8, [.null, .null, .null, .null, .null, .null, .null, .null, .int 0]))] sz (cg_X8 cA h0)) 112 5807 (va_A [(h0, .inr (8, [.null, .null, .null, .null, .null, .null, .null, .null, .int 0]))] sz) := by
  refine Met.ofW (cc := cX8_init) (maxL := 1) (ret := none) (by decide) rfl ?_
  intro p e s m args below meth c s₁ B hml hv
  obtain ⟨rfl, hsz, hP, hK, hD0, hN⟩ := hv
  have hx := B.exec
  have hb := B.bytes
  have hr := B.returns
  have hts := atoms_spec (ws := wsX8_init) B.pre
  have hown : s.vm.findClass RX8 = some m.cls := findClass_of_methodNamed B.named
  have hlocks := B.notSynchronized
  have hin : meth.name = "<init>" := (name_of_methodNamed B.named B.method).1
  subst hsz
  have hD := hD0.self (sz := s.heap.size)
  generalize hAe : va_A [(h0, .inr (8, [.null, .null, .null, .null, .null, .null, .null, .null, .int 0]))] s.heap.size = A at hD ⊢
  have hA : ∀ q : Nat, s.heap.size ≤ q → A q := fun q h => by rw [← hAe]; exact Or.inr h
  have hS : va_S A s.heap s.heap [] := va_S.rf
  have hP : va_P D vwCl [(h0, .inr (8, [.null, .null, .null, .null, .null, .null, .null, .null, .int 0]))] s.heap := hP
  have hl := lv_entry ([.ref h0]) (n := 1) (Nat.le_of_ble_eq_true rfl)
  rw [lg_entry_eq]
  generalize (lg_sl ([.ref h0]) ++ List.replicate (1 - (lg_sl ([.ref h0])).length) Slot.unset).toArray = ls at hl ⊢
  have hl : lv_has ls 1 [(0, .ref h0)] := hl
  refine lv_aload_n hx hb dX8_init_0 rfl (lv_at hl 0 rfl) ?_
  refine W.objInit hx hb hown (hts (.methodLink RX8 3 objectInit) (by decide +kernel)) (hts (.instanceMethod objectInit) (by decide +kernel)) (hts (.code objectInit ⟨#[0xb1]⟩ 1 none) (by decide +kernel)) rfl (by rw [hml]; exact hl.1) rfl dX8_init_1 (Nat.le_of_ble_eq_true rfl) (Nat.le_of_ble_eq_true rfl) ?_
  refine W.eq (g2 := F0 m 4 ls []) rfl ?_
  refine lv_aload_n hx hb dX8_init_4 rfl (lv_at hl 0 rfl) ?_
  refine va_new (ci := 5) (fs := [.int 0, .int 0, .null, .null, .null, .null, .null, .null, .null, .null]) (C := RX5) (T := TX5) (N := 10) hx hb hts ucc_X8_X5 tyX5 tyX5_ok hown (hts (.classLink RX8 9 RX5) (by decide +kernel)) (hts (.instantiable RX5 10) (by decide +kernel)) (hts (.initialized RX5) (by decide +kernel)) hK hP hD hS hA rfl hc_df_X5 (Nat.le_of_ble_eq_true rfl) (Nat.le_of_ble_eq_true rfl) dX8_init_5 (fun o0 H hP hD hS => ?_)
  have hP : va_P D vwCl ([(h0, .inr (8, [.null, .null, .null, .null, .null, .null, .null, .null, .int 0]))] ++ [(o0, .inr (5, [.int 0, .int 0, .null, .null, .null, .null, .null, .null, .null, .null]))]) H := hP
  have hD : va_D A ([(h0, .inr (8, [.null, .null, .null, .null, .null, .null, .null, .null, .int 0]))] ++ [(o0, .inr (5, [.int 0, .int 0, .null, .null, .null, .null, .null, .null, .null, .null]))]) := hD
  refine lv_dup hx hb dX8_init_8 rfl ?_
  refine hc_after (G := cg_X5 cA o0) (mc := 8) (ms := 108) (va_runIN (As := []) (rest := [.ref o0, .ref h0]) ⟨hx, hb, hml, hown, hts⟩ (cc_X5 l D cA H.size o0) ⟨va_cnB 0 hts gX8_init_X5_init_n11 rfl rfl rfl hN.1 (hts (.initialized RX5) (by decide +kernel)) (by decide +kernel) ⟨Nat.le_of_ble_eq_true rfl, Nat.le_of_ble_eq_true rfl⟩, rfl, hts (.instanceMethod yX5_init) (by decide +kernel)⟩ (hc_pre hK hN hP hD) rfl rfl hl.1 rfl (lv_room (Nat.le_of_ble_eq_true rfl)) dX8_init_9 ⟨Nat.le_of_ble_eq_true rfl, Nat.le_of_ble_eq_true rfl⟩) hP hD hS hA (fun u0 H locs hP hD hS => ?_)
  have hP : va_P D vwCl ([(h0, .inr (8, [.null, .null, .null, .null, .null, .null, .null, .null, .int 0]))] ++ cg_X5 cA o0 u0) H := hP
  have hD : va_D A ([(h0, .inr (8, [.null, .null, .null, .null, .null, .null, .null, .null, .int 0]))] ++ cg_X5 cA o0 u0) := hD
  refine va_putF (D := D) (ci := 8) (v := .ref o0) (ty := .object "HallDesk$Plan") (C := RX8) (T := TX8) (N := 9) hx hb hts ucc_X8_X8 tyX8 tyX8_ok nmX8 hown hK hP hD hS 0 rfl rfl 0 (by decide) (hts (.fieldLink RX8 12 "HallDesk" "now" "LHallDesk$Plan;") (by decide +kernel)) (fun _ h9 => h9) rfl hin rfl (by decide +kernel) rfl rfl (Nat.le_of_ble_eq_true rfl) dX8_init_12 (fun H locs hP hD hS => ?_)
  have hP : va_P D vwCl ([(h0, .inr (8, [.ref o0, .null, .null, .null, .null, .null, .null, .null, .int 0]))] ++ cg_X5 cA o0 u0) H := hP
  have hD : va_D A ([(h0, .inr (8, [.ref o0, .null, .null, .null, .null, .null, .null, .null, .int 0]))] ++ cg_X5 cA o0 u0) := hD
  refine lv_aload_n hx hb dX8_init_15 rfl (lv_at hl 0 rfl) ?_
  refine va_new (ci := 4) (fs := [.null, .int 0]) (C := RX4) (T := TX4) (N := 2) hx hb hts ucc_X8_X4 tyX4 tyX4_ok hown (hts (.classLink RX8 16 RX4) (by decide +kernel)) (hts (.instantiable RX4 2) (by decide +kernel)) (hts (.initialized RX4) (by decide +kernel)) hK hP hD hS hA rfl hc_df_X4 (Nat.le_of_ble_eq_true rfl) (Nat.le_of_ble_eq_true rfl) dX8_init_16 (fun o1 H hP hD hS => ?_)
  have hP : va_P D vwCl (([(h0, .inr (8, [.ref o0, .null, .null, .null, .null, .null, .null, .null, .int 0]))] ++ cg_X5 cA o0 u0) ++ [(o1, .inr (4, [.null, .int 0]))]) H := hP
  have hD : va_D A (([(h0, .inr (8, [.ref o0, .null, .null, .null, .null, .null, .null, .null, .int 0]))] ++ cg_X5 cA o0 u0) ++ [(o1, .inr (4, [.null, .int 0]))]) := hD
  refine lv_dup hx hb dX8_init_19 rfl ?_
  refine hc_after (G := cg_X4 cA o1) (mc := 73) (ms := 952) (va_runI (As := []) (rest := [.ref o1, .ref h0]) ⟨hx, hb, hml, hown, hts⟩ (cc_X4 l D cA H.size o1) (cwI 0 hts gX8_init_X4_init rfl rfl rfl (hts (.initialized RX4) (by decide +kernel)) (hts (.methodLink RX8 18 yX4_init) (by decide +kernel)) (hts (.instanceMethod yX4_init) (by decide +kernel)) rfl (by decide +kernel) ⟨Nat.le_of_ble_eq_true rfl, Nat.le_of_ble_eq_true rfl⟩) (hc_pre hK hN hP hD) rfl rfl hl.1 rfl (lv_room (Nat.le_of_ble_eq_true rfl)) dX8_init_20 ⟨Nat.le_of_ble_eq_true rfl, Nat.le_of_ble_eq_true rfl⟩) hP hD hS hA (fun u1 H locs hP hD hS => ?_)
  have hP : va_P D vwCl (([(h0, .inr (8, [.ref o0, .null, .null, .null, .null, .null, .null, .null, .int 0]))] ++ cg_X5 cA o0 u0) ++ cg_X4 cA o1 u1) H := hP
  have hD : va_D A (([(h0, .inr (8, [.ref o0, .null, .null, .null, .null, .null, .null, .null, .int 0]))] ++ cg_X5 cA o0 u0) ++ cg_X4 cA o1 u1) := hD
  refine va_putF (D := D) (ci := 8) (v := .ref o1) (ty := .object "HallDesk$Past") (C := RX8) (T := TX8) (N := 9) hx hb hts ucc_X8_X8 tyX8 tyX8_ok nmX8 hown hK hP hD hS 0 rfl rfl 1 (by decide) (hts (.fieldLink RX8 19 "HallDesk" "past" "LHallDesk$Past;") (by decide +kernel)) (fun _ h9 => h9) rfl hin rfl (by decide +kernel) rfl rfl (Nat.le_of_ble_eq_true rfl) dX8_init_23 (fun H locs hP hD hS => ?_)
  have hP : va_P D vwCl (([(h0, .inr (8, [.ref o0, .ref o1, .null, .null, .null, .null, .null, .null, .int 0]))] ++ cg_X5 cA o0 u0) ++ cg_X4 cA o1 u1) H := hP
  have hD : va_D A (([(h0, .inr (8, [.ref o0, .ref o1, .null, .null, .null, .null, .null, .null, .int 0]))] ++ cg_X5 cA o0 u0) ++ cg_X4 cA o1 u1) := hD
  refine lv_aload_n hx hb dX8_init_26 rfl (lv_at hl 0 rfl) ?_
  refine va_new (ci := 6) (fs := [.null, .null, .null, .null, .int 0]) (C := RX6) (T := TX6) (N := 5) hx hb hts ucc_X8_X6 tyX6 tyX6_ok hown (hts (.classLink RX8 23 RX6) (by decide +kernel)) (hts (.instantiable RX6 5) (by decide +kernel)) (hts (.initialized RX6) (by decide +kernel)) hK hP hD hS hA rfl hc_df_X6 (Nat.le_of_ble_eq_true rfl) (Nat.le_of_ble_eq_true rfl) dX8_init_27 (fun o2 H hP hD hS => ?_)
  have hP : va_P D vwCl ((([(h0, .inr (8, [.ref o0, .ref o1, .null, .null, .null, .null, .null, .null, .int 0]))] ++ cg_X5 cA o0 u0) ++ cg_X4 cA o1 u1) ++ [(o2, .inr (6, [.null, .null, .null, .null, .int 0]))]) H := hP
  have hD : va_D A ((([(h0, .inr (8, [.ref o0, .ref o1, .null, .null, .null, .null, .null, .null, .int 0]))] ++ cg_X5 cA o0 u0) ++ cg_X4 cA o1 u1) ++ [(o2, .inr (6, [.null, .null, .null, .null, .int 0]))]) := hD
  refine lv_dup hx hb dX8_init_30 rfl ?_
  refine lv_aload_n hx hb dX8_init_31 rfl (lv_at hl 0 rfl) ?_
  refine va_get (D := D) (ci := 8) (v := .ref o0) (C := RX8) (T := TX8) (N := 9) hx hb hts ucc_X8_X8 hown hK hP 0 rfl rfl 0 (by decide) (hts (.fieldLink RX8 12 "HallDesk" "now" "LHallDesk$Plan;") (by decide +kernel)) (fun _ h9 => h9) rfl dX8_init_32 ?_
  refine hc_after (G := cg_X6 cA o2 o0) (mc := 3) (ms := 1280) (va_runI (As := [.ref o0]) (rest := [.ref o2, .ref h0]) ⟨hx, hb, hml, hown, hts⟩ (cc_X6 l D cA H.size o2 o0) (cwI 1 hts gX8_init_X6_init rfl rfl rfl (hts (.initialized RX6) (by decide +kernel)) (hts (.methodLink RX8 25 yX6_init) (by decide +kernel)) (hts (.instanceMethod yX6_init) (by decide +kernel)) rfl (by decide +kernel) ⟨Nat.le_of_ble_eq_true rfl, Nat.le_of_ble_eq_true rfl⟩) (hc_pre hK hN hP hD) rfl rfl hl.1 rfl (lv_room (Nat.le_of_ble_eq_true rfl)) dX8_init_35 ⟨Nat.le_of_ble_eq_true rfl, Nat.le_of_ble_eq_true rfl⟩) hP hD hS hA (fun u2 H locs hP hD hS => ?_)
  have hP : va_P D vwCl ((([(h0, .inr (8, [.ref o0, .ref o1, .null, .null, .null, .null, .null, .null, .int 0]))] ++ cg_X5 cA o0 u0) ++ cg_X4 cA o1 u1) ++ cg_X6 cA o2 o0 u2) H := hP
  have hD : va_D A ((([(h0, .inr (8, [.ref o0, .ref o1, .null, .null, .null, .null, .null, .null, .int 0]))] ++ cg_X5 cA o0 u0) ++ cg_X4 cA o1 u1) ++ cg_X6 cA o2 o0 u2) := hD
  refine va_putF (D := D) (ci := 8) (v := .ref o2) (ty := .object "HallDesk$Reach") (C := RX8) (T := TX8) (N := 9) hx hb hts ucc_X8_X8 tyX8 tyX8_ok nmX8 hown hK hP hD hS 0 rfl rfl 2 (by decide) (hts (.fieldLink RX8 28 "HallDesk" "reach" "LHallDesk$Reach;") (by decide +kernel)) (fun _ h9 => h9) rfl hin rfl (by decide +kernel) rfl rfl (Nat.le_of_ble_eq_true rfl) dX8_init_38 (fun H locs hP hD hS => ?_)
  have hP : va_P D vwCl ((([(h0, .inr (8, [.ref o0, .ref o1, .ref o2, .null, .null, .null, .null, .null, .int 0]))] ++ cg_X5 cA o0 u0) ++ cg_X4 cA o1 u1) ++ cg_X6 cA o2 o0 u2) H := hP
  have hD : va_D A ((([(h0, .inr (8, [.ref o0, .ref o1, .ref o2, .null, .null, .null, .null, .null, .int 0]))] ++ cg_X5 cA o0 u0) ++ cg_X4 cA o1 u1) ++ cg_X6 cA o2 o0 u2) := hD
  refine lv_aload_n hx hb dX8_init_41 rfl (lv_at hl 0 rfl) ?_
  refine va_new (ci := 7) (fs := [.null, .null, .null, .null, .null, .null, .null, .null, .int 0, .int 0]) (C := RX7) (T := TX7) (N := 10) hx hb hts ucc_X8_X7 tyX7 tyX7_ok hown (hts (.classLink RX8 32 RX7) (by decide +kernel)) (hts (.instantiable RX7 10) (by decide +kernel)) (hts (.initialized RX7) (by decide +kernel)) hK hP hD hS hA rfl hc_df_X7 (Nat.le_of_ble_eq_true rfl) (Nat.le_of_ble_eq_true rfl) dX8_init_42 (fun o3 H hP hD hS => ?_)
  have hP : va_P D vwCl (((([(h0, .inr (8, [.ref o0, .ref o1, .ref o2, .null, .null, .null, .null, .null, .int 0]))] ++ cg_X5 cA o0 u0) ++ cg_X4 cA o1 u1) ++ cg_X6 cA o2 o0 u2) ++ [(o3, .inr (7, [.null, .null, .null, .null, .null, .null, .null, .null, .int 0, .int 0]))]) H := hP
  have hD : va_D A (((([(h0, .inr (8, [.ref o0, .ref o1, .ref o2, .null, .null, .null, .null, .null, .int 0]))] ++ cg_X5 cA o0 u0) ++ cg_X4 cA o1 u1) ++ cg_X6 cA o2 o0 u2) ++ [(o3, .inr (7, [.null, .null, .null, .null, .null, .null, .null, .null, .int 0, .int 0]))]) := hD
  refine lv_dup hx hb dX8_init_45 rfl ?_
  refine lv_aload_n hx hb dX8_init_46 rfl (lv_at hl 0 rfl) ?_
  refine va_get (D := D) (ci := 8) (v := .ref o0) (C := RX8) (T := TX8) (N := 9) hx hb hts ucc_X8_X8 hown hK hP 0 rfl rfl 0 (by decide) (hts (.fieldLink RX8 12 "HallDesk" "now" "LHallDesk$Plan;") (by decide +kernel)) (fun _ h9 => h9) rfl dX8_init_47 ?_
  refine lv_aload_n hx hb dX8_init_50 rfl (lv_at hl 0 rfl) ?_
  refine va_get (D := D) (ci := 8) (v := .ref o2) (C := RX8) (T := TX8) (N := 9) hx hb hts ucc_X8_X8 hown hK hP 0 rfl rfl 2 (by decide) (hts (.fieldLink RX8 28 "HallDesk" "reach" "LHallDesk$Reach;") (by decide +kernel)) (fun _ h9 => h9) rfl dX8_init_51 ?_
  refine hc_after (G := cg_X7 cA o3 o0 o2) (mc := 14) (ms := 2759) (va_runI (As := [.ref o0, .ref o2]) (rest := [.ref o3, .ref h0]) ⟨hx, hb, hml, hown, hts⟩ (cc_X7 l D cA H.size o3 o0 o2) (cwI 2 hts gX8_init_X7_init rfl rfl rfl (hts (.initialized RX7) (by decide +kernel)) (hts (.methodLink RX8 34 yX7_init) (by decide +kernel)) (hts (.instanceMethod yX7_init) (by decide +kernel)) rfl (by decide +kernel) ⟨Nat.le_of_ble_eq_true rfl, Nat.le_of_ble_eq_true rfl⟩) (hc_pre hK hN hP hD) rfl rfl hl.1 rfl (lv_room (Nat.le_of_ble_eq_true rfl)) dX8_init_54 ⟨Nat.le_of_ble_eq_true rfl, Nat.le_of_ble_eq_true rfl⟩) hP hD hS hA (fun u3 H locs hP hD hS => ?_)
  have hP : va_P D vwCl (((([(h0, .inr (8, [.ref o0, .ref o1, .ref o2, .null, .null, .null, .null, .null, .int 0]))] ++ cg_X5 cA o0 u0) ++ cg_X4 cA o1 u1) ++ cg_X6 cA o2 o0 u2) ++ cg_X7 cA o3 o0 o2 u3) H := hP
  have hD : va_D A (((([(h0, .inr (8, [.ref o0, .ref o1, .ref o2, .null, .null, .null, .null, .null, .int 0]))] ++ cg_X5 cA o0 u0) ++ cg_X4 cA o1 u1) ++ cg_X6 cA o2 o0 u2) ++ cg_X7 cA o3 o0 o2 u3) := hD
  refine va_putF (D := D) (ci := 8) (v := .ref o3) (ty := .object "HallDesk$Rooming") (C := RX8) (T := TX8) (N := 9) hx hb hts ucc_X8_X8 tyX8 tyX8_ok nmX8 hown hK hP hD hS 0 rfl rfl 3 (by decide) (hts (.fieldLink RX8 37 "HallDesk" "rooming" "LHallDesk$Rooming;") (by decide +kernel)) (fun _ h9 => h9) rfl hin rfl (by decide +kernel) rfl rfl (Nat.le_of_ble_eq_true rfl) dX8_init_57 (fun H locs hP hD hS => ?_)
  have hP : va_P D vwCl (((([(h0, .inr (8, [.ref o0, .ref o1, .ref o2, .ref o3, .null, .null, .null, .null, .int 0]))] ++ cg_X5 cA o0 u0) ++ cg_X4 cA o1 u1) ++ cg_X6 cA o2 o0 u2) ++ cg_X7 cA o3 o0 o2 u3) H := hP
  have hD : va_D A (((([(h0, .inr (8, [.ref o0, .ref o1, .ref o2, .ref o3, .null, .null, .null, .null, .int 0]))] ++ cg_X5 cA o0 u0) ++ cg_X4 cA o1 u1) ++ cg_X6 cA o2 o0 u2) ++ cg_X7 cA o3 o0 o2 u3) := hD
  refine lv_aload_n hx hb dX8_init_60 rfl (lv_at hl 0 rfl) ?_
  refine va_new (ci := 1) (fs := [.null, .null, .null, .null, .int 0]) (C := RX1) (T := TX1) (N := 5) hx hb hts ucc_X8_X1 tyX1 tyX1_ok hown (hts (.classLink RX8 41 RX1) (by decide +kernel)) (hts (.instantiable RX1 5) (by decide +kernel)) (hts (.initialized RX1) (by decide +kernel)) hK hP hD hS hA rfl hc_df_X1 (Nat.le_of_ble_eq_true rfl) (Nat.le_of_ble_eq_true rfl) dX8_init_61 (fun o4 H hP hD hS => ?_)
  have hP : va_P D vwCl ((((([(h0, .inr (8, [.ref o0, .ref o1, .ref o2, .ref o3, .null, .null, .null, .null, .int 0]))] ++ cg_X5 cA o0 u0) ++ cg_X4 cA o1 u1) ++ cg_X6 cA o2 o0 u2) ++ cg_X7 cA o3 o0 o2 u3) ++ [(o4, .inr (1, [.null, .null, .null, .null, .int 0]))]) H := hP
  have hD : va_D A ((((([(h0, .inr (8, [.ref o0, .ref o1, .ref o2, .ref o3, .null, .null, .null, .null, .int 0]))] ++ cg_X5 cA o0 u0) ++ cg_X4 cA o1 u1) ++ cg_X6 cA o2 o0 u2) ++ cg_X7 cA o3 o0 o2 u3) ++ [(o4, .inr (1, [.null, .null, .null, .null, .int 0]))]) := hD
  refine lv_dup hx hb dX8_init_64 rfl ?_
  refine lv_aload_n hx hb dX8_init_65 rfl (lv_at hl 0 rfl) ?_
  refine va_get (D := D) (ci := 8) (v := .ref o0) (C := RX8) (T := TX8) (N := 9) hx hb hts ucc_X8_X8 hown hK hP 0 rfl rfl 0 (by decide) (hts (.fieldLink RX8 12 "HallDesk" "now" "LHallDesk$Plan;") (by decide +kernel)) (fun _ h9 => h9) rfl dX8_init_66 ?_
  refine lv_aload_n hx hb dX8_init_69 rfl (lv_at hl 0 rfl) ?_
  refine va_get (D := D) (ci := 8) (v := .ref o2) (C := RX8) (T := TX8) (N := 9) hx hb hts ucc_X8_X8 hown hK hP 0 rfl rfl 2 (by decide) (hts (.fieldLink RX8 28 "HallDesk" "reach" "LHallDesk$Reach;") (by decide +kernel)) (fun _ h9 => h9) rfl dX8_init_70 ?_
  refine lv_aload_n hx hb dX8_init_73 rfl (lv_at hl 0 rfl) ?_
  refine va_get (D := D) (ci := 8) (v := .ref o3) (C := RX8) (T := TX8) (N := 9) hx hb hts ucc_X8_X8 hown hK hP 0 rfl rfl 3 (by decide) (hts (.fieldLink RX8 37 "HallDesk" "rooming" "LHallDesk$Rooming;") (by decide +kernel)) (fun _ h9 => h9) rfl dX8_init_74 ?_
  refine hc_after (G := cg_X1 cA o4 o0 o2 o3) (mc := 1) (ms := 128) (va_runI (As := [.ref o0, .ref o2, .ref o3]) (rest := [.ref o4, .ref h0]) ⟨hx, hb, hml, hown, hts⟩ (cc_X1 l D cA H.size o4 o0 o2 o3) (cwI 3 hts gX8_init_X1_init rfl rfl rfl (hts (.initialized RX1) (by decide +kernel)) (hts (.methodLink RX8 43 yX1_init) (by decide +kernel)) (hts (.instanceMethod yX1_init) (by decide +kernel)) rfl (by decide +kernel) ⟨Nat.le_of_ble_eq_true rfl, Nat.le_of_ble_eq_true rfl⟩) (hc_pre hK hN hP hD) rfl rfl hl.1 rfl (lv_room (Nat.le_of_ble_eq_true rfl)) dX8_init_77 ⟨Nat.le_of_ble_eq_true rfl, Nat.le_of_ble_eq_true rfl⟩) hP hD hS hA (fun u4 H locs hP hD hS => ?_)
  have hP : va_P D vwCl ((((([(h0, .inr (8, [.ref o0, .ref o1, .ref o2, .ref o3, .null, .null, .null, .null, .int 0]))] ++ cg_X5 cA o0 u0) ++ cg_X4 cA o1 u1) ++ cg_X6 cA o2 o0 u2) ++ cg_X7 cA o3 o0 o2 u3) ++ cg_X1 cA o4 o0 o2 o3 u4) H := hP
  have hD : va_D A ((((([(h0, .inr (8, [.ref o0, .ref o1, .ref o2, .ref o3, .null, .null, .null, .null, .int 0]))] ++ cg_X5 cA o0 u0) ++ cg_X4 cA o1 u1) ++ cg_X6 cA o2 o0 u2) ++ cg_X7 cA o3 o0 o2 u3) ++ cg_X1 cA o4 o0 o2 o3 u4) := hD
  refine va_putF (D := D) (ci := 8) (v := .ref o4) (ty := .object "HallDesk$Costs") (C := RX8) (T := TX8) (N := 9) hx hb hts ucc_X8_X8 tyX8 tyX8_ok nmX8 hown hK hP hD hS 0 rfl rfl 4 (by decide) (hts (.fieldLink RX8 46 "HallDesk" "costs" "LHallDesk$Costs;") (by decide +kernel)) (fun _ h9 => h9) rfl hin rfl (by decide +kernel) rfl rfl (Nat.le_of_ble_eq_true rfl) dX8_init_80 (fun H locs hP hD hS => ?_)
  have hP : va_P D vwCl ((((([(h0, .inr (8, [.ref o0, .ref o1, .ref o2, .ref o3, .ref o4, .null, .null, .null, .int 0]))] ++ cg_X5 cA o0 u0) ++ cg_X4 cA o1 u1) ++ cg_X6 cA o2 o0 u2) ++ cg_X7 cA o3 o0 o2 u3) ++ cg_X1 cA o4 o0 o2 o3 u4) H := hP
  have hD : va_D A ((((([(h0, .inr (8, [.ref o0, .ref o1, .ref o2, .ref o3, .ref o4, .null, .null, .null, .int 0]))] ++ cg_X5 cA o0 u0) ++ cg_X4 cA o1 u1) ++ cg_X6 cA o2 o0 u2) ++ cg_X7 cA o3 o0 o2 u3) ++ cg_X1 cA o4 o0 o2 o3 u4) := hD
  refine lv_aload_n hx hb dX8_init_83 rfl (lv_at hl 0 rfl) ?_
  refine va_new (ci := 0) (fs := [.null, .null, .null]) (C := RX0) (T := TX0) (N := 3) hx hb hts ucc_X8_X0 tyX0 tyX0_ok hown (hts (.classLink RX8 50 RX0) (by decide +kernel)) (hts (.instantiable RX0 3) (by decide +kernel)) (hts (.initialized RX0) (by decide +kernel)) hK hP hD hS hA rfl hc_df_X0 (Nat.le_of_ble_eq_true rfl) (Nat.le_of_ble_eq_true rfl) dX8_init_84 (fun o5 H hP hD hS => ?_)
  have hP : va_P D vwCl (((((([(h0, .inr (8, [.ref o0, .ref o1, .ref o2, .ref o3, .ref o4, .null, .null, .null, .int 0]))] ++ cg_X5 cA o0 u0) ++ cg_X4 cA o1 u1) ++ cg_X6 cA o2 o0 u2) ++ cg_X7 cA o3 o0 o2 u3) ++ cg_X1 cA o4 o0 o2 o3 u4) ++ [(o5, .inr (0, [.null, .null, .null]))]) H := hP
  have hD : va_D A (((((([(h0, .inr (8, [.ref o0, .ref o1, .ref o2, .ref o3, .ref o4, .null, .null, .null, .int 0]))] ++ cg_X5 cA o0 u0) ++ cg_X4 cA o1 u1) ++ cg_X6 cA o2 o0 u2) ++ cg_X7 cA o3 o0 o2 u3) ++ cg_X1 cA o4 o0 o2 o3 u4) ++ [(o5, .inr (0, [.null, .null, .null]))]) := hD
  refine lv_dup hx hb dX8_init_87 rfl ?_
  refine lv_aload_n hx hb dX8_init_88 rfl (lv_at hl 0 rfl) ?_
  refine va_get (D := D) (ci := 8) (v := .ref o0) (C := RX8) (T := TX8) (N := 9) hx hb hts ucc_X8_X8 hown hK hP 0 rfl rfl 0 (by decide) (hts (.fieldLink RX8 12 "HallDesk" "now" "LHallDesk$Plan;") (by decide +kernel)) (fun _ h9 => h9) rfl dX8_init_89 ?_
  refine hc_after (G := cg_X0 cA o5 o0) (mc := 2) (ms := 15) (va_runI (As := [.ref o0]) (rest := [.ref o5, .ref h0]) ⟨hx, hb, hml, hown, hts⟩ (cc_X0 l D cA H.size o5 o0) (cwI 1 hts gX8_init_X0_init rfl rfl rfl (hts (.initialized RX0) (by decide +kernel)) (hts (.methodLink RX8 52 yX0_init) (by decide +kernel)) (hts (.instanceMethod yX0_init) (by decide +kernel)) rfl (by decide +kernel) ⟨Nat.le_of_ble_eq_true rfl, Nat.le_of_ble_eq_true rfl⟩) (hc_pre hK hN hP hD) rfl rfl hl.1 rfl (lv_room (Nat.le_of_ble_eq_true rfl)) dX8_init_92 ⟨Nat.le_of_ble_eq_true rfl, Nat.le_of_ble_eq_true rfl⟩) hP hD hS hA (fun u5 H locs hP hD hS => ?_)
  have hP : va_P D vwCl (((((([(h0, .inr (8, [.ref o0, .ref o1, .ref o2, .ref o3, .ref o4, .null, .null, .null, .int 0]))] ++ cg_X5 cA o0 u0) ++ cg_X4 cA o1 u1) ++ cg_X6 cA o2 o0 u2) ++ cg_X7 cA o3 o0 o2 u3) ++ cg_X1 cA o4 o0 o2 o3 u4) ++ cg_X0 cA o5 o0 u5) H := hP
  have hD : va_D A (((((([(h0, .inr (8, [.ref o0, .ref o1, .ref o2, .ref o3, .ref o4, .null, .null, .null, .int 0]))] ++ cg_X5 cA o0 u0) ++ cg_X4 cA o1 u1) ++ cg_X6 cA o2 o0 u2) ++ cg_X7 cA o3 o0 o2 u3) ++ cg_X1 cA o4 o0 o2 o3 u4) ++ cg_X0 cA o5 o0 u5) := hD
  refine va_putF (D := D) (ci := 8) (v := .ref o5) (ty := .object "HallDesk$Claims") (C := RX8) (T := TX8) (N := 9) hx hb hts ucc_X8_X8 tyX8 tyX8_ok nmX8 hown hK hP hD hS 0 rfl rfl 5 (by decide) (hts (.fieldLink RX8 53 "HallDesk" "claims" "LHallDesk$Claims;") (by decide +kernel)) (fun _ h9 => h9) rfl hin rfl (by decide +kernel) rfl rfl (Nat.le_of_ble_eq_true rfl) dX8_init_95 (fun H locs hP hD hS => ?_)
  have hP : va_P D vwCl (((((([(h0, .inr (8, [.ref o0, .ref o1, .ref o2, .ref o3, .ref o4, .ref o5, .null, .null, .int 0]))] ++ cg_X5 cA o0 u0) ++ cg_X4 cA o1 u1) ++ cg_X6 cA o2 o0 u2) ++ cg_X7 cA o3 o0 o2 u3) ++ cg_X1 cA o4 o0 o2 o3 u4) ++ cg_X0 cA o5 o0 u5) H := hP
  have hD : va_D A (((((([(h0, .inr (8, [.ref o0, .ref o1, .ref o2, .ref o3, .ref o4, .ref o5, .null, .null, .int 0]))] ++ cg_X5 cA o0 u0) ++ cg_X4 cA o1 u1) ++ cg_X6 cA o2 o0 u2) ++ cg_X7 cA o3 o0 o2 u3) ++ cg_X1 cA o4 o0 o2 o3 u4) ++ cg_X0 cA o5 o0 u5) := hD
  refine lv_aload_n hx hb dX8_init_98 rfl (lv_at hl 0 rfl) ?_
  refine va_new (ci := 2) (fs := [.null, .null, .null, .null, .int 0]) (C := RX2) (T := TX2) (N := 5) hx hb hts ucc_X8_X2 tyX2 tyX2_ok hown (hts (.classLink RX8 57 RX2) (by decide +kernel)) (hts (.instantiable RX2 5) (by decide +kernel)) (hts (.initialized RX2) (by decide +kernel)) hK hP hD hS hA rfl hc_df_X2 (Nat.le_of_ble_eq_true rfl) (Nat.le_of_ble_eq_true rfl) dX8_init_99 (fun o6 H hP hD hS => ?_)
  have hP : va_P D vwCl ((((((([(h0, .inr (8, [.ref o0, .ref o1, .ref o2, .ref o3, .ref o4, .ref o5, .null, .null, .int 0]))] ++ cg_X5 cA o0 u0) ++ cg_X4 cA o1 u1) ++ cg_X6 cA o2 o0 u2) ++ cg_X7 cA o3 o0 o2 u3) ++ cg_X1 cA o4 o0 o2 o3 u4) ++ cg_X0 cA o5 o0 u5) ++ [(o6, .inr (2, [.null, .null, .null, .null, .int 0]))]) H := hP
  have hD : va_D A ((((((([(h0, .inr (8, [.ref o0, .ref o1, .ref o2, .ref o3, .ref o4, .ref o5, .null, .null, .int 0]))] ++ cg_X5 cA o0 u0) ++ cg_X4 cA o1 u1) ++ cg_X6 cA o2 o0 u2) ++ cg_X7 cA o3 o0 o2 u3) ++ cg_X1 cA o4 o0 o2 o3 u4) ++ cg_X0 cA o5 o0 u5) ++ [(o6, .inr (2, [.null, .null, .null, .null, .int 0]))]) := hD
  refine lv_dup hx hb dX8_init_102 rfl ?_
  refine lv_aload_n hx hb dX8_init_103 rfl (lv_at hl 0 rfl) ?_
  refine va_get (D := D) (ci := 8) (v := .ref o0) (C := RX8) (T := TX8) (N := 9) hx hb hts ucc_X8_X8 hown hK hP 0 rfl rfl 0 (by decide) (hts (.fieldLink RX8 12 "HallDesk" "now" "LHallDesk$Plan;") (by decide +kernel)) (fun _ h9 => h9) rfl dX8_init_104 ?_
  refine lv_aload_n hx hb dX8_init_107 rfl (lv_at hl 0 rfl) ?_
  refine va_get (D := D) (ci := 8) (v := .ref o2) (C := RX8) (T := TX8) (N := 9) hx hb hts ucc_X8_X8 hown hK hP 0 rfl rfl 2 (by decide) (hts (.fieldLink RX8 28 "HallDesk" "reach" "LHallDesk$Reach;") (by decide +kernel)) (fun _ h9 => h9) rfl dX8_init_108 ?_
  refine hc_after (G := cg_X2 cA o6 o0 o2) (mc := 2) (ms := 512) (va_runI (As := [.ref o0, .ref o2]) (rest := [.ref o6, .ref h0]) ⟨hx, hb, hml, hown, hts⟩ (cc_X2 l D cA H.size o6 o0 o2) (cwI 2 hts gX8_init_X2_init rfl rfl rfl (hts (.initialized RX2) (by decide +kernel)) (hts (.methodLink RX8 59 yX2_init) (by decide +kernel)) (hts (.instanceMethod yX2_init) (by decide +kernel)) rfl (by decide +kernel) ⟨Nat.le_of_ble_eq_true rfl, Nat.le_of_ble_eq_true rfl⟩) (hc_pre hK hN hP hD) rfl rfl hl.1 rfl (lv_room (Nat.le_of_ble_eq_true rfl)) dX8_init_111 ⟨Nat.le_of_ble_eq_true rfl, Nat.le_of_ble_eq_true rfl⟩) hP hD hS hA (fun u6 H locs hP hD hS => ?_)
  have hP : va_P D vwCl ((((((([(h0, .inr (8, [.ref o0, .ref o1, .ref o2, .ref o3, .ref o4, .ref o5, .null, .null, .int 0]))] ++ cg_X5 cA o0 u0) ++ cg_X4 cA o1 u1) ++ cg_X6 cA o2 o0 u2) ++ cg_X7 cA o3 o0 o2 u3) ++ cg_X1 cA o4 o0 o2 o3 u4) ++ cg_X0 cA o5 o0 u5) ++ cg_X2 cA o6 o0 o2 u6) H := hP
  have hD : va_D A ((((((([(h0, .inr (8, [.ref o0, .ref o1, .ref o2, .ref o3, .ref o4, .ref o5, .null, .null, .int 0]))] ++ cg_X5 cA o0 u0) ++ cg_X4 cA o1 u1) ++ cg_X6 cA o2 o0 u2) ++ cg_X7 cA o3 o0 o2 u3) ++ cg_X1 cA o4 o0 o2 o3 u4) ++ cg_X0 cA o5 o0 u5) ++ cg_X2 cA o6 o0 o2 u6) := hD
  refine va_putF (D := D) (ci := 8) (v := .ref o6) (ty := .object "HallDesk$Heaps") (C := RX8) (T := TX8) (N := 9) hx hb hts ucc_X8_X8 tyX8 tyX8_ok nmX8 hown hK hP hD hS 0 rfl rfl 6 (by decide) (hts (.fieldLink RX8 60 "HallDesk" "heaps" "LHallDesk$Heaps;") (by decide +kernel)) (fun _ h9 => h9) rfl hin rfl (by decide +kernel) rfl rfl (Nat.le_of_ble_eq_true rfl) dX8_init_114 (fun H locs hP hD hS => ?_)
  have hP : va_P D vwCl ((((((([(h0, .inr (8, [.ref o0, .ref o1, .ref o2, .ref o3, .ref o4, .ref o5, .ref o6, .null, .int 0]))] ++ cg_X5 cA o0 u0) ++ cg_X4 cA o1 u1) ++ cg_X6 cA o2 o0 u2) ++ cg_X7 cA o3 o0 o2 u3) ++ cg_X1 cA o4 o0 o2 o3 u4) ++ cg_X0 cA o5 o0 u5) ++ cg_X2 cA o6 o0 o2 u6) H := hP
  have hD : va_D A ((((((([(h0, .inr (8, [.ref o0, .ref o1, .ref o2, .ref o3, .ref o4, .ref o5, .ref o6, .null, .int 0]))] ++ cg_X5 cA o0 u0) ++ cg_X4 cA o1 u1) ++ cg_X6 cA o2 o0 u2) ++ cg_X7 cA o3 o0 o2 u3) ++ cg_X1 cA o4 o0 o2 o3 u4) ++ cg_X0 cA o5 o0 u5) ++ cg_X2 cA o6 o0 o2 u6) := hD
  refine lv_aload_n hx hb dX8_init_117 rfl (lv_at hl 0 rfl) ?_
  refine va_new (ci := 3) (fs := [.null, .null, .int 0, .int 0, .int 0]) (C := RX3) (T := TX3) (N := 5) hx hb hts ucc_X8_X3 tyX3 tyX3_ok hown (hts (.classLink RX8 64 RX3) (by decide +kernel)) (hts (.instantiable RX3 5) (by decide +kernel)) (hts (.initialized RX3) (by decide +kernel)) hK hP hD hS hA rfl hc_df_X3 (Nat.le_of_ble_eq_true rfl) (Nat.le_of_ble_eq_true rfl) dX8_init_118 (fun o7 H hP hD hS => ?_)
  have hP : va_P D vwCl (((((((([(h0, .inr (8, [.ref o0, .ref o1, .ref o2, .ref o3, .ref o4, .ref o5, .ref o6, .null, .int 0]))] ++ cg_X5 cA o0 u0) ++ cg_X4 cA o1 u1) ++ cg_X6 cA o2 o0 u2) ++ cg_X7 cA o3 o0 o2 u3) ++ cg_X1 cA o4 o0 o2 o3 u4) ++ cg_X0 cA o5 o0 u5) ++ cg_X2 cA o6 o0 o2 u6) ++ [(o7, .inr (3, [.null, .null, .int 0, .int 0, .int 0]))]) H := hP
  have hD : va_D A (((((((([(h0, .inr (8, [.ref o0, .ref o1, .ref o2, .ref o3, .ref o4, .ref o5, .ref o6, .null, .int 0]))] ++ cg_X5 cA o0 u0) ++ cg_X4 cA o1 u1) ++ cg_X6 cA o2 o0 u2) ++ cg_X7 cA o3 o0 o2 u3) ++ cg_X1 cA o4 o0 o2 o3 u4) ++ cg_X0 cA o5 o0 u5) ++ cg_X2 cA o6 o0 o2 u6) ++ [(o7, .inr (3, [.null, .null, .int 0, .int 0, .int 0]))]) := hD
  refine lv_dup hx hb dX8_init_121 rfl ?_
  refine lv_aload_n hx hb dX8_init_122 rfl (lv_at hl 0 rfl) ?_
  refine va_get (D := D) (ci := 8) (v := .ref o0) (C := RX8) (T := TX8) (N := 9) hx hb hts ucc_X8_X8 hown hK hP 0 rfl rfl 0 (by decide) (hts (.fieldLink RX8 12 "HallDesk" "now" "LHallDesk$Plan;") (by decide +kernel)) (fun _ h9 => h9) rfl dX8_init_123 ?_
  refine hc_after (G := cg_X3 cA o7 o0) (mc := 1) (ms := 8) (va_runI (As := [.ref o0]) (rest := [.ref o7, .ref h0]) ⟨hx, hb, hml, hown, hts⟩ (cc_X3 l D cA H.size o7 o0) (cwI 1 hts gX8_init_X3_init rfl rfl rfl (hts (.initialized RX3) (by decide +kernel)) (hts (.methodLink RX8 66 yX3_init) (by decide +kernel)) (hts (.instanceMethod yX3_init) (by decide +kernel)) rfl (by decide +kernel) ⟨Nat.le_of_ble_eq_true rfl, Nat.le_of_ble_eq_true rfl⟩) (hc_pre hK hN hP hD) rfl rfl hl.1 rfl (lv_room (Nat.le_of_ble_eq_true rfl)) dX8_init_126 ⟨Nat.le_of_ble_eq_true rfl, Nat.le_of_ble_eq_true rfl⟩) hP hD hS hA (fun u7 H locs hP hD hS => ?_)
  have hP : va_P D vwCl (((((((([(h0, .inr (8, [.ref o0, .ref o1, .ref o2, .ref o3, .ref o4, .ref o5, .ref o6, .null, .int 0]))] ++ cg_X5 cA o0 u0) ++ cg_X4 cA o1 u1) ++ cg_X6 cA o2 o0 u2) ++ cg_X7 cA o3 o0 o2 u3) ++ cg_X1 cA o4 o0 o2 o3 u4) ++ cg_X0 cA o5 o0 u5) ++ cg_X2 cA o6 o0 o2 u6) ++ cg_X3 cA o7 o0 u7) H := hP
  have hD : va_D A (((((((([(h0, .inr (8, [.ref o0, .ref o1, .ref o2, .ref o3, .ref o4, .ref o5, .ref o6, .null, .int 0]))] ++ cg_X5 cA o0 u0) ++ cg_X4 cA o1 u1) ++ cg_X6 cA o2 o0 u2) ++ cg_X7 cA o3 o0 o2 u3) ++ cg_X1 cA o4 o0 o2 o3 u4) ++ cg_X0 cA o5 o0 u5) ++ cg_X2 cA o6 o0 o2 u6) ++ cg_X3 cA o7 o0 u7) := hD
  refine va_putF (D := D) (ci := 8) (v := .ref o7) (ty := .object "HallDesk$Line") (C := RX8) (T := TX8) (N := 9) hx hb hts ucc_X8_X8 tyX8 tyX8_ok nmX8 hown hK hP hD hS 0 rfl rfl 7 (by decide) (hts (.fieldLink RX8 67 "HallDesk" "onLine" "LHallDesk$Line;") (by decide +kernel)) (fun _ h9 => h9) rfl hin rfl (by decide +kernel) rfl rfl (Nat.le_of_ble_eq_true rfl) dX8_init_129 (fun H locs hP hD hS => ?_)
  have hP : va_P D vwCl (((((((([(h0, .inr (8, [.ref o0, .ref o1, .ref o2, .ref o3, .ref o4, .ref o5, .ref o6, .ref o7, .int 0]))] ++ cg_X5 cA o0 u0) ++ cg_X4 cA o1 u1) ++ cg_X6 cA o2 o0 u2) ++ cg_X7 cA o3 o0 o2 u3) ++ cg_X1 cA o4 o0 o2 o3 u4) ++ cg_X0 cA o5 o0 u5) ++ cg_X2 cA o6 o0 o2 u6) ++ cg_X3 cA o7 o0 u7) H := hP
  have hD : va_D A (((((((([(h0, .inr (8, [.ref o0, .ref o1, .ref o2, .ref o3, .ref o4, .ref o5, .ref o6, .ref o7, .int 0]))] ++ cg_X5 cA o0 u0) ++ cg_X4 cA o1 u1) ++ cg_X6 cA o2 o0 u2) ++ cg_X7 cA o3 o0 o2 u3) ++ cg_X1 cA o4 o0 o2 o3 u4) ++ cg_X0 cA o5 o0 u5) ++ cg_X2 cA o6 o0 o2 u6) ++ cg_X3 cA o7 o0 u7) := hD
  refine W.widen (k := 112) (n := 5807) (Nat.le_of_ble_eq_true rfl) (Nat.le_of_ble_eq_true rfl) ?_
  exact W.vret hx hb hr (fun t ht hW => ⟨⟨(((fun i => ([o0, o1, o2, o3, o4, o5, o6, o7] : List Nat).getD i 0), fun i => ([u0, (fun _ => 0), u2, u3, u4, u5, u6, u7] : List (Nat → Nat)).getD i (fun _ => 0), u1) : hc_T8), rfl, trivial, by rw [ht]; exact hP, by rw [hAe]; exact hD⟩, by rw [hAe]; exact hS.F ht⟩) hS.2.2 dX8_init_132 hlocks
