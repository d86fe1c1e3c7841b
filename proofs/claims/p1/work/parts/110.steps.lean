/-! BOTH DESKS TOGETHER: each call answers alike -/
def hd_J (S : hd_S) : Prop := ∃ (p : hp_P) (n : Nat) (q : Nat → hp_P) (hand : Nat) (cl : Nat → Nat), hx_I S p n q hand cl ∧ hm_I S p n q hand cl
/-- the same, with no town -/
def hd_J0 (S : hd_S) : Prop := ∃ (p : hp_P) (n : Nat) (q : Nat → hp_P) (hand : Nat) (cl : Nat → Nat), (hx_I S p n q hand cl ∧ hm_I S p n q hand cl) ∧ hp_T p = 0
theorem hd_J_of0 {S : hd_S} (h : hd_J0 S) : hd_J S := by
  obtain ⟨p, n, q, hand, cl, ⟨hx, hm⟩, _⟩ := h
  exact ⟨p, n, q, hand, cl, hx, hm⟩
theorem hx_rm_mfr {S S2 : hd_S} {p : hp_P} (h : hm_fr S S2) (H : hx_rm p S) : hx_rm p S2 := by
  unfold hx_rm hx_t0 hx_tb at H ⊢
  rw [h.2, h.1 88 (by decide), h.1 93 (by decide)]
  exact H
theorem hx_I_mfr {S S2 : hd_S} {p : hp_P} {n : Nat} {q : Nat → hp_P} {hand : Nat} {cl : Nat → Nat} (hI : hx_I S p n q hand cl) (h : hm_fr S S2) : hx_I S2 p n q hand cl := by
  obtain ⟨a, b1, b2, b3, b4, b5, b6, b7⟩ := hI
  refine ⟨a, hx_P_cell (fun i hi => h.1 _ (by omega)) b1, hx_past_eq (fun c c1 c2 => h.1 c (by omega)) (by rw [h.2]) b2, by rw [h.1 0 (by decide)]; exact b3, fun t ht => by rw [h.1 106 (by decide)]; exact b4 t ht, ?_, hx_rm_mfr h b6, ?_⟩
  · unfold hx_rs hx_R hx_r at b5 ⊢
    rw [h.1 84 (by decide), h.1 85 (by decide), h.1 86 (by decide), h.1 87 (by decide)]
    exact b5
  · unfold hx_hp at b7 ⊢
    rw [h.1 108 (by decide), h.1 109 (by decide)]
    exact b7
theorem hm_I_xfr {S S2 : hd_S} {p : hp_P} {n : Nat} {q : Nat → hp_P} {hand : Nat} {cl : Nat → Nat} (hI : hm_I S p n q hand cl) (h : hx_fr S S2) : hm_I S2 p n q hand cl := by
  unfold hm_I hm_P hm_past hm_B at hI ⊢
  rw [h 113 (by decide), h 114 (by decide), h 115 (by decide), h 116 (by decide), h 117 (by decide), h 118 (by decide), h 119 (by decide), h 120 (by decide), h 121 (by decide), h 122 (by decide), h 123 (by decide), h 127 (by decide)]
  exact hI
/-- what holds behind both calls -/
def hd_two (wx wm : hd_M) (as : List hd_V) (S : hd_S) (K : Int32 → Int32 → hd_S → Prop) : Prop :=
  wx (hd_vR 0 :: as) S (fun r S2 => match r with
    | some (.inl x) => wm (hd_vR 113 :: as) S2 (fun r2 S3 => match r2 with
      | some (.inl y) => K x y S3
      | _ => False)
    | _ => False)
def hd_twoJ (wx wm : hd_M) (as : List hd_V) (S : hd_S) (K : Int64 → Int64 → hd_S → Prop) : Prop :=
  wx (hd_vR 0 :: as) S (fun r S2 => match r with
    | some (.inr (.inl x)) => wm (hd_vR 113 :: as) S2 (fun r2 S3 => match r2 with
      | some (.inr (.inl y)) => K x y S3
      | _ => False)
    | _ => False)
theorem hb_inj {a b : Nat} {x : Int32} (e1 : x = nI a) (e2 : x = nI b) (ha : a < 2 ^ 31) (hb : b < 2 ^ 31) : b = a := (nI_eq hb ha).mp (e2.symm.trans e1)
theorem hb_c {t T : Nat} {x : Int32} (e : x = nI t) (h : t < T) (hT : T < 2 ^ 31) : 0 ≤ x ∧ x < nI T := by
  rw [e]
  exact ⟨(hb_le (a := 0) (by decide) (by omega)).mpr (Nat.zero_le _), (nI_ltI (by omega) hT).mpr h⟩
theorem hb_c2 {k a b : Nat} {x : Int32} (e : x = nI k) (h1 : a ≤ k) (h2 : k ≤ b) (hb : b < 2 ^ 31) : nI a ≤ x ∧ x ≤ nI b := by
  rw [e]
  exact ⟨(hb_le (by omega) (by omega)).mpr h1, (hb_le (by omega) hb).mpr h2⟩
theorem hd_J_0 {S : hd_S} {p : hp_P} {n : Nat} {q : Nat → hp_P} {hand : Nat} {cl : Nat → Nat} (hx : hx_I S p n q hand cl) (hm : hm_I S p n q hand cl) : hd_J (hd_wI S 113 0 0) := ⟨p, n, q, hand, cl, hx_I_mfr hx (hm_I_0 hm).2, (hm_I_0 hm).1⟩
theorem hd_J_m {S S2 : hd_S} {p : hp_P} {n : Nat} {q : Nat → hp_P} {hand : Nat} {cl : Nat → Nat} (hx : hx_I S p n q hand cl) (hm : hm_I S2 p n q hand cl) (h : hm_fr S S2) : hd_J S2 := ⟨p, n, q, hand, cl, hx_I_mfr hx h, hm⟩
set_option maxHeartbeats 1000000 in
theorem st_town {S : hd_S} (hJ : hd_J0 S) (K : Int32 → Int32 → hd_S → Prop) (hK : ∀ v S3, hd_J S3 → K v v S3) : hd_two wm_X8_town wm_X9_town [] S K := by
  obtain ⟨p, n, q, hand, cl, ⟨hx, hm⟩, h00⟩ := hJ
  have hT8 : hp_T p ≤ 8 := hx.1.1.1
  have hH7 : hp_H p ≤ 7 := hx.1.1.2.1
  refine sx_town hx _ (fun h1 S2 i2 f2 => ?_) (fun hn => ?_)
  · exact sp_town (hm_I_xfr hm f2) _ (fun _ S3 i3 f3 => hK _ _ (hd_J_m i2 i3 f3)) (fun hn => absurd h1 hn)
  · exact sp_town hm _ (fun h1 => absurd h1 hn) (fun _ => hK _ _ (hd_J_0 hx hm))
set_option maxHeartbeats 1000000 in
theorem st_hall {S : hd_S} (hJ : hd_J0 S) (K : Int32 → Int32 → hd_S → Prop) (hK : ∀ v S3, hd_J S3 → K v v S3) : hd_two wm_X8_hall wm_X9_hall [] S K := by
  obtain ⟨p, n, q, hand, cl, ⟨hx, hm⟩, h00⟩ := hJ
  have hT8 : hp_T p ≤ 8 := hx.1.1.1
  have hH7 : hp_H p ≤ 7 := hx.1.1.2.1
  refine sx_hall hx _ (fun h1 S2 i2 f2 => ?_) (fun hn => ?_)
  · exact sp_hall (hm_I_xfr hm f2) _ (fun _ S3 i3 f3 => hK _ _ (hd_J_m i2 i3 f3)) (fun hn => absurd h1 hn)
  · exact sp_hall hm _ (fun h1 => absurd h1 hn) (fun _ => hK _ _ (hd_J_0 hx hm))
set_option maxHeartbeats 1000000 in
theorem st_people {S : hd_S} (hJ : hd_J0 S) (x v : Int32) (K : Int32 → Int32 → hd_S → Prop) (hK : ∀ v S3, hd_J S3 → K v v S3) : hd_two wm_X8_people wm_X9_people [hd_vI x, hd_vI v] S K := by
  obtain ⟨p, n, q, hand, cl, ⟨hx, hm⟩, h00⟩ := hJ
  have hT8 : hp_T p ≤ 8 := hx.1.1.1
  have hH7 : hp_H p ≤ 7 := hx.1.1.2.1
  refine sx_people hx x v _ (fun t k h1 e1 h2 h3 e2 S2 i2 f2 => ?_) (fun hn => ?_)
  · refine sp_people (hm_I_xfr hm f2) x v _ (fun t2 k2 h1' e1' h2' h3' e2' S3 i3 f3 => ?_) (fun hn => absurd ⟨hb_c e1 h1 (by omega), hb_c2 (a := 1) (b := 20) e2 h2 h3 (by decide)⟩ hn)
    have et : t2 = t := hb_inj e1 e1' (by omega) (by omega)
    have ek : k2 = k := hb_inj e2 e2' (by omega) (by omega)
    subst et
    subst ek
    exact hK _ _ (hd_J_m i2 i3 f3)
  · exact sp_people hm x v _ (fun t2 k2 h1' e1' h2' h3' e2' S3 i3 f3 => absurd ⟨hb_c e1' h1' (by omega), hb_c2 (a := 1) (b := 20) e2' h2' h3' (by decide)⟩ hn) (fun _ => hK _ _ (hd_J_0 hx hm))
set_option maxHeartbeats 1000000 in
theorem st_fine {S : hd_S} (hJ : hd_J0 S) (x v : Int32) (K : Int32 → Int32 → hd_S → Prop) (hK : ∀ v S3, hd_J S3 → K v v S3) : hd_two wm_X8_fine wm_X9_fine [hd_vI x, hd_vI v] S K := by
  obtain ⟨p, n, q, hand, cl, ⟨hx, hm⟩, h00⟩ := hJ
  have hT8 : hp_T p ≤ 8 := hx.1.1.1
  have hH7 : hp_H p ≤ 7 := hx.1.1.2.1
  refine sx_fine hx x v _ (fun t k h1 e1 h2 h3 e2 S2 i2 f2 => ?_) (fun hn => ?_)
  · refine sp_fine (hm_I_xfr hm f2) x v _ (fun t2 k2 h1' e1' h2' h3' e2' S3 i3 f3 => ?_) (fun hn => absurd ⟨hb_c e1 h1 (by omega), hb_c2 (a := 0) (b := 100000) e2 h2 h3 (by decide)⟩ hn)
    have et : t2 = t := hb_inj e1 e1' (by omega) (by omega)
    have ek : k2 = k := hb_inj e2 e2' (by omega) (by omega)
    subst et
    subst ek
    exact hK _ _ (hd_J_m i2 i3 f3)
  · exact sp_fine hm x v _ (fun t2 k2 h1' e1' h2' h3' e2' S3 i3 f3 => absurd ⟨hb_c e1' h1' (by omega), hb_c2 (a := 0) (b := 100000) e2' h2' h3' (by decide)⟩ hn) (fun _ => hK _ _ (hd_J_0 hx hm))
set_option maxHeartbeats 1000000 in
theorem st_price {S : hd_S} (hJ : hd_J0 S) (x v : Int32) (K : Int32 → Int32 → hd_S → Prop) (hK : ∀ v S3, hd_J S3 → K v v S3) : hd_two wm_X8_price wm_X9_price [hd_vI x, hd_vI v] S K := by
  obtain ⟨p, n, q, hand, cl, ⟨hx, hm⟩, h00⟩ := hJ
  have hT8 : hp_T p ≤ 8 := hx.1.1.1
  have hH7 : hp_H p ≤ 7 := hx.1.1.2.1
  refine sx_price hx x v _ (fun t k h1 e1 h2 h3 e2 S2 i2 f2 => ?_) (fun hn => ?_)
  · refine sp_price (hm_I_xfr hm f2) x v _ (fun t2 k2 h1' e1' h2' h3' e2' S3 i3 f3 => ?_) (fun hn => absurd ⟨hb_c e1 h1 (by omega), hb_c2 (a := 0) (b := 100000) e2 h2 h3 (by decide)⟩ hn)
    have et : t2 = t := hb_inj e1 e1' (by omega) (by omega)
    have ek : k2 = k := hb_inj e2 e2' (by omega) (by omega)
    subst et
    subst ek
    exact hK _ _ (hd_J_m i2 i3 f3)
  · exact sp_price hm x v _ (fun t2 k2 h1' e1' h2' h3' e2' S3 i3 f3 => absurd ⟨hb_c e1' h1' (by omega), hb_c2 (a := 0) (b := 100000) e2' h2' h3' (by decide)⟩ hn) (fun _ => hK _ _ (hd_J_0 hx hm))
set_option maxHeartbeats 1000000 in
theorem st_room {S : hd_S} (hJ : hd_J0 S) (x v : Int32) (K : Int32 → Int32 → hd_S → Prop) (hK : ∀ v S3, hd_J S3 → K v v S3) : hd_two wm_X8_room wm_X9_room [hd_vI x, hd_vI v] S K := by
  obtain ⟨p, n, q, hand, cl, ⟨hx, hm⟩, h00⟩ := hJ
  have hT8 : hp_T p ≤ 8 := hx.1.1.1
  have hH7 : hp_H p ≤ 7 := hx.1.1.2.1
  refine sx_room hx x v _ (fun t k h1 e1 h2 h3 e2 S2 i2 f2 => ?_) (fun hn => ?_)
  · refine sp_room (hm_I_xfr hm f2) x v _ (fun t2 k2 h1' e1' h2' h3' e2' S3 i3 f3 => ?_) (fun hn => absurd ⟨hb_c e1 h1 (by omega), hb_c2 (a := 0) (b := 200) e2 h2 h3 (by decide)⟩ hn)
    have et : t2 = t := hb_inj e1 e1' (by omega) (by omega)
    have ek : k2 = k := hb_inj e2 e2' (by omega) (by omega)
    subst et
    subst ek
    exact hK _ _ (hd_J_m i2 i3 f3)
  · exact sp_room hm x v _ (fun t2 k2 h1' e1' h2' h3' e2' S3 i3 f3 => absurd ⟨hb_c e1' h1' (by omega), hb_c2 (a := 0) (b := 200) e2' h2' h3' (by decide)⟩ hn) (fun _ => hK _ _ (hd_J_0 hx hm))
set_option maxHeartbeats 1000000 in
theorem st_place {S : hd_S} (hJ : hd_J0 S) (x v : Int32) (K : Int32 → Int32 → hd_S → Prop) (hK : ∀ v S3, hd_J S3 → K v v S3) : hd_two wm_X8_place wm_X9_place [hd_vI x, hd_vI v] S K := by
  obtain ⟨p, n, q, hand, cl, ⟨hx, hm⟩, h00⟩ := hJ
  have hT8 : hp_T p ≤ 8 := hx.1.1.1
  have hH7 : hp_H p ≤ 7 := hx.1.1.2.1
  refine sx_place hx x v _ (fun t h1 e1 h2 S2 i2 f2 => ?_) (fun hn => ?_)
  · refine sp_place (hm_I_xfr hm f2) x v _ (fun t2 h1' e1' h2' S3 i3 f3 => ?_) (fun hn => absurd ⟨hb_c e1 h1 (by omega), h2⟩ hn)
    have et : t2 = t := hb_inj e1 e1' (by omega) (by omega)
    subst et
    exact hK _ _ (hd_J_m i2 i3 f3)
  · exact sp_place hm x v _ (fun t2 h1' e1' h2' S3 i3 f3 => absurd ⟨hb_c e1' h1' (by omega), h2'⟩ hn) (fun _ => hK _ _ (hd_J_0 hx hm))
set_option maxHeartbeats 1000000 in
theorem st_sheet {S : hd_S} (hJ : hd_J0 S) (x w k : Int32) (K : Int32 → Int32 → hd_S → Prop) (hK : ∀ v S3, hd_J S3 → K v v S3) : hd_two wm_X8_sheet wm_X9_sheet [hd_vI x, hd_vI w, hd_vI k] S K := by
  obtain ⟨p, n, q, hand, cl, ⟨hx, hm⟩, h00⟩ := hJ
  have hT8 : hp_T p ≤ 8 := hx.1.1.1
  have hH7 : hp_H p ≤ 7 := hx.1.1.2.1
  have c1 : ∀ {h w' k' : Nat}, h < hp_H p → x = nI h → w' ≤ 2 → w = nI w' → k' ≤ 8 → k = nI k' → ((0 ≤ x ∧ x < nI (hp_H p)) ∧ ((0 : Int32) ≤ w ∧ w ≤ 2)) ∧ ¬ (8 : Int32) < k ∧ ¬ k < 0 := fun {h w' k'} h1 e1 h2 e2 h3 e3 => by
    refine ⟨⟨hb_c e1 h1 (by omega), hb_c2 (a := 0) (b := 2) e2 (Nat.zero_le _) h2 (by decide)⟩, fun r => ?_, fun r => ?_⟩
    · rw [e3] at r
      have := (nI_ltI (a := 8) (by decide) (by omega)).mp r
      omega
    · rw [e3] at r
      have := (nI_ltI (b := 0) (by omega) (by decide)).mp r
      omega
  refine sx_sheet hx x w k _ (fun h w' k' h1 e1 h2 e2 h3 e3 S2 i2 f2 => ?_) (fun hn => ?_) (fun a1 a2 a3 => ?_)
  · refine sp_sheet (hm_I_xfr hm f2) x w k _ (fun h9 w9 k9 h1' e1' h2' e2' h3' e3' S3 i3 f3 => ?_) (fun hn => absurd ⟨(c1 h1 e1 h2 e2 h3 e3).1, (c1 h1 e1 h2 e2 h3 e3).2.1⟩ hn) (fun _ _ a3 => absurd a3 (c1 h1 e1 h2 e2 h3 e3).2.2)
    have et : h9 = h := hb_inj e1 e1' (by omega) (by omega)
    have ew : w9 = w' := hb_inj e2 e2' (by omega) (by omega)
    have ek : k9 = k' := hb_inj e3 e3' (by omega) (by omega)
    subst et
    subst ew
    subst ek
    exact hK _ _ (hd_J_m i2 i3 f3)
  · exact sp_sheet hm x w k _ (fun h9 w9 k9 h1' e1' h2' e2' h3' e3' S3 i3 f3 => absurd ⟨(c1 h1' e1' h2' e2' h3' e3').1, (c1 h1' e1' h2' e2' h3' e3').2.1⟩ hn) (fun _ => hK _ _ (hd_J_0 hx hm)) (fun a1 a2 _ => absurd ⟨a1, a2⟩ hn)
  · exact sp_sheet hm x w k _ (fun h9 w9 k9 h1' e1' h2' e2' h3' e3' S3 i3 f3 => absurd a3 (c1 h1' e1' h2' e2' h3' e3').2.2) (fun hn => absurd ⟨a1, a2⟩ hn) (fun _ _ _ => hK _ _ (hd_J_0 hx hm))
set_option maxHeartbeats 1000000 in
theorem st_lose {S : hd_S} (hJ : hd_J0 S) (x : Int32) (K : Int32 → Int32 → hd_S → Prop) (hK : ∀ v S3, hd_J S3 → K v v S3) : hd_two wm_X8_lose wm_X9_lose [hd_vI x] S K := by
  obtain ⟨p, n, q, hand, cl, ⟨hx, hm⟩, h00⟩ := hJ
  have hT8 : hp_T p ≤ 8 := hx.1.1.1
  have hH7 : hp_H p ≤ 7 := hx.1.1.2.1
  refine sx_lose hx x _ (fun h h1 e1 w1 S2 i2 f2 => ?_) (fun hn => ?_) (fun h h1 e1 w1 => ?_)
  · refine sp_lose (hm_I_xfr hm f2) x _ (fun h9 h1' e1' w1' S3 i3 f3 => ?_) (fun hn => absurd (hb_c e1 h1 (by omega)) hn) (fun h9 h1' e1' w1' => ?_)
    · have et : h9 = h := hb_inj e1 e1' (by omega) (by omega)
      subst et
      exact hK _ _ (hd_J_m i2 i3 f3)
    · have et : h9 = h := hb_inj e1 e1' (by omega) (by omega)
      subst et
      exact absurd w1' w1
  · exact sp_lose hm x _ (fun h9 h1' e1' w1' S3 i3 f3 => absurd (hb_c e1' h1' (by omega)) hn) (fun _ => hK _ _ (hd_J_0 hx hm)) (fun h9 h1' e1' w1' => absurd (hb_c e1' h1' (by omega)) hn)
  · refine sp_lose hm x _ (fun h9 h1' e1' w1' S3 i3 f3 => ?_) (fun hn => absurd (hb_c e1 h1 (by omega)) hn) (fun _ _ _ _ => hK _ _ (hd_J_0 hx hm))
    have et : h9 = h := hb_inj e1 e1' (by omega) (by omega)
    subst et
    exact absurd w1 w1'
set_option maxHeartbeats 1000000 in
theorem st_way {S : hd_S} (hJ : hd_J0 S) (x pl v : Int32) (K : Int32 → Int32 → hd_S → Prop) (hK : ∀ v S3, hd_J S3 → K v v S3) : hd_two wm_X8_way wm_X9_way [hd_vI x, hd_vI pl, hd_vI v] S K := by
  obtain ⟨p, n, q, hand, cl, ⟨hx, hm⟩, h00⟩ := hJ
  have hT8 : hp_T p ≤ 8 := hx.1.1.1
  have hH7 : hp_H p ≤ 7 := hx.1.1.2.1
  have hln : ∀ h, hp_ln p h ≤ 8 := hx.1.1.2.2.2.2.2.2.2.2.2.1
  have hlim : ∀ h, (if hp_wd p h = 0 then 127 else 1000) ≤ 1000 := fun h => by split <;> decide
  refine sx_wayCall hx x pl v _ (fun h t k h1 e1 w1 t1 e2 k1 e3 S2 i2 f2 => ?_) (fun hn => ?_) (fun h h1 e1 w1 => ?_) (fun h h1 e1 w1 hn => ?_) (fun h h1 e1 w1 t1 hn => ?_)
  · refine sp_wayCall (hm_I_xfr hm f2) x pl v _ (fun h9 t9 k9 h1' e1' w1' t1' e2' k1' e3' S3 i3 f3 => ?_) (fun hn => absurd (hb_c e1 h1 (by omega)) hn) (fun h9 h1' e1' w1' => ?_) (fun h9 h1' e1' w1' hn => ?_) (fun h9 h1' e1' w1' t1' hn => ?_)
    all_goals
      have et : h9 = h := hb_inj e1 e1' (by omega) (by omega)
      subst et
      have b1 := hln h9
      have b2 := hlim h9
    · have e9 : t9 = t := hb_inj e2 e2' (by omega) (by omega)
      have ek : k9 = k := hb_inj e3 e3' (by omega) (by omega)
      subst e9
      subst ek
      exact hK _ _ (hd_J_m i2 i3 f3)
    · exact absurd w1' w1
    · exact absurd (hb_c e2 t1 (by omega)) hn
    · exact absurd (hb_c2 (a := 0) e3 (Nat.zero_le _) k1 (by omega)) hn
  · exact sp_wayCall hm x pl v _ (fun h9 t9 k9 h1' e1' w1' t1' e2' k1' e3' S3 i3 f3 => absurd (hb_c e1' h1' (by omega)) hn) (fun _ => hK _ _ (hd_J_0 hx hm)) (fun h9 h1' e1' w1' => absurd (hb_c e1' h1' (by omega)) hn) (fun h9 h1' e1' w1' _ => absurd (hb_c e1' h1' (by omega)) hn) (fun h9 h1' e1' w1' _ _ => absurd (hb_c e1' h1' (by omega)) hn)
  · refine sp_wayCall hm x pl v _ (fun h9 t9 k9 h1' e1' w1' t1' e2' k1' e3' S3 i3 f3 => ?_) (fun hn => absurd (hb_c e1 h1 (by omega)) hn) (fun _ _ _ _ => hK _ _ (hd_J_0 hx hm)) (fun h9 h1' e1' w1' hn => ?_) (fun h9 h1' e1' w1' t1' hn => ?_)
    all_goals
      have et : h9 = h := hb_inj e1 e1' (by omega) (by omega)
      subst et
      exact absurd w1 w1'
  · refine sp_wayCall hm x pl v _ (fun h9 t9 k9 h1' e1' w1' t1' e2' k1' e3' S3 i3 f3 => ?_) (fun hn => absurd (hb_c e1 h1 (by omega)) hn) (fun h9 h1' e1' w1' => ?_) (fun _ _ _ _ _ => hK _ _ (hd_J_0 hx hm)) (fun h9 h1' e1' w1' t1' hn2 => ?_)
    all_goals
      have et : h9 = h := hb_inj e1 e1' (by omega) (by omega)
      subst et
      have b1 := hln h9
    · exact absurd (hb_c e2' t1' (by omega)) hn
    · exact absurd w1' w1
    · exact absurd t1' hn
  · refine sp_wayCall hm x pl v _ (fun h9 t9 k9 h1' e1' w1' t1' e2' k1' e3' S3 i3 f3 => ?_) (fun hn => absurd (hb_c e1 h1 (by omega)) hn) (fun h9 h1' e1' w1' => ?_) (fun h9 h1' e1' w1' hn2 => ?_) (fun _ _ _ _ _ _ => hK _ _ (hd_J_0 hx hm))
    all_goals
      have et : h9 = h := hb_inj e1 e1' (by omega) (by omega)
      subst et
      have b2 := hlim h9
    · exact absurd (hb_c2 (a := 0) e3' (Nat.zero_le _) k1' (by omega)) hn
    · exact absurd w1' w1
    · exact absurd t1 hn2
theorem hp_in_of {la lb a b m : Nat} {x y k : Int32} (e3 : x = nI a) (e4 : y = nI b) (e5 : k = nI m) (l1 : a + m ≤ la) (l2 : b + m ≤ lb) (_ : la ≤ 8) (_ : lb ≤ 8) : hp_in la x k ∧ hp_in lb y k := ⟨⟨a, m, e3, e5, l1⟩, ⟨b, m, e4, e5, l2⟩⟩
set_option maxHeartbeats 1000000 in
theorem st_copy {S : hd_S} (hJ : hd_J0 S) (x f to b k : Int32) (K : Int32 → Int32 → hd_S → Prop) (hK : ∀ v S3, hd_J S3 → K v v S3) : hd_two wm_X8_copy wm_X9_copy [hd_vI x, hd_vI f, hd_vI to, hd_vI b, hd_vI k] S K := by
  obtain ⟨p, n, q, hand, cl, ⟨hx, hm⟩, h00⟩ := hJ
  have hT8 : hp_T p ≤ 8 := hx.1.1.1
  have hH7 : hp_H p ≤ 7 := hx.1.1.2.1
  have hln : ∀ h, hp_ln p h ≤ 8 := hx.1.1.2.2.2.2.2.2.2.2.2.1
  refine sx_copy hx x f to b k _ (fun h a t c m h1 e1 t1 e2 w1 w2 w3 e3 e4 e5 l1 l2 S2 i2 f2 => ?_) (fun hn => ?_) (fun h t h1 e1 t1 e2 w => ?_) (fun h t h1 e1 t1 e2 w1 w2 w3 => ?_) (fun h t h1 e1 t1 e2 w1 w2 w3 hn => ?_)
  · have b1 := hln h
    have b2 := hln t
    refine sp_copy (hm_I_xfr hm f2) x f to b k _ (fun h9 a9 t9 c9 m9 h1' e1' t1' e2' w1' w2' w3' e3' e4' e5' l1' l2' S3 i3 f3 => ?_) (fun hn => absurd ⟨hb_c e1 h1 (by omega), hb_c e2 t1 (by omega)⟩ hn) (fun h9 t9 h1' e1' t1' e2' w => ?_) (fun h9 t9 h1' e1' t1' e2' w1' w2' w3' => ?_) (fun h9 t9 h1' e1' t1' e2' w1' w2' w3' hn => ?_)
    all_goals
      have et : h9 = h := hb_inj e1 e1' (by omega) (by omega)
      have et2 : t9 = t := hb_inj e2 e2' (by omega) (by omega)
      subst et
      subst et2
    · have ea : a9 = a := hb_inj e3 e3' (by omega) (by omega)
      have ec : c9 = c := hb_inj e4 e4' (by omega) (by omega)
      have em : m9 = m := hb_inj e5 e5' (by omega) (by omega)
      subst ea
      subst ec
      subst em
      exact hK _ _ (hd_J_m i2 i3 f3)
    · exact absurd w (fun r => r.elim w1 w2)
    · exact absurd w3 w3'
    · exact absurd (hp_in_of e3 e4 e5 l1 l2 b1 b2) hn
  · exact sp_copy hm x f to b k _ (fun h9 a9 t9 c9 m9 h1' e1' t1' e2' w1' w2' w3' e3' e4' e5' l1' l2' S3 i3 f3 => absurd ⟨hb_c e1' h1' (by omega), hb_c e2' t1' (by omega)⟩ hn) (fun _ => hK _ _ (hd_J_0 hx hm)) (fun h9 t9 h1' e1' t1' e2' w => absurd ⟨hb_c e1' h1' (by omega), hb_c e2' t1' (by omega)⟩ hn) (fun h9 t9 h1' e1' t1' e2' w1' w2' w3' => absurd ⟨hb_c e1' h1' (by omega), hb_c e2' t1' (by omega)⟩ hn) (fun h9 t9 h1' e1' t1' e2' w1' w2' w3' _ => absurd ⟨hb_c e1' h1' (by omega), hb_c e2' t1' (by omega)⟩ hn)
  · refine sp_copy hm x f to b k _ (fun h9 a9 t9 c9 m9 h1' e1' t1' e2' w1' w2' w3' e3' e4' e5' l1' l2' S3 i3 f3 => ?_) (fun hn => absurd ⟨hb_c e1 h1 (by omega), hb_c e2 t1 (by omega)⟩ hn) (fun _ _ _ _ _ _ _ => hK _ _ (hd_J_0 hx hm)) (fun h9 t9 h1' e1' t1' e2' w1' w2' w3' => ?_) (fun h9 t9 h1' e1' t1' e2' w1' w2' w3' hn => ?_)
    all_goals
      have et : h9 = h := hb_inj e1 e1' (by omega) (by omega)
      have et2 : t9 = t := hb_inj e2 e2' (by omega) (by omega)
      subst et
      subst et2
      exact absurd w (fun r => r.elim w1' w2')
  · refine sp_copy hm x f to b k _ (fun h9 a9 t9 c9 m9 h1' e1' t1' e2' w1' w2' w3' e3' e4' e5' l1' l2' S3 i3 f3 => ?_) (fun hn => absurd ⟨hb_c e1 h1 (by omega), hb_c e2 t1 (by omega)⟩ hn) (fun h9 t9 h1' e1' t1' e2' w => ?_) (fun _ _ _ _ _ _ _ _ _ => hK _ _ (hd_J_0 hx hm)) (fun h9 t9 h1' e1' t1' e2' w1' w2' w3' hn => ?_)
    all_goals
      have et : h9 = h := hb_inj e1 e1' (by omega) (by omega)
      have et2 : t9 = t := hb_inj e2 e2' (by omega) (by omega)
      subst et
      subst et2
    · exact absurd w3' w3
    · exact absurd w (fun r => r.elim w1 w2)
    · exact absurd w3' w3
  · refine sp_copy hm x f to b k _ (fun h9 a9 t9 c9 m9 h1' e1' t1' e2' w1' w2' w3' e3' e4' e5' l1' l2' S3 i3 f3 => ?_) (fun hn => absurd ⟨hb_c e1 h1 (by omega), hb_c e2 t1 (by omega)⟩ hn) (fun h9 t9 h1' e1' t1' e2' w => ?_) (fun h9 t9 h1' e1' t1' e2' w1' w2' w3' => ?_) (fun _ _ _ _ _ _ _ _ _ _ => hK _ _ (hd_J_0 hx hm))
    all_goals
      have et : h9 = h := hb_inj e1 e1' (by omega) (by omega)
      have et2 : t9 = t := hb_inj e2 e2' (by omega) (by omega)
      subst et
      subst et2
    · exact absurd (hp_in_of e3' e4' e5' l1' l2' (hln _) (hln _)) hn
    · exact absurd w (fun r => r.elim w1 w2)
    · exact absurd w3 w3'
set_option maxHeartbeats 1000000 in
theorem st_far {S : hd_S} (hJ : hd_J0 S) (x t : Int32) (K : Int32 → Int32 → hd_S → Prop) (hK : ∀ v S3, hd_J S3 → K v v S3) : hd_two wm_X8_far wm_X9_far [hd_vI x, hd_vI t] S K := by
  obtain ⟨p, n, q, hand, cl, ⟨hx, hm⟩, h00⟩ := hJ
  have hT8 : hp_T p ≤ 8 := hx.1.1.1
  have hH7 : hp_H p ≤ 7 := hx.1.1.2.1
  refine sx_far hx x t _ (fun h s h1 e1 h2 e2 => ?_) (fun hn => ?_)
  · refine sp_far hm x t _ (fun h9 s9 h1' e1' h2' e2' => ?_) (fun hn => absurd ⟨hb_c e1 h1 (by omega), hb_c e2 h2 (by omega)⟩ hn)
    have et : h9 = h := hb_inj e1 e1' (by omega) (by omega)
    have es : s9 = s := hb_inj e2 e2' (by omega) (by omega)
    subst et
    subst es
    exact hK _ _ (hd_J_0 hx hm)
  · exact sp_far hm x t _ (fun h9 s9 h1' e1' h2' e2' => absurd ⟨hb_c e1' h1' (by omega), hb_c e2' h2' (by omega)⟩ hn) (fun _ => hK _ _ (hd_J_0 hx hm))
set_option maxHeartbeats 1000000 in
theorem st_about {S : hd_S} (hJ : hd_J0 S) (of_ num what : Int32) (K : Int32 → Int32 → hd_S → Prop) (hK : ∀ v S3, hd_J S3 → K v v S3) : hd_two wm_X8_about wm_X9_about [hd_vI of_, hd_vI num, hd_vI what] S K := by
  obtain ⟨p, n, q, hand, cl, ⟨hx, hm⟩, h00⟩ := hJ
  have hT8 : hp_T p ≤ 8 := hx.1.1.1
  have hH7 : hp_H p ≤ 7 := hx.1.1.2.1
  refine sx_about hx of_ num what _ (fun t o1 h1 e1 => ?_) (fun t o1 h1 e1 => ?_) (fun n1 n2 => ?_)
  · refine sp_about hm of_ num what _ (fun t9 o1' h1' e1' => ?_) (fun t9 o1' h1' e1' => absurd (o1.symm.trans o1') (by decide)) (fun n1 n2 => absurd ⟨o1, hb_c e1 h1 (by omega)⟩ n1)
    have et : t9 = t := hb_inj e1 e1' (by omega) (by omega)
    subst et
    exact hK _ _ (hd_J_0 hx hm)
  · refine sp_about hm of_ num what _ (fun t9 o1' h1' e1' => absurd (o1.symm.trans o1') (by decide)) (fun t9 o1' h1' e1' => ?_) (fun n1 n2 => absurd ⟨o1, hb_c e1 h1 (by omega)⟩ n2)
    have et : t9 = t := hb_inj e1 e1' (by omega) (by omega)
    subst et
    exact hK _ _ (hd_J_0 hx hm)
  · exact sp_about hm of_ num what _ (fun t9 o1' h1' e1' => absurd ⟨o1', hb_c e1' h1' (by omega)⟩ n1) (fun t9 o1' h1' e1' => absurd ⟨o1', hb_c e1' h1' (by omega)⟩ n2) (fun _ _ => hK _ _ (hd_J_0 hx hm))
set_option maxHeartbeats 1000000 in
theorem st_undo {S : hd_S} (hJ : hd_J0 S) (K : Int32 → Int32 → hd_S → Prop) (hK : ∀ v S3, hd_J S3 → K v v S3) : hd_two wm_X8_undo wm_X9_undo [] S K := by
  obtain ⟨p, n, q, hand, cl, ⟨hx, hm⟩, h00⟩ := hJ
  have hT8 : hp_T p ≤ 8 := hx.1.1.1
  have hH7 : hp_H p ≤ 7 := hx.1.1.2.1
  refine sx_undo hx _ (fun m e S2 i2 f2 => ?_) (fun e => ?_)
  · refine sp_undo (hm_I_xfr hm f2) _ (fun m9 e9 S3 i3 f3 => ?_) (fun e9 => absurd (e.symm.trans e9) (by omega))
    have em : m9 = m := by omega
    subst em
    exact hK _ _ (hd_J_m i2 i3 f3)
  · exact sp_undo hm _ (fun m9 e9 S3 i3 f3 => absurd (e.symm.trans e9) (by omega)) (fun _ => hK _ _ (hd_J_0 hx hm))
set_option maxHeartbeats 1000000 in
theorem st_open {S : hd_S} (hJ : hd_J0 S) (x : Int32) (K : Int32 → Int32 → hd_S → Prop) (hK : ∀ v S3, hd_J S3 → K v v S3) : hd_two wm_X8_open wm_X9_open [hd_vI x] S K := by
  obtain ⟨p, n, q, hand, cl, ⟨hx, hm⟩, h00⟩ := hJ
  have hT8 : hp_T p ≤ 8 := hx.1.1.1
  have hH7 : hp_H p ≤ 7 := hx.1.1.2.1
  have h128 : 2 ^ hp_H p ≤ 128 := Nat.pow_le_pow_right (n := 2) (by decide) hH7
  have hpos : 0 < 2 ^ hp_H p := Nat.two_pow_pos _
  refine sx_open hx x _ (fun s h1 e1 S2 i2 f2 => ?_) (fun hn => ?_)
  · refine sp_open (hm_I_xfr hm f2) x _ (fun s9 h1' e1' S3 i3 f3 => ?_) (fun hn => absurd (hb_c2 (a := 0) e1 (Nat.zero_le _) (show s ≤ 2 ^ hp_H p - 1 by omega) (by omega)) hn)
    have et : s9 = s := hb_inj e1 e1' (by omega) (by omega)
    subst et
    exact hK _ _ (hd_J_m i2 i3 f3)
  · exact sp_open hm x _ (fun s9 h1' e1' S3 i3 f3 => absurd (hb_c2 (a := 0) e1' (Nat.zero_le _) (show s9 ≤ 2 ^ hp_H p - 1 by omega) (by omega)) hn) (fun _ => hK _ _ (hd_J_0 hx hm))
set_option maxHeartbeats 1000000 in
theorem st_opened {S : hd_S} (hJ : hd_J0 S) (K : Int32 → Int32 → hd_S → Prop) (hK : ∀ v S3, hd_J S3 → K v v S3) : hd_two wm_X8_opened wm_X9_opened [] S K := by
  obtain ⟨p, n, q, hand, cl, ⟨hx, hm⟩, h00⟩ := hJ
  have hT8 : hp_T p ≤ 8 := hx.1.1.1
  have hH7 : hp_H p ≤ 7 := hx.1.1.2.1
  exact (sx_opened hx _).mpr ((sp_opened hm _).mpr (hK _ _ (hd_J_0 hx hm)))
set_option maxHeartbeats 1000000 in
theorem st_cost {S : hd_S} (hJ : hd_J0 S) (x : Int32) (K : Int32 → Int32 → hd_S → Prop) (hK : ∀ v S3, hd_J S3 → K v v S3) : hd_two wm_X8_cost wm_X9_cost [hd_vI x] S K := by
  obtain ⟨p, n, q, hand, cl, ⟨hx, hm⟩, h00⟩ := hJ
  have hT8 : hp_T p ≤ 8 := hx.1.1.1
  have hH7 : hp_H p ≤ 7 := hx.1.1.2.1
  refine sx_cost hx.1.1 hx.2.1 hx.2.2.2.2.2.1 hx.2.2.2.2.2.2.1 (sx_fillingOf hx.1.1 h00) (hx_rm_QS hx.1.1) hx.1.2.2.1 hx.2.2.2.1 x _ (fun k h1 e1 S2 he hr hq => ?_) (fun hn => ?_)
  · obtain ⟨i2, f2⟩ := (hx_I_cs hx (hd_eqv_sub he (by decide)) hr hq hx.1.2.2.1 (by rw [he.1 0 (by decide)]; exact hx.2.2.2.1))
    have hm2 := hm_I_xfr hm f2
    refine sp_cost hm2.1.1 hm2.2.1 (sp_roomedOf hm2.1.1) hm2.1.2.2.1 hm2.2.2.2.1 x _ (fun k9 h1' e1' S3 hk9 hs9 => ?_) (fun hn => absurd (hb_c2 (a := 0) (b := 6) e1 (Nat.zero_le _) (by omega) (by decide)) hn)
    have et : k9 = k := hb_inj e1 e1' (by omega) (by omega)
    subst et
    obtain ⟨i3, f3⟩ := (hm_I_N hm2 (hm_N_K hk9) hm2.1.2.2.1 hs9)
    exact hK _ _ (hd_J_m i2 i3 f3)
  · exact sp_cost hm.1.1 hm.2.1 (sp_roomedOf hm.1.1) hm.1.2.2.1 hm.2.2.2.1 x _ (fun k9 h1' e1' S3 hk9 hs9 => absurd (hb_c2 (a := 0) (b := 6) e1' (Nat.zero_le _) (by omega) (by decide)) hn) (fun _ => hK _ _ (hd_J_0 hx hm))
set_option maxHeartbeats 1000000 in
theorem st_goes {S : hd_S} (hJ : hd_J0 S) (x t : Int32) (K : Int32 → Int32 → hd_S → Prop) (hK : ∀ v S3, hd_J S3 → K v v S3) : hd_two wm_X8_goes wm_X9_goes [hd_vI x, hd_vI t] S K := by
  obtain ⟨p, n, q, hand, cl, ⟨hx, hm⟩, h00⟩ := hJ
  have hT8 : hp_T p ≤ 8 := hx.1.1.1
  have hH7 : hp_H p ≤ 7 := hx.1.1.2.1
  refine sx_goes h00 hx.1.1 hx.2.1 hx.2.2.2.2.2.1 hx.2.2.2.2.2.2.1 hx.1.2.2.1 hx.2.2.2.1 x t _ (fun k s h1 e1 h2 e2 S2 he hr hq => ?_) (fun hn => ?_)
  · obtain ⟨i2, f2⟩ := (hx_I_cs hx (hd_eqv_sub he (by decide)) hr hq hx.1.2.2.1 (by rw [he.1 0 (by decide)]; exact hx.2.2.2.1))
    have hm2 := hm_I_xfr hm f2
    refine sp_goes hm2.1.1 hm2.2.1 hm2.1.2.2.1 hm2.2.2.2.1 hm2.2.2.2.2.2 x t _ (fun k9 s9 h1' e1' h2' e2' S3 hk9 hs9 => ?_) (fun hn => absurd ⟨hb_c2 (a := 0) (b := 4) e1 (Nat.zero_le _) (by omega) (by decide), hb_c e2 h2 (by omega)⟩ hn)
    have et : k9 = k := hb_inj e1 e1' (by omega) (by omega)
    have es : s9 = s := hb_inj e2 e2' (by omega) (by omega)
    subst et
    subst es
    obtain ⟨i3, f3⟩ := hm_I_N hm2 hk9 hm2.1.2.2.1 hs9
    exact hK _ _ (hd_J_m i2 i3 f3)
  · exact sp_goes hm.1.1 hm.2.1 hm.1.2.2.1 hm.2.2.2.1 hm.2.2.2.2.2 x t _ (fun k9 s9 h1' e1' h2' e2' S3 hk9 hs9 => absurd ⟨hb_c2 (a := 0) (b := 4) e1' (Nat.zero_le _) (by omega) (by decide), hb_c e2' h2' (by omega)⟩ hn) (fun _ => hK _ _ (hd_J_0 hx hm))
set_option maxHeartbeats 1000000 in
theorem st_worst {S : hd_S} (hJ : hd_J0 S) (x : Int32) (K : Int32 → Int32 → hd_S → Prop) (hK : ∀ v S3, hd_J S3 → K v v S3) : hd_two wm_X8_worst wm_X9_worst [hd_vI x] S K := by
  obtain ⟨p, n, q, hand, cl, ⟨hx, hm⟩, h00⟩ := hJ
  have hT8 : hp_T p ≤ 8 := hx.1.1.1
  have hH7 : hp_H p ≤ 7 := hx.1.1.2.1
  refine sx_worst hx.1.1 hx.2.1 hx.2.2.2.2.2.1 hx.1.2.2.1 hx.2.2.2.1 x _ (fun k h1 e1 S2 he hr => ?_) (fun hn => ?_)
  · have hq := hx_QS_1 (hx_rm_QS hx.1.1) he hx.2.2.2.2.2.2.1
    have he := hd_eqv_x he
    obtain ⟨i2, f2⟩ := (hx_I_cs hx (hd_eqv_sub he (by decide)) hr hq hx.1.2.2.1 (by rw [he.1 0 (by decide)]; exact hx.2.2.2.1))
    have hm2 := hm_I_xfr hm f2
    refine sp_worst hm2.1.1 hm2.2.1 (sp_roomedOf hm2.1.1) hm2.1.2.2.1 hm2.2.2.2.1 x _ (fun k9 h1' e1' S3 hk9 hs9 => ?_) (fun hn => absurd (h1.elim (fun r => Or.inl (by rw [e1, r]; rfl)) (fun r => Or.inr (by rw [e1, r]; rfl))) hn)
    have et : k9 = k := hb_inj e1 e1' (by omega) (by omega)
    subst et
    obtain ⟨i3, f3⟩ := (hm_I_N hm2 (hm_N_K hk9) hm2.1.2.2.1 hs9)
    exact hK _ _ (hd_J_m i2 i3 f3)
  · exact sp_worst hm.1.1 hm.2.1 (sp_roomedOf hm.1.1) hm.1.2.2.1 hm.2.2.2.1 x _ (fun k9 h1' e1' S3 hk9 hs9 => absurd (h1'.elim (fun r => Or.inl (by rw [e1', r]; rfl)) (fun r => Or.inr (by rw [e1', r]; rfl))) hn) (fun _ => hK _ _ (hd_J_0 hx hm))
set_option maxHeartbeats 1000000 in
theorem st_least {S : hd_S} (hJ : hd_J0 S) (x k0 : Int32) (K : Int32 → Int32 → hd_S → Prop) (hK : ∀ v S3, hd_J S3 → K v v S3) : hd_two wm_X8_least wm_X9_least [hd_vI x, hd_vI k0] S K := by
  obtain ⟨p, n, q, hand, cl, ⟨hx, hm⟩, h00⟩ := hJ
  have hT8 : hp_T p ≤ 8 := hx.1.1.1
  have hH7 : hp_H p ≤ 7 := hx.1.1.2.1
  refine sx_least hx.1.1 hx.2.1 hx.2.2.2.2.2.1 hx.2.2.2.2.2.2.1 (sx_fillingOf hx.1.1 h00) (hx_rm_QS hx.1.1) x k0 _ (fun k h1 e1 h2 S2 he hr hq => ?_) (fun hn => ?_)
  · obtain ⟨i2, f2⟩ := (hx_I_cs hx (hd_eqv_sub he (by decide)) hr hq hx.1.2.2.1 (by rw [he.1 0 (by decide)]; exact hx.2.2.2.1))
    have hm2 := hm_I_xfr hm f2
    refine sp_least hm2.1.1 hm2.2.1 (sp_roomedOf hm2.1.1) hm2.2.2.2.1 x k0 _ (fun k9 h1' e1' h2' S3 hk9 hs9 => ?_) (fun hn => absurd ⟨hb_c2 (a := 0) (b := 6) e1 (Nat.zero_le _) (by omega) (by decide), h2⟩ hn)
    have et : k9 = k := hb_inj e1 e1' (by omega) (by omega)
    subst et
    obtain ⟨i3, f3⟩ := (hm_I_N hm2 (hm_N_K hk9) hm2.1.2.2.1 hs9)
    exact hK _ _ (hd_J_m i2 i3 f3)
  · exact sp_least hm.1.1 hm.2.1 (sp_roomedOf hm.1.1) hm.2.2.2.1 x k0 _ (fun k9 h1' e1' h2' S3 hk9 hs9 => absurd ⟨hb_c2 (a := 0) (b := 6) e1' (Nat.zero_le _) (by omega) (by decide), h2'⟩ hn) (fun _ => hK _ _ (hd_J_0 hx hm))
set_option maxHeartbeats 1000000 in
theorem st_many {S : hd_S} (hJ : hd_J0 S) (x k0 : Int32) (K : Int32 → Int32 → hd_S → Prop) (hK : ∀ v S3, hd_J S3 → K v v S3) : hd_two wm_X8_many wm_X9_many [hd_vI x, hd_vI k0] S K := by
  obtain ⟨p, n, q, hand, cl, ⟨hx, hm⟩, h00⟩ := hJ
  have hT8 : hp_T p ≤ 8 := hx.1.1.1
  have hH7 : hp_H p ≤ 7 := hx.1.1.2.1
  refine sx_many hx.1.1 hx.2.1 hx.2.2.2.2.2.1 hx.2.2.2.2.2.2.1 (sx_fillingOf hx.1.1 h00) (hx_rm_QS hx.1.1) x k0 _ (fun k h1 e1 h2 S2 he hr hq => ?_) (fun hn => ?_)
  · obtain ⟨i2, f2⟩ := (hx_I_cs hx (hd_eqv_sub he (by decide)) hr hq hx.1.2.2.1 (by rw [he.1 0 (by decide)]; exact hx.2.2.2.1))
    have hm2 := hm_I_xfr hm f2
    refine sp_many hm2.1.1 hm2.2.1 (sp_roomedOf hm2.1.1) hm2.2.2.2.1 x k0 _ (fun k9 h1' e1' h2' S3 hk9 hs9 => ?_) (fun hn => absurd ⟨hb_c2 (a := 0) (b := 6) e1 (Nat.zero_le _) (by omega) (by decide), h2⟩ hn)
    have et : k9 = k := hb_inj e1 e1' (by omega) (by omega)
    subst et
    obtain ⟨i3, f3⟩ := (hm_I_N hm2 (hm_N_K hk9) hm2.1.2.2.1 hs9)
    exact hK _ _ (hd_J_m i2 i3 f3)
  · exact sp_many hm.1.1 hm.2.1 (sp_roomedOf hm.1.1) hm.2.2.2.1 x k0 _ (fun k9 h1' e1' h2' S3 hk9 hs9 => absurd ⟨hb_c2 (a := 0) (b := 6) e1' (Nat.zero_le _) (by omega) (by decide), h2'⟩ hn) (fun _ => hK _ _ (hd_J_0 hx hm))
set_option maxHeartbeats 1000000 in
theorem st_number {S : hd_S} (hJ : hd_J0 S) (x k0 : Int32) (K : Int32 → Int32 → hd_S → Prop) (hK : ∀ v S3, hd_J S3 → K v v S3) : hd_two wm_X8_number wm_X9_number [hd_vI x, hd_vI k0] S K := by
  obtain ⟨p, n, q, hand, cl, ⟨hx, hm⟩, h00⟩ := hJ
  have hT8 : hp_T p ≤ 8 := hx.1.1.1
  have hH7 : hp_H p ≤ 7 := hx.1.1.2.1
  refine sx_number hx.1.1 hx.2.1 hx.2.2.2.2.2.1 hx.2.2.2.2.2.2.1 (sx_fillingOf hx.1.1 h00) (hx_rm_QS hx.1.1) hx.1.2.2.1 hx.2.2.2.1 x k0 _ (fun k h1 e1 h2 S2 he hr hq => ?_) (fun hn => ?_)
  · obtain ⟨i2, f2⟩ := (hx_I_cs hx (hd_eqv_sub he (by decide)) hr hq hx.1.2.2.1 (by rw [he.1 0 (by decide)]; exact hx.2.2.2.1))
    have hm2 := hm_I_xfr hm f2
    refine sp_number hm2.1.1 hm2.2.1 (sp_roomedOf hm2.1.1) hm2.1.2.2.1 hm2.2.2.2.1 x k0 _ (fun k9 h1' e1' h2' S3 hk9 hs9 => ?_) (fun hn => absurd ⟨hb_c2 (a := 0) (b := 6) e1 (Nat.zero_le _) (by omega) (by decide), h2⟩ hn)
    have et : k9 = k := hb_inj e1 e1' (by omega) (by omega)
    subst et
    obtain ⟨i3, f3⟩ := (hm_I_N hm2 (hm_N_K hk9) hm2.1.2.2.1 hs9)
    exact hK _ _ (hd_J_m i2 i3 f3)
  · exact sp_number hm.1.1 hm.2.1 (sp_roomedOf hm.1.1) hm.1.2.2.1 hm.2.2.2.1 x k0 _ (fun k9 h1' e1' h2' S3 hk9 hs9 => absurd ⟨hb_c2 (a := 0) (b := 6) e1' (Nat.zero_le _) (by omega) (by decide), h2'⟩ hn) (fun _ => hK _ _ (hd_J_0 hx hm))
set_option maxHeartbeats 1000000 in
theorem st_best {S : hd_S} (hJ : hd_J0 S) (x k0 i0 : Int32) (K : Int32 → Int32 → hd_S → Prop) (hK : ∀ v S3, hd_J S3 → K v v S3) : hd_two wm_X8_best wm_X9_best [hd_vI x, hd_vI k0, hd_vI i0] S K := by
  obtain ⟨p, n, q, hand, cl, ⟨hx, hm⟩, h00⟩ := hJ
  have hT8 : hp_T p ≤ 8 := hx.1.1.1
  have hH7 : hp_H p ≤ 7 := hx.1.1.2.1
  refine sx_best hx.1.1 hx.2.1 hx.2.2.2.2.2.1 hx.2.2.2.2.2.2.1 (sx_fillingOf hx.1.1 h00) (hx_rm_QS hx.1.1) x k0 i0 _ (fun k h1 e1 h2 h3 S2 he hr hq ho => ?_) (fun k h1 e1 h2 h3 S2 he hr hq s ho => ?_) (fun hn => ?_)
  · obtain ⟨i2, f2⟩ := (hx_I_cs hx (hd_eqv_sub he (by decide)) hr hq hx.1.2.2.1 (by rw [he.1 0 (by decide)]; exact hx.2.2.2.1))
    have hm2 := hm_I_xfr hm f2
    refine sp_best hm2.1.1 hm2.2.1 (sp_roomedOf hm2.1.1) hm2.2.2.2.1 x k0 i0 _ (fun k9 h1' e1' h2' h3' S3 hk9 hs9 ho9 => ?_) (fun k9 h1' e1' h2' h3' S3 hk9 s9 ho9 hs9 => ?_) (fun hn => absurd ⟨⟨hb_c2 (a := 0) (b := 6) e1 (Nat.zero_le _) (by omega) (by decide), h2⟩, h3⟩ hn)
    · obtain ⟨i3, f3⟩ := (hm_I_N hm2 (hm_N_K hk9) hm2.1.2.2.1 hs9)
      exact hK _ _ (hd_J_m i2 i3 f3)
    · have et : k9 = k := hb_inj e1 e1' (by omega) (by omega)
      subst et
      rw [ho] at ho9
      cases ho9
  · have hsl := hp_at_lt ho
    obtain ⟨i2, f2⟩ := hx_I_cs (S2 := hd_wI S2 0 8 (nI s)) (hand2 := s) hx (hd_eqv_w (hd_eqv_sub he (by decide)) (by decide)) (hx_rs_eqv (cs := [0]) (hd_eqv_w (hd_eqv_rf _ _) (by decide)) (by decide) (by decide) (by decide) (by decide) hr) (hx_rm_eqv (cs := [0]) (hd_eqv_w (hd_eqv_rf _ _) (by decide)) (by decide) hx.1.1.2.1 hq) hsl (by rw [hd_wI1, if_pos ⟨rfl, rfl⟩])
    have hm2 := hm_I_xfr hm f2
    refine sp_best hm2.1.1 hm2.2.1 (sp_roomedOf hm2.1.1) hm2.2.2.2.1 x k0 i0 _ (fun k9 h1' e1' h2' h3' S3 hk9 hs9 ho9 => ?_) (fun k9 h1' e1' h2' h3' S3 hk9 s9 ho9 hs9 => ?_) (fun hn => absurd ⟨⟨hb_c2 (a := 0) (b := 6) e1 (Nat.zero_le _) (by omega) (by decide), h2⟩, h3⟩ hn)
    · have et : k9 = k := hb_inj e1 e1' (by omega) (by omega)
      subst et
      rw [ho] at ho9
      cases ho9
    · have et : k9 = k := hb_inj e1 e1' (by omega) (by omega)
      subst et
      rw [ho] at ho9
      cases ho9
      obtain ⟨i3, f3⟩ := hm_I_N hm2 (hm_N_K hk9) hsl hs9
      exact hK _ _ (hd_J_m i2 i3 f3)
  · exact sp_best hm.1.1 hm.2.1 (sp_roomedOf hm.1.1) hm.2.2.2.1 x k0 i0 _ (fun k9 h1' e1' h2' h3' S3 hk9 hs9 ho9 => absurd ⟨⟨hb_c2 (a := 0) (b := 6) e1' (Nat.zero_le _) (by omega) (by decide), h2'⟩, h3'⟩ hn) (fun k9 h1' e1' h2' h3' S3 hk9 s9 ho9 hs9 => absurd ⟨⟨hb_c2 (a := 0) (b := 6) e1' (Nat.zero_le _) (by omega) (by decide), h2'⟩, h3'⟩ hn) (fun _ => hK _ _ (hd_J_0 hx hm))
set_option maxHeartbeats 1000000 in
theorem st_better {S : hd_S} (hJ : hd_J0 S) (x m : Int32) (K : Int32 → Int32 → hd_S → Prop) (hK : ∀ v S3, hd_J S3 → K v v S3) : hd_two wm_X8_better wm_X9_better [hd_vI x, hd_vI m] S K := by
  obtain ⟨p, n, q, hand, cl, ⟨hx, hm⟩, h00⟩ := hJ
  have hT8 : hp_T p ≤ 8 := hx.1.1.1
  have hH7 : hp_H p ≤ 7 := hx.1.1.2.1
  refine sx_better hx.1.1 hx.2.1 hx.2.2.2.2.2.1 hx.2.2.2.2.2.2.1 (sx_fillingOf hx.1.1 h00) (hx_rm_QS hx.1.1) hx.1.2.2.1 hx.2.2.2.1 x m _ (fun k c h1 e1 e2 h2 h3 S2 he hr hq hs => ?_) (fun hn => ?_)
  · have hl := (hp_bt_lt (hp_q p k (-1)) hx.1.2.2.1 c).1
    obtain ⟨i2, f2⟩ := hx_I_cs hx he hr hq hl hs
    have hm2 : hm_I S2 p n q hand cl := hm_I_xfr hm f2
    refine sp_better hm2.1.1 hm2.2.1 (sp_roomedOf hm2.1.1) hm2.1.2.2.1 hm2.2.2.2.1 x m _ (fun k9 c9 h1' e1' e2' h2' h3' S3 hk9 hs9 => ?_) (fun hn => absurd ⟨hb_c2 (a := 0) (b := 6) e1 (Nat.zero_le _) (by omega) (by decide), hb_c2 (a := 1) (b := 60) e2 h2 h3 (by decide)⟩ hn)
    have et : k9 = k := hb_inj e1 e1' (by omega) (by omega)
    have ec : c9 = c := hb_inj e2 e2' (by omega) (by omega)
    subst et
    subst ec
    obtain ⟨i3, f3⟩ := hm_I_N hm2 (hm_N_K hk9) hl hs9
    exact hK _ _ (hd_J_m i2 i3 f3)
  · exact sp_better hm.1.1 hm.2.1 (sp_roomedOf hm.1.1) hm.1.2.2.1 hm.2.2.2.1 x m _ (fun k9 c9 h1' e1' e2' h2' h3' S3 hk9 hs9 => absurd ⟨hb_c2 (a := 0) (b := 6) e1' (Nat.zero_le _) (by omega) (by decide), hb_c2 (a := 1) (b := 60) e2' h2' h3' (by decide)⟩ hn) (fun _ => hK _ _ (hd_J_0 hx hm))
set_option maxHeartbeats 1000000 in
theorem st_claim {S : hd_S} (hJ : hd_J0 S) (x v : Int32) (K : Int32 → Int32 → hd_S → Prop) (hK : ∀ v S3, hd_J S3 → K v v S3) : hd_two wm_X8_claim wm_X9_claim [hd_vI x, hd_vI v] S K := by
  obtain ⟨p, n, q, hand, cl, ⟨hx, hm⟩, h00⟩ := hJ
  have hT8 : hp_T p ≤ 8 := hx.1.1.1
  have hH7 : hp_H p ≤ 7 := hx.1.1.2.1
  refine sx_claim hx x v _ (fun t k h1 e1 h2 e2 S2 i2 f2 => ?_) (fun hn => ?_)
  · refine sp_claim (hm_I_xfr hm f2) x v _ (fun t9 k9 h1' e1' h2' e2' S3 i3 f3 => ?_) (fun hn => absurd ⟨hb_c e1 h1 (by omega), hb_c2 (a := 0) (b := 1000000) e2 (Nat.zero_le _) h2 (by decide)⟩ hn)
    have et : t9 = t := hb_inj e1 e1' (by omega) (by omega)
    have ek : k9 = k := hb_inj e2 e2' (by omega) (by omega)
    subst et
    subst ek
    exact hK _ _ (hd_J_m i2 i3 f3)
  · exact sp_claim hm x v _ (fun t9 k9 h1' e1' h2' e2' S3 i3 f3 => absurd ⟨hb_c e1' h1' (by omega), hb_c2 (a := 0) (b := 1000000) e2' (Nat.zero_le _) h2' (by decide)⟩ hn) (fun _ => hK _ _ (hd_J_0 hx hm))
set_option maxHeartbeats 1000000 in
theorem st_claimed {S : hd_S} (hJ : hd_J0 S) (x : Int32) (K : Int32 → Int32 → hd_S → Prop) (hK : ∀ v S3, hd_J S3 → K v v S3) : hd_two wm_X8_claimed wm_X9_claimed [hd_vI x] S K := by
  obtain ⟨p, n, q, hand, cl, ⟨hx, hm⟩, h00⟩ := hJ
  have hT8 : hp_T p ≤ 8 := hx.1.1.1
  have hH7 : hp_H p ≤ 7 := hx.1.1.2.1
  refine sx_claimed hx x _ (fun t h1 e1 => ?_) (fun hn => ?_)
  · refine sp_claimed hm x _ (fun t9 h1' e1' => ?_) (fun hn => absurd (hb_c e1 h1 (by omega)) hn)
    have et : t9 = t := hb_inj e1 e1' (by omega) (by omega)
    subst et
    exact hK _ _ (hd_J_0 hx hm)
  · exact sp_claimed hm x _ (fun t9 h1' e1' => absurd (hb_c e1' h1' (by omega)) hn) (fun _ => hK _ _ (hd_J_0 hx hm))
set_option maxHeartbeats 1000000 in
theorem st_holds {S : hd_S} (hJ : hd_J0 S) (K : Int32 → Int32 → hd_S → Prop) (hK : ∀ v S3, hd_J S3 → K v v S3) : hd_two wm_X8_holds wm_X9_holds [] S K := by
  obtain ⟨p, n, q, hand, cl, ⟨hx, hm⟩, h00⟩ := hJ
  have hT8 : hp_T p ≤ 8 := hx.1.1.1
  have hH7 : hp_H p ≤ 7 := hx.1.1.2.1
  exact sx_holds hx _ (sp_holds hm _ (hK _ _ (hd_J_0 hx hm)))
set_option maxHeartbeats 1000000 in
theorem st_raise {S : hd_S} (hJ : hd_J0 S) (K : Int32 → Int32 → hd_S → Prop) (hK : ∀ v S3, hd_J S3 → K v v S3) : hd_two wm_X8_raise wm_X9_raise [] S K := by
  obtain ⟨p, n, q, hand, cl, ⟨hx, hm⟩, h00⟩ := hJ
  have hT8 : hp_T p ≤ 8 := hx.1.1.1
  have hH7 : hp_H p ≤ 7 := hx.1.1.2.1
  refine sx_raise hx _ (fun h0 => ?_) (fun h0 S2 i2 f2 => ?_)
  · exact sp_raiseI hm _ (fun _ => hK _ _ (hd_J_0 hx hm)) (fun h1 => absurd h0 h1)
  · exact sp_raiseI (hm_I_xfr hm f2) _ (fun h1 => absurd h1 h0) (fun _ S3 i3 f3 => hK _ _ (hd_J_m i2 i3 f3))
set_option maxHeartbeats 1000000 in
theorem st_fair {S : hd_S} (hJ : hd_J0 S) (K : Int32 → Int32 → hd_S → Prop) (hK : ∀ v S3, hd_J S3 → K v v S3) : hd_two wm_X8_fair wm_X9_fair [] S K := by
  obtain ⟨p, n, q, hand, cl, ⟨hx, hm⟩, h00⟩ := hJ
  have hT8 : hp_T p ≤ 8 := hx.1.1.1
  have hH7 : hp_H p ≤ 7 := hx.1.1.2.1
  refine sx_fair hx _ (fun h0 => ?_) (fun h0 S2 i2 f2 => ?_)
  · exact sp_fair hm _ (fun _ => hK _ _ (hd_J_0 hx hm)) (fun h1 => absurd h0 h1)
  · exact sp_fair (hm_I_xfr hm f2) _ (fun h1 => absurd h1 h0) (fun _ S3 i3 f3 => hK _ _ (hd_J_m i2 i3 f3))
set_option maxHeartbeats 1000000 in
theorem st_share {S : hd_S} (hJ : hd_J0 S) (x part : Int32) (K : Int64 → Int64 → hd_S → Prop) (hK : ∀ v S3, hd_J S3 → K v v S3) : hd_twoJ wm_X8_share wm_X9_share [hd_vI x, hd_vI part] S K := by
  obtain ⟨p, n, q, hand, cl, ⟨hx, hm⟩, h00⟩ := hJ
  have hT8 : hp_T p ≤ 8 := hx.1.1.1
  have hH7 : hp_H p ≤ 7 := hx.1.1.2.1
  refine sx_share hx x part _ (fun hn => ?_) (fun hc h0 => ?_) (fun hc h0 t h1 e1 S2 i2 f2 => ?_)
  · exact sp_share hm x part _ (fun _ => hK _ _ (hd_J_0 hx hm)) (fun hc => absurd hc hn) (fun hc => absurd hc hn)
  · exact sp_share hm x part _ (fun hn => absurd hc hn) (fun _ _ => hK _ _ (hd_J_0 hx hm)) (fun _ h1 => absurd h0 h1)
  · refine sp_share (hm_I_xfr hm f2) x part _ (fun hn => absurd hc hn) (fun _ h1 => absurd h1 h0) (fun _ _ t9 h1' e1' S3 i3 f3 => ?_)
    have et : t9 = t := hb_inj e1 e1' (by omega) (by omega)
    subst et
    exact hK _ _ (hd_J_m i2 i3 f3)
theorem hp_lines {p : hp_P} {u v s : Nat} {f g : Nat → Int} {kind : Int32} {c a : Nat} (hu : u ≤ 8) (h1 : hp_SP (hp_sp p) (hp_T p) u f) (h2 : hp_SP (hp_sp p) (hp_T p) v g) (hc : hp_bc (2 ^ u) (min s u) (hp_Cc p u f kind) c) (ha : hp_br v (2 ^ v) (min s v) (hp_Da p v g kind) a) : u = v ∧ hp_Cc p u f kind c = hp_Da p v g kind a ∧ (∀ i, i < u → f i = g i) ∧ ∀ i, i < u → hp_gc u c i = hp_ga a i := by
  obtain ⟨euv, efg⟩ := hp_SP_one h1 h2
  subst euv
  have hCD : ∀ x, x < 2 ^ u → hp_Cc p u f kind x = hp_Da p u g kind (hb_rv u x) := fun x _ => hp_ld_cong kind (fun i hi => ⟨efg i hi, by
    show x.testBit (u - 1 - i) = (hb_rv u x).testBit i
    rw [hb_rv_bit hi]⟩)
  obtain ⟨e1, e2⟩ := hp_bc_br hu hCD hc ha
  refine ⟨rfl, e2, efg, fun i hi => ?_⟩
  show c.testBit (u - 1 - i) = a.testBit i
  rw [e1, hb_rv_bit (by omega)]
  congr 1
  omega
set_option maxHeartbeats 1000000 in
theorem st_line {S : hd_S} (hJ : hd_J0 S) (x k0 : Int32) (K : Int32 → Int32 → hd_S → Prop) (hK : ∀ v S3, hd_J S3 → K v v S3) : hd_two wm_X8_line wm_X9_line [hd_vI x, hd_vI k0] S K := by
  obtain ⟨p, n, q, hand, cl, ⟨hx, hm⟩, h00⟩ := hJ
  have hT8 : hp_T p ≤ 8 := hx.1.1.1
  have hH7 : hp_H p ≤ 7 := hx.1.1.2.1
  refine sx_line hx x k0 _ (fun hn => ?_) (fun hc h0 S2 i2 f2 => ?_) (fun hc h0 kk u f c e1 k1 k8 hsp hut hbc S2 i2 f2 => ?_)
  · exact sp_line hm x k0 _ (fun _ => hK _ _ (hd_J_0 hx hm)) (fun hc => absurd hc hn) (fun hc => absurd hc hn)
  · exact sp_line (hm_I_xfr hm f2) x k0 _ (fun hn => absurd hc hn) (fun _ _ S3 i3 f3 => hK _ _ (hd_J_m i2 i3 f3)) (fun _ h1 => absurd h0 h1)
  · refine sp_line (hm_I_xfr hm f2) x k0 _ (fun hn => absurd hc hn) (fun _ h1 => absurd h1 h0) (fun _ _ kk9 u9 f9 a e1' k1' k8' hsp' hut' hbr S3 i3 f3 => ?_)
    have ek : kk9 = kk := hb_inj e1 e1' (by omega) (by omega)
    subst ek
    obtain ⟨-, e2, -, -⟩ := hp_lines (by omega) hsp hsp' hbc hbr
    show K (nI (hp_Cc p u f x c)) (nI (hp_Da p u9 f9 x a)) S3
    rw [e2]
    exact hK _ _ (hd_J_m i2 i3 f3)
set_option maxHeartbeats 1000000 in
theorem st_lineAt {S : hd_S} (hJ : hd_J0 S) (x k0 i0 : Int32) (K : Int32 → Int32 → hd_S → Prop) (hK : ∀ v S3, hd_J S3 → K v v S3) : hd_two wm_X8_lineAt wm_X9_lineAt [hd_vI x, hd_vI k0, hd_vI i0] S K := by
  obtain ⟨p, n, q, hand, cl, ⟨hx, hm⟩, h00⟩ := hJ
  have hT8 : hp_T p ≤ 8 := hx.1.1.1
  have hH7 : hp_H p ≤ 7 := hx.1.1.2.1
  refine sx_lineAt hx x k0 i0 _ (fun hn => ?_) (fun hc h0 S2 i2 f2 => ?_) (fun hc h0 kk u f c m e1 k1 k8 hm31 em hsp hut hbc S2 i2 f2 => ?_)
  · exact sp_lineAt hm x k0 i0 _ (fun _ => hK _ _ (hd_J_0 hx hm)) (fun hc => absurd hc hn) (fun hc => absurd hc hn)
  · exact sp_lineAt (hm_I_xfr hm f2) x k0 i0 _ (fun hn => absurd hc hn) (fun _ _ S3 i3 f3 => hK _ _ (hd_J_m i2 i3 f3)) (fun _ h1 => absurd h0 h1)
  · refine sp_lineAt (hm_I_xfr hm f2) x k0 i0 _ (fun hn => absurd hc hn) (fun _ h1 => absurd h1 h0) (fun _ _ kk9 u9 f9 a m9 e1' k1' k8' hm9 em' hsp' hut' hbr S3 i3 f3 => ?_)
    have ek : kk9 = kk := hb_inj e1 e1' (by omega) (by omega)
    have e9 : m9 = m := hb_inj em em' hm31 hm9
    subst ek
    subst e9
    obtain ⟨euv, -, efg, egg⟩ := hp_lines (by omega) hsp hsp' hbc hbr
    subst euv
    have e3 : hp_ci (hp_gc u c) m9 u = hp_ci (hp_ga a) m9 u := hp_ci_cong egg
    have e4 : hp_cv f (hp_ci (hp_ga a) m9 u) = hp_cv f9 (hp_ci (hp_ga a) m9 u) := by
      cases ho : hp_ci (hp_ga a) m9 u with
      | none => rfl
      | some w =>
        show Int32.ofInt (f w) + 1000 = Int32.ofInt (f9 w) + 1000
        rw [efg w (hp_brk_lt ho)]
    show K (hp_cv f (hp_ci (hp_gc u c) m9 u)) (hp_cv f9 (hp_ci (hp_ga a) m9 u)) S3
    rw [e3, e4]
    exact hK _ _ (hd_J_m i2 i3 f3)
set_option maxHeartbeats 1000000 in
theorem st_count {S : hd_S} (hJ : hd_J0 S) (x : Int32) (K : Int32 → Int32 → hd_S → Prop) (hK : ∀ v S3, hd_J S3 → K v v S3) : hd_two wm_X8_count wm_X9_count [hd_vI x] S K := by
  obtain ⟨p, n, q, hand, cl, ⟨hx, hm⟩, h00⟩ := hJ
  have hT8 : hp_T p ≤ 8 := hx.1.1.1
  have hH7 : hp_H p ≤ 7 := hx.1.1.2.1
  exact sx_count hx x _ (sp_count hm x _ (hK _ _ (hd_J_0 hx hm)))
