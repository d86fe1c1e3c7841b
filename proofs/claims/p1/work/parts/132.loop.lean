/-! THE LAW'S LOOP: no call answers otherwise -/
def hl_dead : hd_xS := fun _ _ _ _ => False
def hl_rho (i : Int32) : List hd_V := [hd_vR 130, hd_vR 0, hd_vR 113, hd_vI i]
def hl_arm (na : Nat) (vs : hd_xV) (wx wm : hd_M) : hd_xS := hd_sW (hd_cI (fun x y => !decide (x = y)) (hd_iN (hd_nV hs_sh 8 (hd_rL 1) na vs wx)) (hd_iN (hd_nV hs_sh 9 (hd_rL 2) na vs wm))) hl_dead
def hl_armJ (na : Nat) (vs : hd_xV) (wx wm : hd_M) : hd_xS := hd_sW (hd_cJ (fun x y => !decide (x = y)) (hd_jN (hd_nV hs_sh 8 (hd_rL 1) na vs wx)) (hd_jN (hd_nV hs_sh 9 (hd_rL 2) na vs wm))) hl_dead
theorem hl_arm_ok {na : Nat} {vs : hd_xV} {wx wm : hd_M} {as : List hd_V} {i : Int32} {S : hd_S} {nrm : List hd_V → hd_S → Prop} {ret : Option hd_V → hd_S → Prop} (ha : ∀ S (post : List hd_V → hd_S → Prop), vs (hl_rho i) S post = post as S) (hn : as.length = na) (hst : ∀ K : Int32 → Int32 → hd_S → Prop, (∀ v S3, hd_J S3 → K v v S3) → hd_two wx wm as S K) (hnrm : ∀ S3, hd_J S3 → nrm (hl_rho i) S3) : hl_arm na vs wx wm (hl_rho i) S nrm ret := by
  have h := hst (fun x y S3 => if (!decide (x = y)) = true then hl_dead (hl_rho i) S3 nrm ret else nrm (hl_rho i) S3) (fun v S3 h => by
    rw [if_neg (by simp)]
    exact hnrm S3 h)
  refine ⟨⟨_, hs_0⟩, ?_⟩
  rw [ha]
  refine ⟨hn, ?_⟩
  refine Eq.mp (congrArg (wx (hd_vR 0 :: as) S) (funext fun v => funext fun S2 => ?_)) h
  rcases v with _ | x | x
  · rfl
  · refine Eq.trans (b := (hd_isO hs_sh 9 113 ∧ vs (hl_rho i) S2 (fun as' S' => as'.length = na ∧ wm (hd_vR 113 :: as') S' (fun r2 S3 => match r2 with
      | some (.inl y) => if (!decide (x = y)) = true then hl_dead (hl_rho i) S3 nrm ret else nrm (hl_rho i) S3
      | _ => False)))) ?_ rfl
    rw [ha]
    exact propext ⟨fun q => ⟨⟨_, hs_113⟩, hn, q⟩, fun q => q.2.2⟩
  · rfl
theorem hl_armJ_ok {na : Nat} {vs : hd_xV} {wx wm : hd_M} {as : List hd_V} {i : Int32} {S : hd_S} {nrm : List hd_V → hd_S → Prop} {ret : Option hd_V → hd_S → Prop} (ha : ∀ S (post : List hd_V → hd_S → Prop), vs (hl_rho i) S post = post as S) (hn : as.length = na) (hst : ∀ K : Int64 → Int64 → hd_S → Prop, (∀ v S3, hd_J S3 → K v v S3) → hd_twoJ wx wm as S K) (hnrm : ∀ S3, hd_J S3 → nrm (hl_rho i) S3) : hl_armJ na vs wx wm (hl_rho i) S nrm ret := by
  have h := hst (fun x y S3 => if (!decide (x = y)) = true then hl_dead (hl_rho i) S3 nrm ret else nrm (hl_rho i) S3) (fun v S3 h => by
    rw [if_neg (by simp)]
    exact hnrm S3 h)
  refine ⟨⟨_, hs_0⟩, ?_⟩
  rw [ha]
  refine ⟨hn, ?_⟩
  refine Eq.mp (congrArg (wx (hd_vR 0 :: as) S) (funext fun v => funext fun S2 => ?_)) h
  rcases v with _ | x | x | x
  · rfl
  · rfl
  · refine Eq.trans (b := (hd_isO hs_sh 9 113 ∧ vs (hl_rho i) S2 (fun as' S' => as'.length = na ∧ wm (hd_vR 113 :: as') S' (fun r2 S3 => match r2 with
      | some (.inr (.inl y)) => if (!decide (x = y)) = true then hl_dead (hl_rho i) S3 nrm ret else nrm (hl_rho i) S3
      | _ => False)))) ?_ rfl
    rw [ha]
    exact propext ⟨fun q => ⟨⟨_, hs_113⟩, hn, q⟩, fun q => q.2.2⟩
  · rfl
theorem hl_get {L : Nat} {xs : Nat → Int32} {i k : Int32} (h : vp_in (i + k) L) (S : hd_S) (post : Int32 → hd_S → Prop) : hd_iS L xs (hd_iB (fun x y => x + y) (hd_iL 3) (hd_iK k)) (hl_rho i) S post = post (xs (i + k).toNatClampNeg) S := propext ⟨fun q => q.2.2, fun q => ⟨rfl, h, q⟩⟩
def hl_five (i : Int32) (L : Nat) : Prop := vp_in (i + 1) L ∧ vp_in (i + 2) L ∧ vp_in (i + 3) L ∧ vp_in (i + 4) L ∧ vp_in (i + 5) L
def wa_town (L : Nat) (xs : Nat → Int32) : hd_xS := hl_arm 0 hd_v0 wm_X8_town wm_X9_town
theorem ar_town {L : Nat} {xs : Nat → Int32} {i : Int32} {S : hd_S} {nrm : List hd_V → hd_S → Prop} {ret : Option hd_V → hd_S → Prop} (hJ : hd_J0 S) (h5 : hl_five i L) (hnrm : ∀ S3, hd_J S3 → nrm (hl_rho i) S3) : wa_town L xs (hl_rho i) S nrm ret := by
  exact hl_arm_ok (as := []) (fun S post => rfl) rfl (fun K hK => st_town hJ K hK) hnrm
def wa_hall (L : Nat) (xs : Nat → Int32) : hd_xS := hl_arm 0 hd_v0 wm_X8_hall wm_X9_hall
theorem ar_hall {L : Nat} {xs : Nat → Int32} {i : Int32} {S : hd_S} {nrm : List hd_V → hd_S → Prop} {ret : Option hd_V → hd_S → Prop} (hJ : hd_J0 S) (h5 : hl_five i L) (hnrm : ∀ S3, hd_J S3 → nrm (hl_rho i) S3) : wa_hall L xs (hl_rho i) S nrm ret := by
  exact hl_arm_ok (as := []) (fun S post => rfl) rfl (fun K hK => st_hall hJ K hK) hnrm
def wa_people (L : Nat) (xs : Nat → Int32) : hd_xS := hl_arm 2 (hd_pI (hd_pI hd_v0 (hd_iS L xs (hd_iB (fun x y => x + y) (hd_iL 3) (hd_iK (1))))) (hd_iS L xs (hd_iB (fun x y => x + y) (hd_iL 3) (hd_iK (2))))) wm_X8_people wm_X9_people
theorem ar_people {L : Nat} {xs : Nat → Int32} {i : Int32} {S : hd_S} {nrm : List hd_V → hd_S → Prop} {ret : Option hd_V → hd_S → Prop} (hJ : hd_J0 S) (h5 : hl_five i L) (hnrm : ∀ S3, hd_J S3 → nrm (hl_rho i) S3) : wa_people L xs (hl_rho i) S nrm ret := by
  refine hl_arm_ok (as := [hd_vI (xs (i + 1).toNatClampNeg), hd_vI (xs (i + 2).toNatClampNeg)]) (fun S post => ?_) rfl (fun K hK => st_people hJ (xs (i + 1).toNatClampNeg) (xs (i + 2).toNatClampNeg) K hK) hnrm
  simp only [hd_pI, hd_v0, hl_get (xs := xs) h5.1, hl_get (xs := xs) h5.2.1] <;> rfl
def wa_fine (L : Nat) (xs : Nat → Int32) : hd_xS := hl_arm 2 (hd_pI (hd_pI hd_v0 (hd_iS L xs (hd_iB (fun x y => x + y) (hd_iL 3) (hd_iK (1))))) (hd_iS L xs (hd_iB (fun x y => x + y) (hd_iL 3) (hd_iK (2))))) wm_X8_fine wm_X9_fine
theorem ar_fine {L : Nat} {xs : Nat → Int32} {i : Int32} {S : hd_S} {nrm : List hd_V → hd_S → Prop} {ret : Option hd_V → hd_S → Prop} (hJ : hd_J0 S) (h5 : hl_five i L) (hnrm : ∀ S3, hd_J S3 → nrm (hl_rho i) S3) : wa_fine L xs (hl_rho i) S nrm ret := by
  refine hl_arm_ok (as := [hd_vI (xs (i + 1).toNatClampNeg), hd_vI (xs (i + 2).toNatClampNeg)]) (fun S post => ?_) rfl (fun K hK => st_fine hJ (xs (i + 1).toNatClampNeg) (xs (i + 2).toNatClampNeg) K hK) hnrm
  simp only [hd_pI, hd_v0, hl_get (xs := xs) h5.1, hl_get (xs := xs) h5.2.1] <;> rfl
def wa_place (L : Nat) (xs : Nat → Int32) : hd_xS := hl_arm 2 (hd_pI (hd_pI hd_v0 (hd_iS L xs (hd_iB (fun x y => x + y) (hd_iL 3) (hd_iK (1))))) (hd_iS L xs (hd_iB (fun x y => x + y) (hd_iL 3) (hd_iK (2))))) wm_X8_place wm_X9_place
theorem ar_place {L : Nat} {xs : Nat → Int32} {i : Int32} {S : hd_S} {nrm : List hd_V → hd_S → Prop} {ret : Option hd_V → hd_S → Prop} (hJ : hd_J0 S) (h5 : hl_five i L) (hnrm : ∀ S3, hd_J S3 → nrm (hl_rho i) S3) : wa_place L xs (hl_rho i) S nrm ret := by
  refine hl_arm_ok (as := [hd_vI (xs (i + 1).toNatClampNeg), hd_vI (xs (i + 2).toNatClampNeg)]) (fun S post => ?_) rfl (fun K hK => st_place hJ (xs (i + 1).toNatClampNeg) (xs (i + 2).toNatClampNeg) K hK) hnrm
  simp only [hd_pI, hd_v0, hl_get (xs := xs) h5.1, hl_get (xs := xs) h5.2.1] <;> rfl
def wa_price (L : Nat) (xs : Nat → Int32) : hd_xS := hl_arm 2 (hd_pI (hd_pI hd_v0 (hd_iS L xs (hd_iB (fun x y => x + y) (hd_iL 3) (hd_iK (1))))) (hd_iS L xs (hd_iB (fun x y => x + y) (hd_iL 3) (hd_iK (2))))) wm_X8_price wm_X9_price
theorem ar_price {L : Nat} {xs : Nat → Int32} {i : Int32} {S : hd_S} {nrm : List hd_V → hd_S → Prop} {ret : Option hd_V → hd_S → Prop} (hJ : hd_J0 S) (h5 : hl_five i L) (hnrm : ∀ S3, hd_J S3 → nrm (hl_rho i) S3) : wa_price L xs (hl_rho i) S nrm ret := by
  refine hl_arm_ok (as := [hd_vI (xs (i + 1).toNatClampNeg), hd_vI (xs (i + 2).toNatClampNeg)]) (fun S post => ?_) rfl (fun K hK => st_price hJ (xs (i + 1).toNatClampNeg) (xs (i + 2).toNatClampNeg) K hK) hnrm
  simp only [hd_pI, hd_v0, hl_get (xs := xs) h5.1, hl_get (xs := xs) h5.2.1] <;> rfl
def wa_room (L : Nat) (xs : Nat → Int32) : hd_xS := hl_arm 2 (hd_pI (hd_pI hd_v0 (hd_iS L xs (hd_iB (fun x y => x + y) (hd_iL 3) (hd_iK (1))))) (hd_iS L xs (hd_iB (fun x y => x + y) (hd_iL 3) (hd_iK (2))))) wm_X8_room wm_X9_room
theorem ar_room {L : Nat} {xs : Nat → Int32} {i : Int32} {S : hd_S} {nrm : List hd_V → hd_S → Prop} {ret : Option hd_V → hd_S → Prop} (hJ : hd_J0 S) (h5 : hl_five i L) (hnrm : ∀ S3, hd_J S3 → nrm (hl_rho i) S3) : wa_room L xs (hl_rho i) S nrm ret := by
  refine hl_arm_ok (as := [hd_vI (xs (i + 1).toNatClampNeg), hd_vI (xs (i + 2).toNatClampNeg)]) (fun S post => ?_) rfl (fun K hK => st_room hJ (xs (i + 1).toNatClampNeg) (xs (i + 2).toNatClampNeg) K hK) hnrm
  simp only [hd_pI, hd_v0, hl_get (xs := xs) h5.1, hl_get (xs := xs) h5.2.1] <;> rfl
def wa_sheet (L : Nat) (xs : Nat → Int32) : hd_xS := hl_arm 3 (hd_pI (hd_pI (hd_pI hd_v0 (hd_iS L xs (hd_iB (fun x y => x + y) (hd_iL 3) (hd_iK (1))))) (hd_iS L xs (hd_iB (fun x y => x + y) (hd_iL 3) (hd_iK (2))))) (hd_iS L xs (hd_iB (fun x y => x + y) (hd_iL 3) (hd_iK (3))))) wm_X8_sheet wm_X9_sheet
theorem ar_sheet {L : Nat} {xs : Nat → Int32} {i : Int32} {S : hd_S} {nrm : List hd_V → hd_S → Prop} {ret : Option hd_V → hd_S → Prop} (hJ : hd_J0 S) (h5 : hl_five i L) (hnrm : ∀ S3, hd_J S3 → nrm (hl_rho i) S3) : wa_sheet L xs (hl_rho i) S nrm ret := by
  refine hl_arm_ok (as := [hd_vI (xs (i + 1).toNatClampNeg), hd_vI (xs (i + 2).toNatClampNeg), hd_vI (xs (i + 3).toNatClampNeg)]) (fun S post => ?_) rfl (fun K hK => st_sheet hJ (xs (i + 1).toNatClampNeg) (xs (i + 2).toNatClampNeg) (xs (i + 3).toNatClampNeg) K hK) hnrm
  simp only [hd_pI, hd_v0, hl_get (xs := xs) h5.1, hl_get (xs := xs) h5.2.1, hl_get (xs := xs) h5.2.2.1] <;> rfl
def wa_lose (L : Nat) (xs : Nat → Int32) : hd_xS := hl_arm 1 (hd_pI hd_v0 (hd_iS L xs (hd_iB (fun x y => x + y) (hd_iL 3) (hd_iK (1))))) wm_X8_lose wm_X9_lose
theorem ar_lose {L : Nat} {xs : Nat → Int32} {i : Int32} {S : hd_S} {nrm : List hd_V → hd_S → Prop} {ret : Option hd_V → hd_S → Prop} (hJ : hd_J0 S) (h5 : hl_five i L) (hnrm : ∀ S3, hd_J S3 → nrm (hl_rho i) S3) : wa_lose L xs (hl_rho i) S nrm ret := by
  refine hl_arm_ok (as := [hd_vI (xs (i + 1).toNatClampNeg)]) (fun S post => ?_) rfl (fun K hK => st_lose hJ (xs (i + 1).toNatClampNeg) K hK) hnrm
  simp only [hd_pI, hd_v0, hl_get (xs := xs) h5.1] <;> rfl
def wa_way (L : Nat) (xs : Nat → Int32) : hd_xS := hl_arm 3 (hd_pI (hd_pI (hd_pI hd_v0 (hd_iS L xs (hd_iB (fun x y => x + y) (hd_iL 3) (hd_iK (1))))) (hd_iS L xs (hd_iB (fun x y => x + y) (hd_iL 3) (hd_iK (2))))) (hd_iS L xs (hd_iB (fun x y => x + y) (hd_iL 3) (hd_iK (3))))) wm_X8_way wm_X9_way
theorem ar_way {L : Nat} {xs : Nat → Int32} {i : Int32} {S : hd_S} {nrm : List hd_V → hd_S → Prop} {ret : Option hd_V → hd_S → Prop} (hJ : hd_J0 S) (h5 : hl_five i L) (hnrm : ∀ S3, hd_J S3 → nrm (hl_rho i) S3) : wa_way L xs (hl_rho i) S nrm ret := by
  refine hl_arm_ok (as := [hd_vI (xs (i + 1).toNatClampNeg), hd_vI (xs (i + 2).toNatClampNeg), hd_vI (xs (i + 3).toNatClampNeg)]) (fun S post => ?_) rfl (fun K hK => st_way hJ (xs (i + 1).toNatClampNeg) (xs (i + 2).toNatClampNeg) (xs (i + 3).toNatClampNeg) K hK) hnrm
  simp only [hd_pI, hd_v0, hl_get (xs := xs) h5.1, hl_get (xs := xs) h5.2.1, hl_get (xs := xs) h5.2.2.1] <;> rfl
def wa_copy (L : Nat) (xs : Nat → Int32) : hd_xS := hl_arm 5 (hd_pI (hd_pI (hd_pI (hd_pI (hd_pI hd_v0 (hd_iS L xs (hd_iB (fun x y => x + y) (hd_iL 3) (hd_iK (1))))) (hd_iS L xs (hd_iB (fun x y => x + y) (hd_iL 3) (hd_iK (2))))) (hd_iS L xs (hd_iB (fun x y => x + y) (hd_iL 3) (hd_iK (3))))) (hd_iS L xs (hd_iB (fun x y => x + y) (hd_iL 3) (hd_iK (4))))) (hd_iS L xs (hd_iB (fun x y => x + y) (hd_iL 3) (hd_iK (5))))) wm_X8_copy wm_X9_copy
theorem ar_copy {L : Nat} {xs : Nat → Int32} {i : Int32} {S : hd_S} {nrm : List hd_V → hd_S → Prop} {ret : Option hd_V → hd_S → Prop} (hJ : hd_J0 S) (h5 : hl_five i L) (hnrm : ∀ S3, hd_J S3 → nrm (hl_rho i) S3) : wa_copy L xs (hl_rho i) S nrm ret := by
  refine hl_arm_ok (as := [hd_vI (xs (i + 1).toNatClampNeg), hd_vI (xs (i + 2).toNatClampNeg), hd_vI (xs (i + 3).toNatClampNeg), hd_vI (xs (i + 4).toNatClampNeg), hd_vI (xs (i + 5).toNatClampNeg)]) (fun S post => ?_) rfl (fun K hK => st_copy hJ (xs (i + 1).toNatClampNeg) (xs (i + 2).toNatClampNeg) (xs (i + 3).toNatClampNeg) (xs (i + 4).toNatClampNeg) (xs (i + 5).toNatClampNeg) K hK) hnrm
  simp only [hd_pI, hd_v0, hl_get (xs := xs) h5.1, hl_get (xs := xs) h5.2.1, hl_get (xs := xs) h5.2.2.1, hl_get (xs := xs) h5.2.2.2.1, hl_get (xs := xs) h5.2.2.2.2] <;> rfl
def wa_far (L : Nat) (xs : Nat → Int32) : hd_xS := hl_arm 2 (hd_pI (hd_pI hd_v0 (hd_iS L xs (hd_iB (fun x y => x + y) (hd_iL 3) (hd_iK (1))))) (hd_iS L xs (hd_iB (fun x y => x + y) (hd_iL 3) (hd_iK (2))))) wm_X8_far wm_X9_far
theorem ar_far {L : Nat} {xs : Nat → Int32} {i : Int32} {S : hd_S} {nrm : List hd_V → hd_S → Prop} {ret : Option hd_V → hd_S → Prop} (hJ : hd_J0 S) (h5 : hl_five i L) (hnrm : ∀ S3, hd_J S3 → nrm (hl_rho i) S3) : wa_far L xs (hl_rho i) S nrm ret := by
  refine hl_arm_ok (as := [hd_vI (xs (i + 1).toNatClampNeg), hd_vI (xs (i + 2).toNatClampNeg)]) (fun S post => ?_) rfl (fun K hK => st_far hJ (xs (i + 1).toNatClampNeg) (xs (i + 2).toNatClampNeg) K hK) hnrm
  simp only [hd_pI, hd_v0, hl_get (xs := xs) h5.1, hl_get (xs := xs) h5.2.1] <;> rfl
def wa_about (L : Nat) (xs : Nat → Int32) : hd_xS := hl_arm 3 (hd_pI (hd_pI (hd_pI hd_v0 (hd_iS L xs (hd_iB (fun x y => x + y) (hd_iL 3) (hd_iK (1))))) (hd_iS L xs (hd_iB (fun x y => x + y) (hd_iL 3) (hd_iK (2))))) (hd_iS L xs (hd_iB (fun x y => x + y) (hd_iL 3) (hd_iK (3))))) wm_X8_about wm_X9_about
theorem ar_about {L : Nat} {xs : Nat → Int32} {i : Int32} {S : hd_S} {nrm : List hd_V → hd_S → Prop} {ret : Option hd_V → hd_S → Prop} (hJ : hd_J0 S) (h5 : hl_five i L) (hnrm : ∀ S3, hd_J S3 → nrm (hl_rho i) S3) : wa_about L xs (hl_rho i) S nrm ret := by
  refine hl_arm_ok (as := [hd_vI (xs (i + 1).toNatClampNeg), hd_vI (xs (i + 2).toNatClampNeg), hd_vI (xs (i + 3).toNatClampNeg)]) (fun S post => ?_) rfl (fun K hK => st_about hJ (xs (i + 1).toNatClampNeg) (xs (i + 2).toNatClampNeg) (xs (i + 3).toNatClampNeg) K hK) hnrm
  simp only [hd_pI, hd_v0, hl_get (xs := xs) h5.1, hl_get (xs := xs) h5.2.1, hl_get (xs := xs) h5.2.2.1] <;> rfl
def wa_undo (L : Nat) (xs : Nat → Int32) : hd_xS := hl_arm 0 hd_v0 wm_X8_undo wm_X9_undo
theorem ar_undo {L : Nat} {xs : Nat → Int32} {i : Int32} {S : hd_S} {nrm : List hd_V → hd_S → Prop} {ret : Option hd_V → hd_S → Prop} (hJ : hd_J0 S) (h5 : hl_five i L) (hnrm : ∀ S3, hd_J S3 → nrm (hl_rho i) S3) : wa_undo L xs (hl_rho i) S nrm ret := by
  exact hl_arm_ok (as := []) (fun S post => rfl) rfl (fun K hK => st_undo hJ K hK) hnrm
def wa_open (L : Nat) (xs : Nat → Int32) : hd_xS := hl_arm 1 (hd_pI hd_v0 (hd_iS L xs (hd_iB (fun x y => x + y) (hd_iL 3) (hd_iK (1))))) wm_X8_open wm_X9_open
theorem ar_open {L : Nat} {xs : Nat → Int32} {i : Int32} {S : hd_S} {nrm : List hd_V → hd_S → Prop} {ret : Option hd_V → hd_S → Prop} (hJ : hd_J0 S) (h5 : hl_five i L) (hnrm : ∀ S3, hd_J S3 → nrm (hl_rho i) S3) : wa_open L xs (hl_rho i) S nrm ret := by
  refine hl_arm_ok (as := [hd_vI (xs (i + 1).toNatClampNeg)]) (fun S post => ?_) rfl (fun K hK => st_open hJ (xs (i + 1).toNatClampNeg) K hK) hnrm
  simp only [hd_pI, hd_v0, hl_get (xs := xs) h5.1] <;> rfl
def wa_opened (L : Nat) (xs : Nat → Int32) : hd_xS := hl_arm 0 hd_v0 wm_X8_opened wm_X9_opened
theorem ar_opened {L : Nat} {xs : Nat → Int32} {i : Int32} {S : hd_S} {nrm : List hd_V → hd_S → Prop} {ret : Option hd_V → hd_S → Prop} (hJ : hd_J0 S) (h5 : hl_five i L) (hnrm : ∀ S3, hd_J S3 → nrm (hl_rho i) S3) : wa_opened L xs (hl_rho i) S nrm ret := by
  exact hl_arm_ok (as := []) (fun S post => rfl) rfl (fun K hK => st_opened hJ K hK) hnrm
def wa_cost (L : Nat) (xs : Nat → Int32) : hd_xS := hl_arm 1 (hd_pI hd_v0 (hd_iS L xs (hd_iB (fun x y => x + y) (hd_iL 3) (hd_iK (1))))) wm_X8_cost wm_X9_cost
theorem ar_cost {L : Nat} {xs : Nat → Int32} {i : Int32} {S : hd_S} {nrm : List hd_V → hd_S → Prop} {ret : Option hd_V → hd_S → Prop} (hJ : hd_J0 S) (h5 : hl_five i L) (hnrm : ∀ S3, hd_J S3 → nrm (hl_rho i) S3) : wa_cost L xs (hl_rho i) S nrm ret := by
  refine hl_arm_ok (as := [hd_vI (xs (i + 1).toNatClampNeg)]) (fun S post => ?_) rfl (fun K hK => st_cost hJ (xs (i + 1).toNatClampNeg) K hK) hnrm
  simp only [hd_pI, hd_v0, hl_get (xs := xs) h5.1] <;> rfl
def wa_goes (L : Nat) (xs : Nat → Int32) : hd_xS := hl_arm 2 (hd_pI (hd_pI hd_v0 (hd_iS L xs (hd_iB (fun x y => x + y) (hd_iL 3) (hd_iK (1))))) (hd_iS L xs (hd_iB (fun x y => x + y) (hd_iL 3) (hd_iK (2))))) wm_X8_goes wm_X9_goes
theorem ar_goes {L : Nat} {xs : Nat → Int32} {i : Int32} {S : hd_S} {nrm : List hd_V → hd_S → Prop} {ret : Option hd_V → hd_S → Prop} (hJ : hd_J0 S) (h5 : hl_five i L) (hnrm : ∀ S3, hd_J S3 → nrm (hl_rho i) S3) : wa_goes L xs (hl_rho i) S nrm ret := by
  refine hl_arm_ok (as := [hd_vI (xs (i + 1).toNatClampNeg), hd_vI (xs (i + 2).toNatClampNeg)]) (fun S post => ?_) rfl (fun K hK => st_goes hJ (xs (i + 1).toNatClampNeg) (xs (i + 2).toNatClampNeg) K hK) hnrm
  simp only [hd_pI, hd_v0, hl_get (xs := xs) h5.1, hl_get (xs := xs) h5.2.1] <;> rfl
def wa_worst (L : Nat) (xs : Nat → Int32) : hd_xS := hl_arm 1 (hd_pI hd_v0 (hd_iS L xs (hd_iB (fun x y => x + y) (hd_iL 3) (hd_iK (1))))) wm_X8_worst wm_X9_worst
theorem ar_worst {L : Nat} {xs : Nat → Int32} {i : Int32} {S : hd_S} {nrm : List hd_V → hd_S → Prop} {ret : Option hd_V → hd_S → Prop} (hJ : hd_J0 S) (h5 : hl_five i L) (hnrm : ∀ S3, hd_J S3 → nrm (hl_rho i) S3) : wa_worst L xs (hl_rho i) S nrm ret := by
  refine hl_arm_ok (as := [hd_vI (xs (i + 1).toNatClampNeg)]) (fun S post => ?_) rfl (fun K hK => st_worst hJ (xs (i + 1).toNatClampNeg) K hK) hnrm
  simp only [hd_pI, hd_v0, hl_get (xs := xs) h5.1] <;> rfl
def wa_least (L : Nat) (xs : Nat → Int32) : hd_xS := hl_arm 2 (hd_pI (hd_pI hd_v0 (hd_iS L xs (hd_iB (fun x y => x + y) (hd_iL 3) (hd_iK (1))))) (hd_iS L xs (hd_iB (fun x y => x + y) (hd_iL 3) (hd_iK (2))))) wm_X8_least wm_X9_least
theorem ar_least {L : Nat} {xs : Nat → Int32} {i : Int32} {S : hd_S} {nrm : List hd_V → hd_S → Prop} {ret : Option hd_V → hd_S → Prop} (hJ : hd_J0 S) (h5 : hl_five i L) (hnrm : ∀ S3, hd_J S3 → nrm (hl_rho i) S3) : wa_least L xs (hl_rho i) S nrm ret := by
  refine hl_arm_ok (as := [hd_vI (xs (i + 1).toNatClampNeg), hd_vI (xs (i + 2).toNatClampNeg)]) (fun S post => ?_) rfl (fun K hK => st_least hJ (xs (i + 1).toNatClampNeg) (xs (i + 2).toNatClampNeg) K hK) hnrm
  simp only [hd_pI, hd_v0, hl_get (xs := xs) h5.1, hl_get (xs := xs) h5.2.1] <;> rfl
def wa_many (L : Nat) (xs : Nat → Int32) : hd_xS := hl_arm 2 (hd_pI (hd_pI hd_v0 (hd_iS L xs (hd_iB (fun x y => x + y) (hd_iL 3) (hd_iK (1))))) (hd_iS L xs (hd_iB (fun x y => x + y) (hd_iL 3) (hd_iK (2))))) wm_X8_many wm_X9_many
theorem ar_many {L : Nat} {xs : Nat → Int32} {i : Int32} {S : hd_S} {nrm : List hd_V → hd_S → Prop} {ret : Option hd_V → hd_S → Prop} (hJ : hd_J0 S) (h5 : hl_five i L) (hnrm : ∀ S3, hd_J S3 → nrm (hl_rho i) S3) : wa_many L xs (hl_rho i) S nrm ret := by
  refine hl_arm_ok (as := [hd_vI (xs (i + 1).toNatClampNeg), hd_vI (xs (i + 2).toNatClampNeg)]) (fun S post => ?_) rfl (fun K hK => st_many hJ (xs (i + 1).toNatClampNeg) (xs (i + 2).toNatClampNeg) K hK) hnrm
  simp only [hd_pI, hd_v0, hl_get (xs := xs) h5.1, hl_get (xs := xs) h5.2.1] <;> rfl
def wa_best (L : Nat) (xs : Nat → Int32) : hd_xS := hl_arm 3 (hd_pI (hd_pI (hd_pI hd_v0 (hd_iS L xs (hd_iB (fun x y => x + y) (hd_iL 3) (hd_iK (1))))) (hd_iS L xs (hd_iB (fun x y => x + y) (hd_iL 3) (hd_iK (2))))) (hd_iS L xs (hd_iB (fun x y => x + y) (hd_iL 3) (hd_iK (3))))) wm_X8_best wm_X9_best
theorem ar_best {L : Nat} {xs : Nat → Int32} {i : Int32} {S : hd_S} {nrm : List hd_V → hd_S → Prop} {ret : Option hd_V → hd_S → Prop} (hJ : hd_J0 S) (h5 : hl_five i L) (hnrm : ∀ S3, hd_J S3 → nrm (hl_rho i) S3) : wa_best L xs (hl_rho i) S nrm ret := by
  refine hl_arm_ok (as := [hd_vI (xs (i + 1).toNatClampNeg), hd_vI (xs (i + 2).toNatClampNeg), hd_vI (xs (i + 3).toNatClampNeg)]) (fun S post => ?_) rfl (fun K hK => st_best hJ (xs (i + 1).toNatClampNeg) (xs (i + 2).toNatClampNeg) (xs (i + 3).toNatClampNeg) K hK) hnrm
  simp only [hd_pI, hd_v0, hl_get (xs := xs) h5.1, hl_get (xs := xs) h5.2.1, hl_get (xs := xs) h5.2.2.1] <;> rfl
def wa_number (L : Nat) (xs : Nat → Int32) : hd_xS := hl_arm 2 (hd_pI (hd_pI hd_v0 (hd_iS L xs (hd_iB (fun x y => x + y) (hd_iL 3) (hd_iK (1))))) (hd_iS L xs (hd_iB (fun x y => x + y) (hd_iL 3) (hd_iK (2))))) wm_X8_number wm_X9_number
theorem ar_number {L : Nat} {xs : Nat → Int32} {i : Int32} {S : hd_S} {nrm : List hd_V → hd_S → Prop} {ret : Option hd_V → hd_S → Prop} (hJ : hd_J0 S) (h5 : hl_five i L) (hnrm : ∀ S3, hd_J S3 → nrm (hl_rho i) S3) : wa_number L xs (hl_rho i) S nrm ret := by
  refine hl_arm_ok (as := [hd_vI (xs (i + 1).toNatClampNeg), hd_vI (xs (i + 2).toNatClampNeg)]) (fun S post => ?_) rfl (fun K hK => st_number hJ (xs (i + 1).toNatClampNeg) (xs (i + 2).toNatClampNeg) K hK) hnrm
  simp only [hd_pI, hd_v0, hl_get (xs := xs) h5.1, hl_get (xs := xs) h5.2.1] <;> rfl
def wa_better (L : Nat) (xs : Nat → Int32) : hd_xS := hl_arm 2 (hd_pI (hd_pI hd_v0 (hd_iS L xs (hd_iB (fun x y => x + y) (hd_iL 3) (hd_iK (1))))) (hd_iS L xs (hd_iB (fun x y => x + y) (hd_iL 3) (hd_iK (2))))) wm_X8_better wm_X9_better
theorem ar_better {L : Nat} {xs : Nat → Int32} {i : Int32} {S : hd_S} {nrm : List hd_V → hd_S → Prop} {ret : Option hd_V → hd_S → Prop} (hJ : hd_J0 S) (h5 : hl_five i L) (hnrm : ∀ S3, hd_J S3 → nrm (hl_rho i) S3) : wa_better L xs (hl_rho i) S nrm ret := by
  refine hl_arm_ok (as := [hd_vI (xs (i + 1).toNatClampNeg), hd_vI (xs (i + 2).toNatClampNeg)]) (fun S post => ?_) rfl (fun K hK => st_better hJ (xs (i + 1).toNatClampNeg) (xs (i + 2).toNatClampNeg) K hK) hnrm
  simp only [hd_pI, hd_v0, hl_get (xs := xs) h5.1, hl_get (xs := xs) h5.2.1] <;> rfl
def wa_claim (L : Nat) (xs : Nat → Int32) : hd_xS := hl_arm 2 (hd_pI (hd_pI hd_v0 (hd_iS L xs (hd_iB (fun x y => x + y) (hd_iL 3) (hd_iK (1))))) (hd_iS L xs (hd_iB (fun x y => x + y) (hd_iL 3) (hd_iK (2))))) wm_X8_claim wm_X9_claim
theorem ar_claim {L : Nat} {xs : Nat → Int32} {i : Int32} {S : hd_S} {nrm : List hd_V → hd_S → Prop} {ret : Option hd_V → hd_S → Prop} (hJ : hd_J0 S) (h5 : hl_five i L) (hnrm : ∀ S3, hd_J S3 → nrm (hl_rho i) S3) : wa_claim L xs (hl_rho i) S nrm ret := by
  refine hl_arm_ok (as := [hd_vI (xs (i + 1).toNatClampNeg), hd_vI (xs (i + 2).toNatClampNeg)]) (fun S post => ?_) rfl (fun K hK => st_claim hJ (xs (i + 1).toNatClampNeg) (xs (i + 2).toNatClampNeg) K hK) hnrm
  simp only [hd_pI, hd_v0, hl_get (xs := xs) h5.1, hl_get (xs := xs) h5.2.1] <;> rfl
def wa_claimed (L : Nat) (xs : Nat → Int32) : hd_xS := hl_arm 1 (hd_pI hd_v0 (hd_iS L xs (hd_iB (fun x y => x + y) (hd_iL 3) (hd_iK (1))))) wm_X8_claimed wm_X9_claimed
theorem ar_claimed {L : Nat} {xs : Nat → Int32} {i : Int32} {S : hd_S} {nrm : List hd_V → hd_S → Prop} {ret : Option hd_V → hd_S → Prop} (hJ : hd_J0 S) (h5 : hl_five i L) (hnrm : ∀ S3, hd_J S3 → nrm (hl_rho i) S3) : wa_claimed L xs (hl_rho i) S nrm ret := by
  refine hl_arm_ok (as := [hd_vI (xs (i + 1).toNatClampNeg)]) (fun S post => ?_) rfl (fun K hK => st_claimed hJ (xs (i + 1).toNatClampNeg) K hK) hnrm
  simp only [hd_pI, hd_v0, hl_get (xs := xs) h5.1] <;> rfl
def wa_holds (L : Nat) (xs : Nat → Int32) : hd_xS := hl_arm 0 hd_v0 wm_X8_holds wm_X9_holds
theorem ar_holds {L : Nat} {xs : Nat → Int32} {i : Int32} {S : hd_S} {nrm : List hd_V → hd_S → Prop} {ret : Option hd_V → hd_S → Prop} (hJ : hd_J0 S) (h5 : hl_five i L) (hnrm : ∀ S3, hd_J S3 → nrm (hl_rho i) S3) : wa_holds L xs (hl_rho i) S nrm ret := by
  exact hl_arm_ok (as := []) (fun S post => rfl) rfl (fun K hK => st_holds hJ K hK) hnrm
def wa_raise (L : Nat) (xs : Nat → Int32) : hd_xS := hl_arm 0 hd_v0 wm_X8_raise wm_X9_raise
theorem ar_raise {L : Nat} {xs : Nat → Int32} {i : Int32} {S : hd_S} {nrm : List hd_V → hd_S → Prop} {ret : Option hd_V → hd_S → Prop} (hJ : hd_J0 S) (h5 : hl_five i L) (hnrm : ∀ S3, hd_J S3 → nrm (hl_rho i) S3) : wa_raise L xs (hl_rho i) S nrm ret := by
  exact hl_arm_ok (as := []) (fun S post => rfl) rfl (fun K hK => st_raise hJ K hK) hnrm
def wa_fair (L : Nat) (xs : Nat → Int32) : hd_xS := hl_arm 0 hd_v0 wm_X8_fair wm_X9_fair
theorem ar_fair {L : Nat} {xs : Nat → Int32} {i : Int32} {S : hd_S} {nrm : List hd_V → hd_S → Prop} {ret : Option hd_V → hd_S → Prop} (hJ : hd_J0 S) (h5 : hl_five i L) (hnrm : ∀ S3, hd_J S3 → nrm (hl_rho i) S3) : wa_fair L xs (hl_rho i) S nrm ret := by
  exact hl_arm_ok (as := []) (fun S post => rfl) rfl (fun K hK => st_fair hJ K hK) hnrm
def wa_share (L : Nat) (xs : Nat → Int32) : hd_xS := hl_armJ 2 (hd_pI (hd_pI hd_v0 (hd_iS L xs (hd_iB (fun x y => x + y) (hd_iL 3) (hd_iK (1))))) (hd_iS L xs (hd_iB (fun x y => x + y) (hd_iL 3) (hd_iK (2))))) wm_X8_share wm_X9_share
theorem ar_share {L : Nat} {xs : Nat → Int32} {i : Int32} {S : hd_S} {nrm : List hd_V → hd_S → Prop} {ret : Option hd_V → hd_S → Prop} (hJ : hd_J0 S) (h5 : hl_five i L) (hnrm : ∀ S3, hd_J S3 → nrm (hl_rho i) S3) : wa_share L xs (hl_rho i) S nrm ret := by
  refine hl_armJ_ok (as := [hd_vI (xs (i + 1).toNatClampNeg), hd_vI (xs (i + 2).toNatClampNeg)]) (fun S post => ?_) rfl (fun K hK => st_share hJ (xs (i + 1).toNatClampNeg) (xs (i + 2).toNatClampNeg) K hK) hnrm
  simp only [hd_pI, hd_v0, hl_get (xs := xs) h5.1, hl_get (xs := xs) h5.2.1] <;> rfl
def wa_line (L : Nat) (xs : Nat → Int32) : hd_xS := hl_arm 2 (hd_pI (hd_pI hd_v0 (hd_iS L xs (hd_iB (fun x y => x + y) (hd_iL 3) (hd_iK (1))))) (hd_iS L xs (hd_iB (fun x y => x + y) (hd_iL 3) (hd_iK (2))))) wm_X8_line wm_X9_line
theorem ar_line {L : Nat} {xs : Nat → Int32} {i : Int32} {S : hd_S} {nrm : List hd_V → hd_S → Prop} {ret : Option hd_V → hd_S → Prop} (hJ : hd_J0 S) (h5 : hl_five i L) (hnrm : ∀ S3, hd_J S3 → nrm (hl_rho i) S3) : wa_line L xs (hl_rho i) S nrm ret := by
  refine hl_arm_ok (as := [hd_vI (xs (i + 1).toNatClampNeg), hd_vI (xs (i + 2).toNatClampNeg)]) (fun S post => ?_) rfl (fun K hK => st_line hJ (xs (i + 1).toNatClampNeg) (xs (i + 2).toNatClampNeg) K hK) hnrm
  simp only [hd_pI, hd_v0, hl_get (xs := xs) h5.1, hl_get (xs := xs) h5.2.1] <;> rfl
def wa_lineAt (L : Nat) (xs : Nat → Int32) : hd_xS := hl_arm 3 (hd_pI (hd_pI (hd_pI hd_v0 (hd_iS L xs (hd_iB (fun x y => x + y) (hd_iL 3) (hd_iK (1))))) (hd_iS L xs (hd_iB (fun x y => x + y) (hd_iL 3) (hd_iK (2))))) (hd_iS L xs (hd_iB (fun x y => x + y) (hd_iL 3) (hd_iK (3))))) wm_X8_lineAt wm_X9_lineAt
theorem ar_lineAt {L : Nat} {xs : Nat → Int32} {i : Int32} {S : hd_S} {nrm : List hd_V → hd_S → Prop} {ret : Option hd_V → hd_S → Prop} (hJ : hd_J0 S) (h5 : hl_five i L) (hnrm : ∀ S3, hd_J S3 → nrm (hl_rho i) S3) : wa_lineAt L xs (hl_rho i) S nrm ret := by
  refine hl_arm_ok (as := [hd_vI (xs (i + 1).toNatClampNeg), hd_vI (xs (i + 2).toNatClampNeg), hd_vI (xs (i + 3).toNatClampNeg)]) (fun S post => ?_) rfl (fun K hK => st_lineAt hJ (xs (i + 1).toNatClampNeg) (xs (i + 2).toNatClampNeg) (xs (i + 3).toNatClampNeg) K hK) hnrm
  simp only [hd_pI, hd_v0, hl_get (xs := xs) h5.1, hl_get (xs := xs) h5.2.1, hl_get (xs := xs) h5.2.2.1] <;> rfl
def wa_count (L : Nat) (xs : Nat → Int32) : hd_xS := hl_arm 1 (hd_pI hd_v0 (hd_iS L xs (hd_iB (fun x y => x + y) (hd_iL 3) (hd_iK (1))))) wm_X8_count wm_X9_count
theorem ar_count {L : Nat} {xs : Nat → Int32} {i : Int32} {S : hd_S} {nrm : List hd_V → hd_S → Prop} {ret : Option hd_V → hd_S → Prop} (hJ : hd_J0 S) (h5 : hl_five i L) (hnrm : ∀ S3, hd_J S3 → nrm (hl_rho i) S3) : wa_count L xs (hl_rho i) S nrm ret := by
  refine hl_arm_ok (as := [hd_vI (xs (i + 1).toNatClampNeg)]) (fun S post => ?_) rfl (fun K hK => st_count hJ (xs (i + 1).toNatClampNeg) K hK) hnrm
  simp only [hd_pI, hd_v0, hl_get (xs := xs) h5.1] <;> rfl
theorem hl_sw {df : hd_xS} {x : Int32} {ρ : List hd_V} {S : hd_S} {nrm : List hd_V → hd_S → Prop} {ret : Option hd_V → hd_S → Prop} (hd : df ρ S nrm ret) : ∀ (cs : List hd_xS) (k : Nat), (∀ a ∈ cs, a ρ S nrm ret) → hd_sw cs df x k ρ S nrm ret
  | [], _, _ => hd
  | a :: r, k, h => by
    show (if x = Int32.ofNat k then a ρ S nrm ret else hd_sw r df x (k + 1) ρ S nrm ret)
    split
    · exact h a List.mem_cons_self
    · exact hl_sw hd r (k + 1) (fun b hb => h b (List.mem_cons_of_mem _ hb))
def hl_arms (L : Nat) (xs : Nat → Int32) : List hd_xS := [wa_town L xs, wa_hall L xs, wa_people L xs, wa_fine L xs, wa_place L xs, wa_price L xs, wa_room L xs, wa_sheet L xs, wa_lose L xs, wa_way L xs, wa_copy L xs, wa_far L xs, wa_about L xs, wa_undo L xs, wa_open L xs, wa_opened L xs, wa_cost L xs, wa_goes L xs, wa_worst L xs, wa_least L xs, wa_many L xs, wa_best L xs, wa_number L xs, wa_better L xs, wa_claim L xs, wa_claimed L xs, wa_holds L xs, wa_raise L xs, wa_fair L xs, wa_share L xs, wa_line L xs, wa_lineAt L xs, wa_count L xs]
def hl_cond (L : Nat) : hd_xC := hd_cI (fun x y => decide (x ≤ y)) (hd_iL 3) (hd_iB (fun x y => x - y) (hd_iSL L) (hd_iK (6)))
def hl_body (L : Nat) (xs : Nat → Int32) : hd_xS := hd_sQ (hd_sSw (hd_iB (fun x y => x &&& y) (hd_iS L xs (hd_iL 3)) (hd_iK (63))) (hl_arms L xs) hd_s0) (hd_sP 3 (6))
def hl_all (L : Nat) (xs : Nat → Int32) : hd_xS := hd_sQ (hd_sI 3 (hd_iK (0))) (hd_sH (hl_cond L) (hl_body L xs))
theorem hl_ift {t : Bool} {a b : Prop} (h : t = true) (ha : a) : (if t = true then a else b) := by
  rw [if_pos h]
  exact ha
theorem hl_iff {t : Bool} {a b : Prop} (h : t = false) (hb : b) : (if t = true then a else b) := by
  rw [if_neg (by rw [h]; decide)]
  exact hb
theorem hl_le {L j : Nat} (hL : L ≤ 3072) (hj : 6 * j ≤ L) : decide (nI (6 * j) ≤ Int32.ofNat L - 6) = decide (6 * j + 6 ≤ L) := by
  have e : (Int32.ofNat L - 6).toInt = (L : Int) - 6 := by
    have h6 : (6 : Int32).toInt = 6 := by decide
    have hLi : (Int32.ofNat L).toInt = (L : Int) := nI_toInt (n := L) (by omega)
    rw [Int32.toInt_sub, hLi, h6, Int.bmod_eq_of_le (by omega) (by omega)]
  have e2 : (nI (6 * j)).toInt = ((6 * j : Nat) : Int) := nI_toInt (by omega)
  rw [decide_eq_decide, Int32.le_iff_toInt_le, e, e2]
  omega
theorem hl_body_ok {L : Nat} {xs : Nat → Int32} {i : Int32} {S : hd_S} {K : List hd_V → hd_S → Prop} {ret : Option hd_V → hd_S → Prop} (h0 : vp_in i L) (hn : hd_sP 3 6 (hl_rho i) S K ret) (ha : ∀ a ∈ hl_arms L xs, a (hl_rho i) S (fun ρ S => hd_sP 3 6 ρ S K ret) ret) : hl_body L xs (hl_rho i) S K ret := by
  have h : hd_sw (hl_arms L xs) hd_s0 (xs i.toNatClampNeg &&& 63) 0 (hl_rho i) S (fun ρ S => hd_sP 3 6 ρ S K ret) ret := hl_sw (df := hd_s0) (ρ := hl_rho i) (S := S) (nrm := fun ρ S => hd_sP 3 6 ρ S K ret) (ret := ret) (show hd_s0 (hl_rho i) S (fun ρ S => hd_sP 3 6 ρ S K ret) ret from hn) _ 0 ha
  have e : hl_body L xs (hl_rho i) S K ret = ((130 = 130) ∧ vp_in i L ∧ hd_sw (hl_arms L xs) hd_s0 (xs i.toNatClampNeg &&& 63) 0 (hl_rho i) S (fun ρ S => hd_sP 3 6 ρ S K ret) ret) := rfl
  rw [e]
  exact ⟨rfl, h0, h⟩
theorem hl_run {L : Nat} {xs : Nat → Int32} {S : hd_S} {ret : Option hd_V → hd_S → Prop} (hL6 : L ≤ 6) (hJ : hd_J0 S) : hl_all L xs [hd_vR 130, hd_vR 0, hd_vR 113, hd_vN] S (fun _ _ => True) ret := by
  have hL : L ≤ 3072 := by omega
  show hd_sH (hl_cond L) (hl_body L xs) (hl_rho (nI (6 * 0))) S (fun _ _ => True) ret
  refine hd_up (fun j ρ S => (j = 0 → hd_J0 S) ∧ ρ = hl_rho (nI (6 * j))) (L / 6) ?_ ?_ (Nat.zero_le _) ⟨fun _ => hJ, rfl⟩
  · rintro j ρ S K hj ⟨hJ, rfl⟩ hK
    have hJ := hJ (by omega)
    have hb : 6 * j + 6 ≤ L := by omega
    refine ⟨rfl, hl_ift (t := decide (nI (6 * j) ≤ Int32.ofNat L - 6)) (by rw [hl_le hL (by omega)]; exact decide_eq_true hb) ?_⟩
    have hin : ∀ k : Nat, k < 6 → vp_in (nI (6 * j) + nI k) L := fun k hk => by
      rw [nI_add]
      exact vp_in_nI (by omega) (by omega)
    have h5 : hl_five (nI (6 * j)) L := ⟨hin 1 (by decide), hin 2 (by decide), hin 3 (by decide), hin 4 (by decide), hin 5 (by decide)⟩
    have hn : ∀ S3, hd_J S3 → hd_sP 3 6 (hl_rho (nI (6 * j))) S3 K ret := fun S3 _ => hK _ S3 ⟨fun h => absurd h (Nat.succ_ne_zero j), by
      rw [show 6 * (j + 1) = 6 * j + 6 by omega, ← nI_add]
      rfl⟩
    exact hl_body_ok (vp_in_nI (by omega) (by omega)) (hn S (hd_J_of0 hJ)) (List.forall_mem_cons.mpr ⟨ar_town hJ h5 hn, (List.forall_mem_cons.mpr ⟨ar_hall hJ h5 hn, (List.forall_mem_cons.mpr ⟨ar_people hJ h5 hn, (List.forall_mem_cons.mpr ⟨ar_fine hJ h5 hn, (List.forall_mem_cons.mpr ⟨ar_place hJ h5 hn, (List.forall_mem_cons.mpr ⟨ar_price hJ h5 hn, (List.forall_mem_cons.mpr ⟨ar_room hJ h5 hn, (List.forall_mem_cons.mpr ⟨ar_sheet hJ h5 hn, (List.forall_mem_cons.mpr ⟨ar_lose hJ h5 hn, (List.forall_mem_cons.mpr ⟨ar_way hJ h5 hn, (List.forall_mem_cons.mpr ⟨ar_copy hJ h5 hn, (List.forall_mem_cons.mpr ⟨ar_far hJ h5 hn, (List.forall_mem_cons.mpr ⟨ar_about hJ h5 hn, (List.forall_mem_cons.mpr ⟨ar_undo hJ h5 hn, (List.forall_mem_cons.mpr ⟨ar_open hJ h5 hn, (List.forall_mem_cons.mpr ⟨ar_opened hJ h5 hn, (List.forall_mem_cons.mpr ⟨ar_cost hJ h5 hn, (List.forall_mem_cons.mpr ⟨ar_goes hJ h5 hn, (List.forall_mem_cons.mpr ⟨ar_worst hJ h5 hn, (List.forall_mem_cons.mpr ⟨ar_least hJ h5 hn, (List.forall_mem_cons.mpr ⟨ar_many hJ h5 hn, (List.forall_mem_cons.mpr ⟨ar_best hJ h5 hn, (List.forall_mem_cons.mpr ⟨ar_number hJ h5 hn, (List.forall_mem_cons.mpr ⟨ar_better hJ h5 hn, (List.forall_mem_cons.mpr ⟨ar_claim hJ h5 hn, (List.forall_mem_cons.mpr ⟨ar_claimed hJ h5 hn, (List.forall_mem_cons.mpr ⟨ar_holds hJ h5 hn, (List.forall_mem_cons.mpr ⟨ar_raise hJ h5 hn, (List.forall_mem_cons.mpr ⟨ar_fair hJ h5 hn, (List.forall_mem_cons.mpr ⟨ar_share hJ h5 hn, (List.forall_mem_cons.mpr ⟨ar_line hJ h5 hn, (List.forall_mem_cons.mpr ⟨ar_lineAt hJ h5 hn, (List.forall_mem_cons.mpr ⟨ar_count hJ h5 hn, (fun _ h => absurd h List.not_mem_nil)⟩)⟩)⟩)⟩)⟩)⟩)⟩)⟩)⟩)⟩)⟩)⟩)⟩)⟩)⟩)⟩)⟩)⟩)⟩)⟩)⟩)⟩)⟩)⟩)⟩)⟩)⟩)⟩)⟩)⟩)⟩)⟩)⟩)
  · rintro ρ S K ⟨hJ, rfl⟩
    exact ⟨rfl, hl_iff (t := decide (nI (6 * (L / 6)) ≤ Int32.ofNat L - 6)) (by rw [hl_le hL (by omega)]; exact decide_eq_false (by omega)) trivial⟩
