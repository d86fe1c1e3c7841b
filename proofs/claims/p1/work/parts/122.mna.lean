/-! a new array of arrays: eight rows of 256 longs -/
theorem hc_wpNew {E : CtlPost} {e : Env} {d : Bool} {acts : List Action} {s : State} {c comp : ClassId} {k : Class} {ty : FieldType} {len : Nat} {v0 : Value} (hk : s.vm.classes[c]? = some k) (hkind : k.kind = .array comp ty) (h1 : ¬ len > e.platform.arrayLengthLimit) (h2 : ¬ len * componentBytes ty > e.platform.maxHeapBytes) (hf : fits ty v0 = true) (hc : s.heap.size < e.platform.maxCells) (hs : s.slotsUsed + len ≤ e.platform.maxSlots) {Q : Addr → Pre} (hq : ∀ a', Q s.heap.size d a' (s.pushCell { cls := c, slots := Array.replicate len v0, vm := .none })) : wp (Jvm.newArray c len v0) Q E e d acts s := by
  unfold Jvm.newArray Jvm.arrayFits
  simp only [wp_bind', _root_.Jvm.W.ask, _root_.Jvm.W.ite, h1, if_false, wp_pure', _root_.Jvm.W.theClass, hk, hkind, h2, _root_.Jvm.W.alloc, _root_.Jvm.W.stop, Option.some.injEq, exists_eq_left', Array.size_replicate]
  rw [if_neg (by omega)]
  refine ⟨hc, hs, fun i v hv => ?_, hq _⟩
  rw [Array.getElem?_replicate] at hv
  split at hv
  · cases hv
    simp [State.fitsSlot, State.slotType?, hk, hkind, hf]
  · cases hv
/-- the outer row when i of its places are set; the cells as they come -/
def hc_oc (c3 : ClassId) (b : Nat) : Nat → Cell
  | 0 => { cls := c3, slots := Array.replicate 8 .null, vm := .none }
  | i + 1 => (hc_oc c3 b i).setSlot i (.ref (b + 1 + i))
def hc_ic (c1 : ClassId) : Cell := { cls := c1, slots := Array.replicate 256 (.long 0), vm := .none }
def hc_fill (s : State) (c3 c1 : ClassId) : Nat → State
  | 0 => s.pushCell (hc_oc c3 s.heap.size 0)
  | i + 1 => ((hc_fill s c3 c1 i).pushCell (hc_ic c1)).setCell s.heap.size ((hc_oc c3 s.heap.size i).setSlot i (.ref (s.heap.size + 1 + i)))
theorem hc_oc_facts (c3 : ClassId) (b : Nat) : ∀ i, (hc_oc c3 b i).cls = c3 ∧ (hc_oc c3 b i).vm = .none ∧ (hc_oc c3 b i).slots.size = 8 ∧ ∀ j, j < 8 → (hc_oc c3 b i).slots[j]? = some (if j < i then .ref (b + 1 + j) else .null)
  | 0 => ⟨rfl, rfl, by simp [hc_oc], fun j hj => by simp [hc_oc, hj]⟩
  | i + 1 => by
    obtain ⟨h1, h2, h3, h4⟩ := hc_oc_facts c3 b i
    refine ⟨by simp [hc_oc, Cell.setSlot, h1], by simp [hc_oc, Cell.setSlot, h2], by simp [hc_oc, Cell.setSlot, h3], fun j hj => ?_⟩
    show ((hc_oc c3 b i).slots.setIfInBounds i (.ref (b + 1 + i)))[j]? = _
    rw [Array.getElem?_setIfInBounds]
    by_cases hij : i = j
    · subst hij
      rw [if_pos rfl, if_pos (by rw [h3]; exact hj), if_pos (Nat.lt_succ_self _)]
    · rw [if_neg hij, h4 j hj]
      by_cases hl : j < i
      · rw [if_pos hl, if_pos (by omega)]
      · rw [if_neg hl, if_neg (by omega)]
theorem hc_fill_facts (s : State) (c3 c1 : ClassId) : ∀ i, (hc_fill s c3 c1 i).vm = s.vm ∧ (hc_fill s c3 c1 i).heap.size = s.heap.size + 1 + i ∧ (hc_fill s c3 c1 i).slotsUsed = s.slotsUsed + 8 + i * 256 ∧ (hc_fill s c3 c1 i).heap[s.heap.size]? = some (hc_oc c3 s.heap.size i) ∧ (∀ a : Nat, a < s.heap.size → (hc_fill s c3 c1 i).heap[a]? = s.heap[a]?) ∧ ∀ j : Nat, j < i → (hc_fill s c3 c1 i).heap[s.heap.size + 1 + j]? = some (hc_ic c1)
  | 0 => ⟨rfl, by simp [hc_fill], by simp [hc_fill, hc_oc], by simp [hc_fill], fun a ha => State.heap_pushCell_of_lt _ _ ha, fun j hj => absurd hj (Nat.not_lt_zero _)⟩
  | i + 1 => by
    obtain ⟨h1, h2, h3, h4, h5, h6⟩ := hc_fill_facts s c3 c1 i
    have hb : ((hc_fill s c3 c1 i).pushCell (hc_ic c1)).heap[s.heap.size]? = some (hc_oc c3 s.heap.size i) := by
      rw [State.heap_pushCell_of_lt (h := show s.heap.size < (hc_fill s c3 c1 i).heap.size by omega)]
      exact h4
    refine ⟨by simp [hc_fill, h1], ?_, ?_, State.heap_setCell_self hb, fun a ha => ?_, fun j hj => ?_⟩
    · simp [hc_fill, State.setCell, h2]
      omega
    · simp [hc_fill, h3, hc_ic]
      omega
    · show (((hc_fill s c3 c1 i).pushCell (hc_ic c1)).setCell s.heap.size _).heap[a]? = _
      rw [State.heap_setCell_other (show s.heap.size ≠ a by omega), State.heap_pushCell_of_lt (h := show a < (hc_fill s c3 c1 i).heap.size by omega)]
      exact h5 a ha
    · show (((hc_fill s c3 c1 i).pushCell (hc_ic c1)).setCell s.heap.size _).heap[s.heap.size + 1 + j]? = _
      rw [State.heap_setCell_other (show s.heap.size ≠ s.heap.size + 1 + j by omega)]
      by_cases hji : j = i
      · subst hji
        rw [← h2]
        exact State.heap_pushCell_size _ _
      · rw [State.heap_pushCell_of_lt (h := show s.heap.size + 1 + j < (hc_fill s c3 c1 i).heap.size by omega)]
        exact h6 j (by omega)
theorem hc_fill_top (s : State) (f : JFrame) (c3 c1 : ClassId) : ∀ i, hc_fill (s.setTop f) c3 c1 i = (hc_fill s c3 c1 i).setTop f
  | 0 => rfl
  | i + 1 => by simp only [hc_fill, hc_fill_top s f c3 c1 i, State.heap_setTop, State.pushCell_setTop, State.setCell_setTop]
theorem hc_fill_stand {p : Program} {l : Launch} {e : Env} {R : Room} {s : State} {m : MethodId} {args : Array Value} {below : List Frame} {meth : Method} {c : Code} {T : State} {locs : List Loc} {cells slots : Nat} (X : Stand p l e R s m args below meth c T locs cells slots) (c3 c1 : ClassId) :
    ∀ i, Stand p l e R s m args below meth c (hc_fill T c3 c1 i) (locs ++ (List.range i).map fun j => ⟨T.heap.size, j⟩) (cells + 1 + i) (slots + 8 + i * 256)
  | 0 => by
    have h := X.pushed (hc_oc c3 T.heap.size 0)
    rw [(hc_oc_facts c3 T.heap.size 0).2.2.1] at h
    simpa [hc_fill] using h
  | i + 1 => by
    have Xi := hc_fill_stand X c3 c1 i
    obtain ⟨h1, h2, h3, h4, h5, h6⟩ := hc_fill_facts T c3 c1 i
    have hb : ((hc_fill T c3 c1 i).pushCell (hc_ic c1)).heap[T.heap.size]? = some (hc_oc c3 T.heap.size i) := by
      rw [State.heap_pushCell_of_lt (h := show T.heap.size < (hc_fill T c3 c1 i).heap.size by omega)]
      exact h4
    have h := (Xi.pushed (hc_ic c1)).stored hb i (.ref (T.heap.size + 1 + i))
    have e1 : (hc_ic c1).slots.size = 256 := by simp [hc_ic]
    rw [e1] at h
    have e2 : (locs ++ (List.range (i + 1)).map fun j => (⟨T.heap.size, j⟩ : Loc)) = (locs ++ (List.range i).map fun j => (⟨T.heap.size, j⟩ : Loc)) ++ [⟨T.heap.size, i⟩] := by simp [List.range_succ, List.append_assoc]
    have e3 : slots + 8 + (i + 1) * 256 = slots + 8 + i * 256 + 256 := by omega
    rw [e2, e3]
    exact h
theorem hc_wpRow {E : CtlPost} {e : Env} {d : Bool} {acts : List Action} {s : State} {c1 cB : ClassId} {k : Class} (hk : s.vm.classes[c1]? = some k) (hkind : k.kind = .array cB .long) (h1 : ¬ 256 > e.platform.arrayLengthLimit) (h2 : ¬ 256 * 8 > e.platform.maxHeapBytes) (hc : s.heap.size < e.platform.maxCells) (hs : s.slotsUsed + 256 ≤ e.platform.maxSlots) {Q : Addr → Pre} (hq : ∀ a', Q s.heap.size d a' (s.pushCell (hc_ic c1))) : wp (multianewarray.make c1 [256]) Q E e d acts s := by
  rw [multianewarray.make]
  simp only [wp_bind', _root_.Jvm.W.ite, show ¬ ((256 : Int32) < 0) by decide, if_false, wp_pure', _root_.Jvm.W.theClass, hk, hkind, Option.some.injEq, exists_eq_left']
  exact hc_wpNew hk hkind h1 h2 rfl hc hs hq
theorem hc_wpRows {E : CtlPost} {e : Env} {d : Bool} {acts : List Action} {s : State} {c3 c1 cB : ClassId} {kA kB : Class} (hkA : s.vm.classes[c3]? = some kA) (hkindA : kA.kind = .array c1 (.array .long)) (hkB : s.vm.classes[c1]? = some kB) (hkindB : kB.kind = .array cB .long) (h1 : ¬ 256 > e.platform.arrayLengthLimit) (h2 : ¬ 256 * 8 > e.platform.maxHeapBytes) (hc : s.heap.size + 9 ≤ e.platform.maxCells) (hs : s.slotsUsed + 2056 ≤ e.platform.maxSlots) {Q : Addr → Pre} (hq : ∀ d' a', Q s.heap.size d' a' (hc_fill s c3 c1 8)) : wp (multianewarray.make c3 [8, 256]) Q E e d acts s := by
  rw [multianewarray.make]
  simp only [wp_bind', _root_.Jvm.W.ite, show ¬ ((8 : Int32) < 0) by decide, if_false, wp_pure', _root_.Jvm.W.theClass, hkA, hkindA, Option.some.injEq, exists_eq_left']
  refine hc_wpNew (len := 8) hkA hkindA (by omega) (by show ¬ 8 * 4 > _; omega) rfl (by omega) (by omega) (fun a' => ?_)
  simp only [show ((8 : Int32) == 0) = false by decide, Bool.false_eq_true, if_false, wp_bind', wp_pure']
  rw [Std.Legacy.Range.forIn_eq_forIn_range']
  have hsz : ([:(8 : Int32).toNatClampNeg] : Std.Legacy.Range).size = 8 := by decide
  rw [hsz]
  refine wp_forIn_inv (fun rest s' => ∃ i, i ≤ 8 ∧ rest = List.range' i (8 - i) ∧ s' = hc_fill s c3 c1 i) _ _ ⟨0, by decide, rfl, rfl⟩ ?_ ?_
  · rintro x rest s' d' acts' Q' ⟨i, hi, hl, rfl⟩ hnext
    have hlt : i < 8 := by
      rcases Nat.lt_or_ge i 8 with h | h
      · exact h
      · rw [show 8 - i = 0 by omega] at hl
        cases hl
    rw [show 8 - i = (8 - (i + 1)) + 1 by omega, List.range'_succ] at hl
    obtain ⟨rfl, hrest⟩ := List.cons.inj hl
    obtain ⟨g1, g2, g3, g4, g5, g6⟩ := hc_fill_facts s c3 c1 x
    obtain ⟨o1, o2, o3, o4⟩ := hc_oc_facts c3 s.heap.size x
    simp only [wp_bind']
    refine hc_wpRow (by rw [g1]; exact hkB) hkindB h1 h2 (by omega) (by omega) (fun a2 => ?_)
    simp only [wp_bind', _root_.Jvm.W.writeLoc, wp_pure']
    refine ⟨hc_oc c3 s.heap.size x, by rw [State.heap_pushCell_of_lt (h := show s.heap.size < (hc_fill s c3 c1 x).heap.size by omega)]; exact g4, by rw [o2]; simp, by rw [o3]; exact hlt, ?_, hnext _ _ _ ⟨x + 1, hlt, hrest, ?_⟩⟩
    · rw [o1, o2]
      simp [State.fitsSlot, State.slotType?, g1, hkA, hkindA, fits]
    · rw [g2]
      rfl
  · rintro s' d' acts' ⟨i, hi, hl, rfl⟩
    have hi8 : i = 8 := by
      rcases Nat.lt_or_ge i 8 with h | h
      · rw [show 8 - i = (8 - (i + 1)) + 1 by omega, List.range'_succ] at hl
        cases hl
      · omega
    subst hi8
    exact hq _ _
/-- the rows as a world has them -/
def hc_rows (cA : Nat → ClassId) (q : Nat) : va_W := (q, .inl (cA 3, 8, .inr (.inr (.inr (.inr (fun i => some (q + 1 + i))))))) :: (List.range 8).map (fun i => (q + 1 + i, .inl (cA 1, 256, .inr (.inl (fun _ => 0)))))
theorem hc_cell3 {c3 : ClassId} {b : Nat} : hc_oc c3 b 8 = vp_cell c3 (8, .inr (.inr (.inr (.inr (fun i => some (b + 1 + i)))))) := by
  obtain ⟨h1, h2, h3, h4⟩ := hc_oc_facts c3 b 8
  rw [vp_cell_q]
  rfl
theorem hc_rep (n : Nat) (v : Value) : Array.replicate n v = Array.ofFn (n := n) (fun _ => v) := by
  apply Array.ext
  · simp
  · intro i h1 h2
    simp
theorem hc_cell1 {c1 : ClassId} : hc_ic c1 = vp_cell c1 (256, .inr (.inl (fun _ => 0))) := by
  rw [vp_cell_l]
  unfold hc_ic arrV
  rw [hc_rep]
set_option maxHeartbeats 4000000 in
theorem hc_mna {p : Program} {l : Launch} {e : Env} {R : Room} {s : State} {m : MethodId} {args : Array Value} {below : List Frame} {meth : Method} {c : Code} {H : Heap} {locs : List Loc} {cells slots : Nat} {Q : State → Prop} {cc : ByteArray} {pc : Nat} {ls : Array Slot} {rest : List Value} {D : va_G} {cl : List vw_C} {A : Nat → Prop} {ws : va_W} {cA : Nat → ClassId}
    (hexec : p.tables.exec = Jvm.exec) (hb : c.code = cc) {own : String} {index : Nat} (hown : s.vm.findClass own = some m.cls) (hclink : (Cond.classLink own index "[[J").before args s = true) (h3 : hc_A3 (cA 1) (cA 3) s) (hP : va_P D cl ws H) (hD : va_D A ws) (hS : va_S A s.heap H locs) (hA : ∀ q, s.heap.size ≤ q → A q) (hcells : cells + 9 ≤ R.cells) (hslots : slots + 2056 ≤ R.slots) (hdg : decode cc pc = .ok (.multianewarray index 2, 4))
    (kk : ∀ (q : Nat) (H1 : Heap), va_P D cl (ws ++ hc_rows cA q) H1 → va_D A (ws ++ hc_rows cA q) → va_S A s.heap H1 locs → W p l e R s m args below meth c H1 locs (cells + 9) (slots + 2056) Q (F0 m (pc + 4) ls (.ref q :: rest))) : W p l e R s m args below meth c H locs cells slots Q (F0 m pc ls (.int 256 :: .int 8 :: rest)) := by
  intro T hT X
  subst hT
  obtain ⟨kA, kB, cB, hkA, hkindA, hnA, hkB, hkindB, hnB⟩ := h3
  have hpl : e.platform.magicAccessors = ({} : Platform).magicAccessors := by rw [X.admits.platform]
  obtain ⟨c0, hfc0, hcl0⟩ := Cond.classLink_spec hown hclink e.platform hpl
  have ec : c0 = cA 3 := Option.some.inj (hfc0.symm.trans hnA)
  subst ec
  obtain ⟨hg1, hwarm1, -⟩ := State.classEntry (e := e) X.warmed hcl0
  generalize T.vm.noted m.cls index (.cls (cA 3)) = vm1 at hg1 hwarm1
  obtain ⟨kA1, hkA1, eA⟩ := hwarm1.alike.2.2 _ _ hkA
  obtain ⟨kB1, hkB1, eB⟩ := hwarm1.alike.2.2 _ _ hkB
  have hkindA1 : kA1.kind = .array (cA 1) (.array .long) := by rw [eA]; exact hkindA
  have hkindB1 : kB1.kind = .array cB .long := by rw [eB]; exact hkindB
  have X1 := X.noted hwarm1
  obtain ⟨hr1, hr2⟩ := X.roomAbove hcells hslots
  have XF := hc_fill_stand X1 (cA 3) (cA 1) 8
  have XG := XF.dropFresh (fun x hx => by
    obtain ⟨j, -, rfl⟩ := List.mem_map.mp hx
    exact X.heapGrown)
  obtain ⟨g1, g2, g3, g4, g5, g6⟩ := hc_fill_facts (T.setVm vm1) (cA 3) (cA 1) 8
  have hth : (T.setVm vm1).heap = T.heap := rfl
  rw [hth] at g2 g4 g5 g6
  generalize hF : hc_fill (T.setVm vm1) (cA 3) (cA 1) 8 = F at XG XF g1 g2 g3 g4 g5 g6
  have hl1 : ¬ 256 > e.platform.arrayLengthLimit := by rw [Launch.admits_arrayLengthLimit X.admits]; decide
  have hl2 : ¬ 256 * 8 > e.platform.maxHeapBytes := by rw [Launch.admits_maxHeapBytes X.admits]; decide
  have old : va_P D cl ws F.heap := fun k q hq => by
    have h9 := hP k q hq
    exact h9.kept (g5 q.1 h9.lt)
  have news : va_P D cl (hc_rows cA T.heap.size) F.heap := by
    intro k q hq
    cases k with
    | zero =>
      cases hq
      show F.heap[T.heap.size]? = some (vp_cell _ _)
      rw [g4, hc_cell3]
    | succ k =>
      have hq2 : ((List.range 8).map (fun i => ((T.heap.size + 1 + i, .inl (cA 1, 256, .inr (.inl (fun _ => 0)))) : Nat × va_E)))[k]? = some q := hq
      rw [List.getElem?_map] at hq2
      by_cases hk : k < 8
      · rw [List.getElem?_range hk] at hq2
        cases hq2
        show F.heap[T.heap.size + 1 + k]? = some (vp_cell _ _)
        rw [g6 k hk, hc_cell1]
      · rw [List.getElem?_eq_none (by simpa using hk)] at hq2
        cases hq2
  have addr : ∀ (k : Nat) (q : Nat × va_E), (hc_rows cA T.heap.size)[k]? = some q → q.1 = T.heap.size + k := by
    intro k q hq
    cases k with
    | zero =>
      cases hq
      rfl
    | succ k =>
      have hq2 : ((List.range 8).map (fun i => ((T.heap.size + 1 + i, .inl (cA 1, 256, .inr (.inl (fun _ => 0)))) : Nat × va_E)))[k]? = some q := hq
      rw [List.getElem?_map] at hq2
      by_cases hk : k < 8
      · rw [List.getElem?_range hk] at hq2
        cases hq2
        show T.heap.size + 1 + k = T.heap.size + (k + 1)
        omega
      · rw [List.getElem?_eq_none (by simpa using hk)] at hq2
        cases hq2
  have newD : va_D A (hc_rows cA T.heap.size) := ⟨fun i j x y hx hy hxy => by
      have h1 := addr i x hx
      have h2 := addr j y hy
      omega, fun k q hq => hA _ (by
      have h1 := addr k q hq
      have := X.heapGrown
      omega)⟩
  have allD : va_D A (ws ++ hc_rows cA T.heap.size) := hD.app newD (fun i j x y hx hy hxy => by
    have h1 := addr j y hy
    have h2 := (hP i x hx).lt
    omega)
  have hS2 : va_S A s.heap F.heap locs := ⟨by have := X.heapGrown; omega, fun q h1 h2 => by rw [g5 q (Nat.lt_of_lt_of_le h1 X.heapGrown)]; exact hS.2.1 q h1 h2, hS.2.2⟩
  obtain ⟨t, st, hQ⟩ := kk T.heap.size F.heap (old.app news) allD hS2 F rfl XG
  refine ⟨t, ?_, hQ⟩
  have hdg' : decode c.code pc = .ok (.multianewarray index 2, 4) := by rw [hb]; exact hdg
  jvm_step X.here [hexec, hdg']
  simp only [multianewarray.sem, wp_bind', _root_.Jvm.W.resolveClassAt_links (State.method?_setTop (F0 m pc ls (.int 256 :: .int 8 :: rest)) X.here.top) hg1]
  rw [_root_.Jvm.W.popN, if_neg (by decide)]
  refine ⟨F0 m pc ls (.int 256 :: .int 8 :: rest), State.topJava?_setTop' (s := T.setVm vm1) _ X.here.top, [.int 8, .int 256], rest, rfl, rfl, ?_⟩
  simp only [List.mapM_cons, List.mapM_nil, wp_bind', wp_pure']
  refine hc_wpRows hkA1 hkindA1 hkB1 hkindB1 hl1 hl2 (by show T.heap.size + 9 ≤ _; omega) (by show T.slotsUsed + 2056 ≤ _; omega) (fun d' a' => ?_)
  have eS : ((T.setTop (F0 m pc ls (.int 256 :: .int 8 :: rest))).setVm vm1).setTop { F0 m pc ls (.int 256 :: .int 8 :: rest) with stack := rest } = (T.setVm vm1).setTop { F0 m pc ls (.int 256 :: .int 8 :: rest) with stack := rest } := by
    show ((T.setVm vm1).setTop _).setTop _ = _
    rw [State.setTop_setTop]
  rw [eS, hc_fill_top, hF]
  simp only [wp_bind', _root_.Jvm.W.mark, _root_.Jvm.W.pushRef, State.topJava?_setTop' _ XF.here.top, Option.some.injEq, exists_eq_left', State.setTop_setTop, State.heap_setTop]
  intro acts
  simp [jvm, XF.here.top]
  exact st
