/-! new int[8][7] -/
section MNA
variable {E : CtlPost} {e : Env} {d : Bool} {acts : List Action} {s : State}
theorem mn_na {c comp : ClassId} {k : Class} {ty : FieldType} {len : Nat} {init : Value} (hk : s.vm.classes[c]? = some k) (hkind : k.kind = .array comp ty) (hlimit : ¬ len > e.platform.arrayLengthLimit) (hheap : ¬ len * componentBytes ty > e.platform.maxHeapBytes) (hfit : fits ty init = true) (hdef : init.isDefault = true) {Q : Addr → Pre}
    (h1 : s.heap.size < e.platform.maxCells) (h2 : s.slotsUsed + len ≤ e.platform.maxSlots)
    (hq : Q s.heap.size d acts (s.pushCell { cls := c, slots := Array.replicate len init, vm := .none })) : wp (Jvm.newArray c len init) Q E e d acts s := by
  have ha : allocActs (Array.replicate len init) s.heap.size acts = acts := by
    unfold allocActs
    rw [if_pos (by rw [Array.all_replicate]; split <;> simp [hdef])]
  have hf : ∀ i v, (Array.replicate len init)[i]? = some v → s.fitsSlot c .none i v = true := by
    intro i v hv
    rw [Array.getElem?_replicate] at hv
    split at hv
    · cases hv
      simp [State.fitsSlot, State.slotType?, hk, hkind, hfit]
    · cases hv
  simp only [Jvm.newArray, Jvm.arrayFits, wp_bind', W.ask, W.ite, hlimit, if_false, wp_pure', W.theClass, hk, hkind, hheap, W.alloc, W.stop, Option.some.injEq, exists_eq_left', Array.size_replicate, ha]
  rw [if_neg (by omega)]
  exact ⟨h1, h2, hf, hq⟩
/-- the outer row at a, i of its places filled; a row; the state then -/
def mnO (cA : ClassId) (a : Nat) : Nat → Cell
  | 0 => { cls := cA, slots := Array.replicate 8 .null, vm := .none }
  | i + 1 => (mnO cA a i).setSlot i (.ref (a + 1 + i))
def mnR (cI : ClassId) : Cell := { cls := cI, slots := Array.replicate 7 (.int 0), vm := .none }
def mnS (T : State) (cA cI : ClassId) : Nat → State
  | 0 => T.pushCell (mnO cA T.heap.size 0)
  | i + 1 => ((mnS T cA cI i).pushCell (mnR cI)).setCell T.heap.size (mnO cA T.heap.size (i + 1))
theorem mnO_is (cA : ClassId) (a : Nat) (i : Nat) : (mnO cA a i).cls = cA ∧ (mnO cA a i).vm = .none ∧ (mnO cA a i).slots.size = 8 := by
  induction i with
  | zero => exact ⟨rfl, rfl, by simp [mnO]⟩
  | succ i ih => exact ⟨ih.1, ih.2.1, by show ((mnO cA a i).slots.setIfInBounds i _).size = 8; rw [Array.size_setIfInBounds]; exact ih.2.2⟩
theorem mnS_is (T : State) (cA cI : ClassId) (i : Nat) : (mnS T cA cI i).heap.size = T.heap.size + 1 + i ∧ (mnS T cA cI i).heap[T.heap.size]? = some (mnO cA T.heap.size i) ∧ (mnS T cA cI i).vm = T.vm ∧ (mnS T cA cI i).slotsUsed = T.slotsUsed + 8 + i * 7 ∧ ∀ a : Nat, a < T.heap.size → (mnS T cA cI i).heap[a]? = T.heap[a]? := by
  induction i with
  | zero => exact ⟨by simp [mnS], by simp [mnS], rfl, by simp [mnS, mnO], fun a h => State.heap_pushCell_of_lt _ _ h⟩
  | succ i ih =>
    obtain ⟨h1, h2, h3, h4, h5⟩ := ih
    have hlt : T.heap.size < (mnS T cA cI i).heap.size := by omega
    have hc : ((mnS T cA cI i).pushCell (mnR cI)).heap[T.heap.size]? = some (mnO cA T.heap.size i) := (State.heap_pushCell_of_lt _ _ hlt).trans h2
    refine ⟨?_, State.heap_setCell_self hc, by simp [mnS, h3], ?_, fun a ha => ?_⟩
    · show (((mnS T cA cI i).pushCell (mnR cI)).setCell _ _).heap.size = _
      rw [size_setCell, size_pushCell, h1]
      omega
    · simp [mnS, h4, mnR, Nat.succ_mul]
      omega
    · show (((mnS T cA cI i).pushCell (mnR cI)).setCell _ _).heap[a]? = _
      rw [State.heap_setCell_other (Nat.ne_of_gt ha), State.heap_pushCell_of_lt _ _ (Nat.lt_trans ha hlt)]
      exact h5 a ha
theorem mnS_top (T : State) (f : JFrame) (cA cI : ClassId) (i : Nat) : mnS (T.setTop f) cA cI i = (mnS T cA cI i).setTop f := by
  induction i with
  | zero => rfl
  | succ i ih => simp only [mnS, ih, State.heap_setTop, State.pushCell_setTop, State.setCell_setTop]
theorem mn_row {cI cc : ClassId} {kI : Class} (hk : s.vm.classes[cI]? = some kI) (hkind : kI.kind = .array cc .int) (hl : ¬ 7 > e.platform.arrayLengthLimit) (hh : ¬ 28 > e.platform.maxHeapBytes) (h1 : s.heap.size < e.platform.maxCells) (h2 : s.slotsUsed + 7 ≤ e.platform.maxSlots)
    {Q : Addr → Pre} (hq : Q s.heap.size d acts (s.pushCell (mnR cI))) : wp (multianewarray.make cI [7]) Q E e d acts s := by
  rw [multianewarray.make]
  simp only [wp_bind', W.ite, show ¬ (7 : Int32) < 0 by decide, if_false, wp_pure', W.theClass, hk, hkind, Option.some.injEq, exists_eq_left']
  exact mn_na (len := 7) hk hkind hl hh rfl rfl h1 h2 hq
theorem mn_all {cA cI cc : ClassId} {kA kI : Class} (hkA : s.vm.classes[cA]? = some kA) (hA : kA.kind = .array cI (.array .int)) (hkI : s.vm.classes[cI]? = some kI) (hI : kI.kind = .array cc .int) (hl : ¬ 8 > e.platform.arrayLengthLimit) (hh : ¬ 32 > e.platform.maxHeapBytes) (h1 : s.heap.size + 9 ≤ e.platform.maxCells) (h2 : s.slotsUsed + 64 ≤ e.platform.maxSlots)
    {Q : Addr → Pre} (hq : ∀ d' acts', Q s.heap.size d' acts' (mnS s cA cI 8)) : wp (multianewarray.make cA [8, 7]) Q E e d acts s := by
  rw [multianewarray.make]
  simp only [wp_bind', W.ite, show ¬ (8 : Int32) < 0 by decide, if_false, wp_pure', W.theClass, hkA, hA, Option.some.injEq, exists_eq_left']
  refine mn_na (len := 8) hkA hA hl hh rfl rfl (by omega) (by omega) ?_
  have hn : ([7].find? (fun x : Int32 => decide (x < 0))) = none := by decide
  simp only [hn]
  rw [ite_self, wp_bind', Std.Legacy.Range.forIn_eq_forIn_range']
  refine wp_forIn_inv (fun rest u => ∃ i, i ≤ 8 ∧ rest = List.range' i (8 - i) ∧ u = mnS s cA cI i) _ _ ⟨0, Nat.zero_le 8, rfl, rfl⟩ ?_ ?_
  · rintro x rest u d' acts' Q' ⟨i, hi, hr, rfl⟩ hn
    have hi8 : i < 8 := by
      rcases Nat.lt_or_ge i 8 with h | h
      · exact h
      · rw [show 8 - i = 0 by omega] at hr; cases hr
    rw [show 8 - i = (8 - (i + 1)) + 1 by omega, List.range'_succ] at hr
    obtain ⟨rfl, hrest⟩ := List.cons.inj hr
    obtain ⟨f1, f2, f3, f4, f5⟩ := mnS_is s cA cI x
    obtain ⟨o1, o2, o3⟩ := mnO_is cA s.heap.size x
    have hlt : s.heap.size < (mnS s cA cI x).heap.size := by omega
    simp only [wp_bind']
    refine mn_row (by rw [f3]; exact hkI) hI (by omega) (by omega) (by omega) (by rw [f4]; omega) ?_
    simp only [wp_bind', W.writeLoc, wp_pure']
    refine ⟨mnO cA s.heap.size x, (State.heap_pushCell_of_lt _ _ hlt).trans f2, by rw [o2]; simp, by rw [o3]; exact hi8, ?_, hn _ _ _ ⟨x + 1, hi8, hrest, ?_⟩⟩
    · rw [o1, o2]
      simp [State.fitsSlot, State.slotType?, f3, hkA, hA]
      rfl
    · rw [f1]; rfl
  · rintro u d' acts' ⟨i, hi, hr, rfl⟩
    have hi8 : i = 8 := by
      rcases Nat.lt_or_ge i 8 with h | h
      · rw [show 8 - i = (8 - (i + 1)) + 1 by omega, List.range'_succ] at hr; cases hr
      · omega
    subst hi8
    exact hq _ _
end MNA
section MNW
variable {p : Program} {l : Launch} {e : Env} {R : Room} {s : State} {m : MethodId} {args : Array Value} {below : List Frame} {meth : Method} {c : Code} {H : Heap} {locs : List Loc} {cells slots : Nat} {Q : State → Prop} {T : State}
variable {cc : ByteArray} {pc : Nat} {ls : Array Slot} {rest : List Value} {dC : Nat → ClassId} {dI : Nat → Nat → Nat} {A : Nat → Prop} {H0 : Heap} {ws : va_W}
theorem mn_stand (X : Stand p l e R s m args below meth c T locs cells slots) (cA cI : ClassId) (i : Nat) : Stand p l e R s m args below meth c (mnS T cA cI i) locs (cells + 1 + i) (slots + 8 + i * 7) := by
  induction i with
  | zero =>
    have h := X.pushed (mnO cA T.heap.size 0)
    rw [show (mnO cA T.heap.size 0).slots.size = 8 from (mnO_is cA T.heap.size 0).2.2] at h
    exact h
  | succ i ih =>
    obtain ⟨h1, h2, -, -, -⟩ := mnS_is T cA cI i
    have hc : ((mnS T cA cI i).pushCell (mnR cI)).heap[T.heap.size]? = some (mnO cA T.heap.size i) := (State.heap_pushCell_of_lt _ _ (show T.heap.size < (mnS T cA cI i).heap.size by rw [h1]; omega)).trans h2
    have h := (ih.pushed (mnR cI)).stored hc i (.ref (T.heap.size + 1 + i))
    rw [show (mnR cI).slots.size = 7 by simp [mnR]] at h
    have h3 := Stand.forget (extra := [⟨T.heap.size, i⟩]) h (fun y hy => by
      rcases List.mem_cons.mp hy with rfl | hy
      · exact X.heapGrown
      · cases hy)
    exact stand_widen h3 (by omega) (by omega)
/-- new int[8][7] -/
theorem nw_m (hexec : p.tables.exec = Jvm.exec) (hb : c.code = cc) {own : String} {index : Nat} (hown : s.vm.findClass own = some m.cls) (hclink : (Cond.classLink own index "[[I").before args s = true) (hmn : mnP s) (hP : va_P (dC, dI) vwCl ws H) (hD : va_D A ws) (hS : va_S A H0 H locs)
    (hcells : cells + 9 ≤ R.cells) (hslots : slots + 64 ≤ R.slots) (hdg : decode cc pc = .ok (.multianewarray index 2, 4))
    (kk : ∀ (q : Nat) (H1 : Heap), va_P (dC, dI) vwCl ws H1 → va_D A ws → va_S A H0 H1 locs →
      W p l e R s m args below meth c H1 locs (cells + 9) (slots + 64) Q (F0 m (pc + 4) ls (.ref q :: rest))) : W p l e R s m args below meth c H locs cells slots Q (F0 m pc ls (.int 7 :: .int 8 :: rest)) := by
  intro T hT X
  have hpl : e.platform.magicAccessors = ({} : Platform).magicAccessors := by rw [X.admits.platform]
  obtain ⟨cA, cI, kA, kI, cq, m1, m2, m3, m4, m5⟩ := hmn
  obtain ⟨c0, hfc0, hcl⟩ := Cond.classLink_spec hown hclink e.platform hpl
  cases m1.symm.trans hfc0
  obtain ⟨hg1, hwarm, -⟩ := State.classEntry (e := e) X.warmed hcl
  generalize T.vm.noted m.cls index (.cls cA) = vm1 at hg1 hwarm
  have X1 := X.noted hwarm
  obtain ⟨kA1, hkA1, eA⟩ := hwarm.alike.2.2 _ _ m2
  obtain ⟨kI1, hkI1, eI⟩ := hwarm.alike.2.2 _ _ m4
  obtain ⟨r1, r2⟩ := X.roomAbove hcells hslots
  have XF := mn_stand X1 cA cI 8
  obtain ⟨f1, f2, f3, f4, f5⟩ := mnS_is (T.setVm vm1) cA cI 8
  have hsz : (T.setVm vm1).heap.size = H.size := by show T.heap.size = _; rw [hT]
  have hold : ∀ a : Nat, a < H.size → (mnS (T.setVm vm1) cA cI 8).heap[a]? = H[a]? := fun a h => by
    rw [f5 a (by rw [hsz]; exact h)]
    show T.heap[a]? = _
    rw [hT]
  obtain ⟨t, a1, b1⟩ := kk T.heap.size (mnS (T.setVm vm1) cA cI 8).heap (hP.kept (fun k q hk => hold q.1 ((hP k q hk).lt))) hD ⟨Nat.le_trans hS.1 (by rw [f1, hsz]; omega), fun q h1 h2 => (hold q (Nat.lt_of_lt_of_le h1 hS.1)).trans (hS.2.1 q h1 h2), hS.2.2⟩ _ rfl (stand_widen XF (by omega) (by omega))
  refine ⟨t, ?_, b1⟩
  have hl8 : ¬ 8 > e.platform.arrayLengthLimit := by rw [Launch.admits_arrayLengthLimit X.admits]; omega
  have hh8 : ¬ 32 > e.platform.maxHeapBytes := by rw [Launch.admits_maxHeapBytes X.admits]; omega
  jvm_step X.here [hexec, hb, hdg]
  simp only [multianewarray.sem, wp_bind', W.resolveClassAt_links (t := T.setTop (F0 m pc ls (.int 7 :: .int 8 :: rest))) (mm := m) (vm' := vm1) (State.method?_setTop (F0 m pc ls (.int 7 :: .int 8 :: rest)) X.here.top) hg1]
  rw [W.popN, if_neg (by decide)]
  refine ⟨F0 m pc ls (.int 7 :: .int 8 :: rest), State.topJava?_setTop' (s := T.setVm vm1) _ X.here.top, [.int 8, .int 7], rest, rfl, rfl, ?_⟩
  simp only [List.mapM_cons, List.mapM_nil, wp_bind', wp_pure']
  refine mn_all (kA := kA1) (kI := kI1) (cc := cq) hkA1 (by rw [eA]; exact m3) hkI1 (by rw [eI]; exact m5) hl8 hh8 (by show T.heap.size + 9 ≤ _; exact r1) (by show T.slotsUsed + 64 ≤ _; exact r2) (fun d' acts' => ?_)
  have eS : ∀ f f' : JFrame, ((T.setTop f).setVm vm1).setTop f' = (T.setVm vm1).setTop f' := fun f f' => by
    show ((T.setVm vm1).setTop f).setTop f' = _
    rw [State.setTop_setTop]
  rw [eS, mnS_top]
  simp only [wp_bind', W.mark, W.pushRef, State.topJava?_setTop' _ XF.here.top, Option.some.injEq, exists_eq_left', State.setTop_setTop, State.heap_setTop]
  intro acts
  simp [jvm, XF.here.top]
  exact a1
end MNW
