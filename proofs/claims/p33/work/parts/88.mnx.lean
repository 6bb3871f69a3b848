/-! new int[8][7], its cells kept -/
theorem arrV_ext {cI : ClassId} {N : Nat} {f g : Nat → Value} (h : ∀ j, j < N → f j = g j) : arrV cI N f = arrV cI N g := by
  unfold arrV
  have : (Array.ofFn (n := N) fun j => f j.val) = Array.ofFn (n := N) fun j => g j.val := by
    congr 1
    funext j
    exact h j.val j.isLt
  rw [this]
theorem mnR_arr (cI : ClassId) : mnR cI = vp_cell cI (7, .inl (fun _ => 0)) := by
  rw [vp_cell_i]
  unfold mnR arrV
  have : Array.replicate 7 (Value.int 0) = Array.ofFn (n := 7) fun _ => Value.int 0 := by
    apply Array.ext
    · simp
    · intro i h1 h2
      simp
  rw [this]
theorem mnO_arr (cA : ClassId) (a : Nat) : ∀ i, mnO cA a i = arrV cA 8 (fun j => if j < i then .ref (a + 1 + j) else .null)
  | 0 => by
    unfold mnO arrV
    have : Array.replicate 8 Value.null = Array.ofFn (n := 8) fun j => (if j.val < 0 then Value.ref (a + 1 + j.val) else .null) := by
      apply Array.ext
      · simp
      · intro i h1 h2
        simp
    rw [this]
  | i + 1 => by
    show (mnO cA a i).setSlot i (.ref (a + 1 + i)) = _
    rw [mnO_arr cA a i, arrV_store]
    refine arrV_ext (fun j _ => ?_)
    show (if j = i then Value.ref (a + 1 + i) else if j < i then .ref (a + 1 + j) else .null) = _
    by_cases h : j = i
    · subst h
      rw [if_pos rfl, if_pos (Nat.lt_succ_self j)]
    · rw [if_neg h]
      by_cases h2 : j < i
      · rw [if_pos h2, if_pos (by omega)]
      · rw [if_neg h2, if_neg (by omega)]
theorem mnS_row (T : State) (cA cI : ClassId) : ∀ i j, j < i → (mnS T cA cI i).heap[T.heap.size + 1 + j]? = some (mnR cI)
  | 0, j, h => by omega
  | i + 1, j, h => by
    obtain ⟨f1, -⟩ := mnS_is T cA cI i
    show (((mnS T cA cI i).pushCell (mnR cI)).setCell T.heap.size _).heap[T.heap.size + 1 + j]? = _
    rw [State.heap_setCell_other (show T.heap.size ≠ T.heap.size + 1 + j by omega)]
    by_cases h2 : j = i
    · subst h2
      rw [← f1]
      exact State.heap_pushCell_size ..
    · rw [State.heap_pushCell_of_lt _ _ (show T.heap.size + 1 + j < (mnS T cA cI i).heap.size by rw [f1]; omega)]
      exact mnS_row T cA cI i j (by omega)
def mnG (kA : Nat → ClassId) (a : Nat) : va_W := (a, .inl (kA 7, 8, .inr (.inr (.inr (.inr (fun j => some (a + 1 + j))))))) :: (List.range 8).map (fun j => (a + 1 + j, .inl (kA 0, 7, .inl (fun _ => 0))))
def mnT (a : Nat) : List (Nat × Nat) := (a, 39) :: (List.range 8).map (fun j => (a + 1 + j, 40))
theorem mnG_ty (kA : Nat → ClassId) (a : Nat) : tyW kA (mnT a) (mnG kA a) := by
  refine ⟨by simp [mnT, mnG, List.map_map, Function.comp_def], fun τ ht p hp => ?_⟩
  rcases List.mem_cons.mp hp with rfl | hp
  · refine ⟨_, _, rfl, ⟨0, rfl⟩, eok_a rfl rfl (Nat.le_of_ble_eq_true rfl) (Nat.le_of_ble_eq_true rfl) ⟨_, rfl⟩ (fun j hj => ⟨(2, .ofNat 40, .ofNat 0), ?_, a + 1 + j, rfl, ?_⟩)⟩
    · show (if Nat.blt j 8 then some _ else _) = _
      rw [if_pos (by rw [Nat.blt_eq]; exact hj)]
    · exact ht (a + 1 + j, 40) (List.mem_cons_of_mem _ (List.mem_map.mpr ⟨j, List.mem_range.mpr hj, rfl⟩))
  · obtain ⟨j, hj, rfl⟩ := List.mem_map.mp hp
    exact ⟨_, _, rfl, sx_at_mem.mpr (List.mem_cons_of_mem _ (List.mem_map.mpr ⟨j, hj, rfl⟩)), eok_zi (t := 0) ⟨_, rfl⟩ (by decide +kernel)⟩
theorem mnG_D {A : Nat → Prop} {kA : Nat → ClassId} {a : Nat} (h : ∀ q, a ≤ q → A q) : va_D A (mnG kA a) := by
  refine va_D.ofNodup ?_ (fun q hq => ?_)
  · show (a :: ((List.range 8).map (fun j => ((a + 1 + j, .inl (kA 0, 7, .inl (fun _ => 0))) : Nat × va_E))).map Prod.fst).Nodup
    rw [List.map_map]
    show (a :: (List.range 8).map (fun j => a + 1 + j)).Nodup
    rw [List.nodup_cons]
    refine ⟨fun h => ?_, ?_⟩
    · obtain ⟨j, -, e⟩ := List.mem_map.mp h
      omega
    · refine List.Pairwise.map _ ?_ (List.nodup_range (n := 8))
      intro x y hxy e
      exact hxy (by omega)
  · rcases List.mem_cons.mp hq with rfl | hq
    · exact h _ (Nat.le_refl _)
    · obtain ⟨j, -, rfl⟩ := List.mem_map.mp hq
      exact h _ (show a ≤ a + 1 + j by omega)
section MNX
variable {p : Program} {l : Launch} {e : Env} {R : Room} {s : State} {m : MethodId} {args : Array Value} {below : List Frame} {meth : Method} {c : Code} {H : Heap} {locs : List Loc} {cells slots : Nat} {Q : State → Prop} {T : State}
variable {cc : ByteArray} {pc : Nat} {ls : Array Slot} {rest : List Value} {dC : Nat → ClassId} {dI : Nat → Nat → Nat} {kA : Nat → ClassId} {A : Nat → Prop} {H0 : Heap}
theorem nw_mq (E g : va_W) (hexec : p.tables.exec = Jvm.exec) (hb : c.code = cc) {own : String} {index : Nat} (hown : s.vm.findClass own = some m.cls) (hclink : (Cond.classLink own index "[[I").before args s = true) (hmn : mnP s) (hK : va_K (dC, dI) vwCl (tyL kA) s) (hM : mnQ kA s) (hP : va_P (dC, dI) vwCl (E ++ g) H) (hD : va_D A (E ++ g)) (hS : va_S A H0 H locs) (hA : ∀ q, H0.size ≤ q → A q)
    (hcells : cells + 9 ≤ R.cells) (hslots : slots + 64 ≤ R.slots) (hdg : decode cc pc = .ok (.multianewarray index 2, 4))
    (kk : ∀ (q : Nat) (H1 : Heap) (g1 : va_W) (T1 : List (Nat × Nat)), tyW kA T1 g1 → (q, 39) ∈ T1 → va_P (dC, dI) vwCl (E ++ (g1 ++ g)) H1 → va_D A (E ++ (g1 ++ g)) → va_S A H0 H1 locs →
      W p l e R s m args below meth c H1 locs (cells + 9) (slots + 64) Q (F0 m (pc + 4) ls (.ref q :: rest))) : W p l e R s m args below meth c H locs cells slots Q (F0 m pc ls (.int 7 :: .int 8 :: rest)) := by
  intro T hT X
  have hpl : e.platform.magicAccessors = ({} : Platform).magicAccessors := by rw [X.admits.platform]
  obtain ⟨cA, cI, kA', kI, cq, m1, m2, m3, m4, m5⟩ := hmn
  have hA7 : s.vm.findClass ("[" ++ (FieldType.array .int).toString) = some (kA 7) := (hK.2 7 (kA 7, .array .int) rfl).2
  rw [show "[" ++ (FieldType.array .int).toString = "[[I" by decide +kernel, m1] at hA7
  cases hA7
  obtain ⟨k7, n1, n2⟩ := hM
  cases m2.symm.trans n1
  have e0 := m3.symm.trans n2
  injection e0 with e0 _
  subst e0
  obtain ⟨c0, hfc0, hcl⟩ := Cond.classLink_spec hown hclink e.platform hpl
  cases m1.symm.trans hfc0
  obtain ⟨hg1, hwarm, -⟩ := State.classEntry (e := e) X.warmed hcl
  generalize T.vm.noted m.cls index (.cls (kA 7)) = vm1 at hg1 hwarm
  have X1 := X.noted hwarm
  obtain ⟨kA1, hkA1, eA⟩ := hwarm.alike.2.2 _ _ m2
  obtain ⟨kI1, hkI1, eI⟩ := hwarm.alike.2.2 _ _ m4
  obtain ⟨r1, r2⟩ := X.roomAbove hcells hslots
  have XF := mn_stand X1 (kA 7) (kA 0) 8
  obtain ⟨f1, f2, f3, f4, f5⟩ := mnS_is (T.setVm vm1) (kA 7) (kA 0) 8
  have hrow := mnS_row (T.setVm vm1) (kA 7) (kA 0) 8
  have hsz : (T.setVm vm1).heap.size = H.size := by show T.heap.size = _; rw [hT]
  rw [hsz] at hrow
  rw [hsz] at f2
  have hold : ∀ a : Nat, a < H.size → (mnS (T.setVm vm1) (kA 7) (kA 0) 8).heap[a]? = H[a]? := fun a h => by
    rw [f5 a (by rw [hsz]; exact h)]
    show T.heap[a]? = _
    rw [hT]
  have hPn : va_P (dC, dI) vwCl (mnG kA H.size) (mnS (T.setVm vm1) (kA 7) (kA 0) 8).heap := by
    intro k q hk
    rcases List.mem_cons.mp (List.mem_of_getElem? hk) with rfl | hq
    · show (mnS (T.setVm vm1) (kA 7) (kA 0) 8).heap[H.size]? = some (vp_cell (kA 7) _)
      rw [f2, mnO_arr, vp_cell_q]
      refine congrArg some (arrV_ext (fun j hj => ?_))
      rw [if_pos hj]
      rfl
    · obtain ⟨j, hj, rfl⟩ := List.mem_map.mp hq
      show (mnS (T.setVm vm1) (kA 7) (kA 0) 8).heap[H.size + 1 + j]? = some (vp_cell (kA 0) _)
      rw [hrow j (List.mem_range.mp hj), mnR_arr]
  have hPa : va_P (dC, dI) vwCl (mnG kA H.size ++ (E ++ g)) (mnS (T.setVm vm1) (kA 7) (kA 0) 8).heap := va_P.app hPn (hP.kept (fun k q hk => hold q.1 ((hP k q hk).lt)))
  have hDa : va_D A (mnG kA H.size ++ (E ++ g)) := va_D.app (mnG_D (fun q h => hA q (Nat.le_trans hS.1 h))) hD (fun i j x y hx hy hxy => by
    have hl := (hP j y hy).lt
    have hg : H.size ≤ x.1 := (mnG_D (A := fun q => H.size ≤ q) (fun q h => h)).2 i x hx
    omega)
  have hpm : (mnG kA H.size ++ (E ++ g)).Perm (E ++ (mnG kA H.size ++ g)) := by
    rw [← List.append_assoc, ← List.append_assoc]
    exact List.Perm.append_right g List.perm_append_comm
  obtain ⟨hPb, hDb⟩ := bl_perm hpm hPa hDa
  obtain ⟨t, a1, b1⟩ := kk H.size (mnS (T.setVm vm1) (kA 7) (kA 0) 8).heap (mnG kA H.size) (mnT H.size) (mnG_ty kA H.size) List.mem_cons_self hPb hDb ⟨Nat.le_trans hS.1 (by rw [f1, hsz]; omega), fun q h1 h2 => (hold q (Nat.lt_of_lt_of_le h1 hS.1)).trans (hS.2.1 q h1 h2), hS.2.2⟩ _ rfl (stand_widen XF (by omega) (by omega))
  refine ⟨t, ?_, b1⟩
  rw [← hT] at a1
  have hl8 : ¬ 8 > e.platform.arrayLengthLimit := by rw [Launch.admits_arrayLengthLimit X.admits]; omega
  have hh8 : ¬ 32 > e.platform.maxHeapBytes := by rw [Launch.admits_maxHeapBytes X.admits]; omega
  jvm_step X.here [hexec, hb, hdg]
  simp only [multianewarray.sem, wp_bind', W.resolveClassAt_links (t := T.setTop (F0 m pc ls (.int 7 :: .int 8 :: rest))) (mm := m) (vm' := vm1) (State.method?_setTop (F0 m pc ls (.int 7 :: .int 8 :: rest)) X.here.top) hg1]
  rw [W.popN, if_neg (by decide)]
  refine ⟨F0 m pc ls (.int 7 :: .int 8 :: rest), State.topJava?_setTop' (s := T.setVm vm1) _ X.here.top, [.int 8, .int 7], rest, rfl, rfl, ?_⟩
  simp only [List.mapM_cons, List.mapM_nil, wp_bind', wp_pure']
  refine mn_all (kA := kA1) (kI := kI1) (cc := cq) hkA1 (by rw [eA]; exact m3) hkI1 (by rw [eI]; exact m5) hl8 hh8 (by show T.heap.size + 9 ≤ _; exact r1) (by show T.slotsUsed + 64 ≤ _; exact r2) (fun d' acts' => ?_)
  have eS : ∀ f f' : JFrame, ((T.setTop f).setVm vm1).setTop f' = (T.setVm vm1).setTop f' := fun f f' => by
    show ((T.setVm vm1).setTop f).setTop f' = _
    rw [State.setTop_setTop]
  rw [eS, mnS_top]
  simp only [wp_bind', W.mark, W.pushRef, State.topJava?_setTop' _ XF.here.top, Option.some.injEq, exists_eq_left', State.setTop_setTop, State.heap_setTop]
  intro acts
  simp [jvm, XF.here.top]
  exact a1
end MNX
