/-! a checker of walks: locals -/
def sx_lk : List (Nat × sxA) → Nat → Option sxA
  | [], _ => none
  | q :: l, i => if Nat.beq q.1 i then some q.2 else sx_lk l i
def sx_set1 (i : Nat) (a : sxA) (loc : List (Nat × sxA)) : List (Nat × sxA) := (i, a) :: loc.filter (fun q => !(q.1 == i) && !(q.1 + 1 == i && q.2.1 == 1))
def sx_set2 (i : Nat) (a : sxA) (loc : List (Nat × sxA)) : List (Nat × sxA) := (i, a) :: loc.filter (fun q => !(q.1 == i) && (!(q.1 == i + 1) && !(q.1 + 1 == i && q.2.1 == 1)))
/-- a load -/
def sx_load (i : Instr) (loc : List (Nat × sxA)) : Option sxA := match i with
  | .iload k => match sx_lk loc k with
    | some (0, a) => some (0, a)
    | _ => none
  | .iload_n k => match sx_lk loc k.val with
    | some (0, a) => some (0, a)
    | _ => none
  | .lload k => match sx_lk loc k with
    | some (1, a) => some (1, a)
    | _ => none
  | .lload_n k => match sx_lk loc k.val with
    | some (1, a) => some (1, a)
    | _ => none
  | .aload k => match sx_lk loc k with
    | some (2, a) => some (2, a)
    | some (3, a) => some (3, a)
    | _ => none
  | .aload_n k => match sx_lk loc k.val with
    | some (2, a) => some (2, a)
    | some (3, a) => some (3, a)
    | _ => none
  | _ => none
/-- a store -/
def sx_store (nL : Nat) (i : Instr) (loc : List (Nat × sxA)) (a : sxA) : Option (List (Nat × sxA)) := match i, a with
  | .istore k, (0, a) => if Nat.blt k nL then some (sx_set1 k (0, a) loc) else none
  | .istore_n k, (0, a) => if Nat.blt k.val nL then some (sx_set1 k.val (0, a) loc) else none
  | .lstore k, (1, a) => if Nat.blt (k + 1) nL then some (sx_set2 k (1, a) loc) else none
  | .lstore_n k, (1, a) => if Nat.blt (k.val + 1) nL then some (sx_set2 k.val (1, a) loc) else none
  | .astore k, (2, a) => if Nat.blt k nL then some (sx_set1 k (2, a) loc) else none
  | .astore_n k, (2, a) => if Nat.blt k.val nL then some (sx_set1 k.val (2, a) loc) else none
  | .astore k, (3, a) => if Nat.blt k nL then some (sx_set1 k (3, a) loc) else none
  | .astore_n k, (3, a) => if Nat.blt k.val nL then some (sx_set1 k.val (3, a) loc) else none
  | _, _ => none
def sx_iinc (nL k : Nat) (n : Int) (loc : List (Nat × sxA)) : Option (List (Nat × sxA)) := match sx_lk loc k with
  | some (0, a) => if Nat.blt k nL then some (sx_set1 k (0, a.1, a.2 + n) loc) else none
  | _ => none
section SXW
variable {σ : sxV} {ρ : sxR}
variable {p : Program} {l : Launch} {e : Env} {R : Room} {s : State} {m : MethodId} {args : Array Value} {below : List Frame} {meth : Method} {c : Code} {H : Heap} {locs : List Loc} {cells slots : Nat} {Q : State → Prop}
variable {cc : ByteArray} {pc nL : Nat} {ls : Array Slot} {i : Instr} {rest : List Value} {loc loc' : List (Nat × sxA)} {a : sxA}
/-- the locals as they are -/
def sx_loc (σ : sxV) (ρ : sxR) (loc : List (Nat × sxA)) : List (Nat × Value) := loc.map (fun q => (q.1, sx_val σ ρ q.2))
theorem sx_lk_mem : ∀ {loc : List (Nat × sxA)} {k : Nat} {a : sxA}, sx_lk loc k = some a → (k, a) ∈ loc
  | q :: l, k, a, h => by
    unfold sx_lk at h
    split at h
    · rename_i hq
      have hq : q.1 = k := Nat.eq_of_beq_eq_true hq
      cases h
      subst hq
      exact List.mem_cons_self
    · exact List.mem_cons_of_mem _ (sx_lk_mem h)
theorem sx_lk_at (hl : lv_has ls nL (sx_loc σ ρ loc)) {k : Nat} (h : sx_lk loc k = some a) : ls[k]? = some (.val (sx_val σ ρ a)) :=
  hl.2.2 (k, sx_val σ ρ a) (List.mem_map.mpr ⟨(k, a), sx_lk_mem h, rfl⟩)
theorem sx_catq (a : sxA) : ((sx_val σ ρ a).category == 2) = (a.1 == 1) := by
  obtain ⟨t, a⟩ := a
  match t with
  | 0 => rfl
  | 1 => rfl
  | 2 => rfl
  | t + 3 => rfl
theorem sx_set1_eq (i : Nat) (a : sxA) (loc : List (Nat × sxA)) : (i, sx_val σ ρ a) :: (sx_loc σ ρ loc).filter (fun q => !(q.1 == i) && !(q.1 + 1 == i && q.2.category == 2)) = sx_loc σ ρ (sx_set1 i a loc) := by
  unfold sx_loc sx_set1
  rw [List.map_cons, List.filter_map]
  congr 2
  apply List.filter_congr
  intro q _
  show (!(q.1 == i) && !(q.1 + 1 == i && (sx_val σ ρ q.2).category == 2)) = _
  rw [sx_catq]
theorem sx_set2_eq (i : Nat) (a : sxA) (loc : List (Nat × sxA)) : (i, sx_val σ ρ a) :: (sx_loc σ ρ loc).filter (fun q => !(q.1 == i) && (!(q.1 == i + 1) && !(q.1 + 1 == i && q.2.category == 2))) = sx_loc σ ρ (sx_set2 i a loc) := by
  unfold sx_loc sx_set2
  rw [List.map_cons, List.filter_map]
  congr 2
  apply List.filter_congr
  intro q _
  show (!(q.1 == i) && (!(q.1 == i + 1) && !(q.1 + 1 == i && (sx_val σ ρ q.2).category == 2))) = _
  rw [sx_catq]
theorem sx_blt {a b : Nat} (h : Nat.blt a b = true) : a < b := Nat.le_of_ble_eq_true h
theorem sx_load_ok (hx : p.tables.exec = Jvm.exec) (hb : c.code = cc) (hdg : decode cc pc = .ok (i, sx_ilen i)) (hl : lv_has ls nL (sx_loc σ ρ loc)) (ho : sx_load i loc = some a)
    (k : W p l e R s m args below meth c H locs cells slots Q (F0 m (pc + sx_ilen i) ls (sx_val σ ρ a :: rest))) : W p l e R s m args below meth c H locs cells slots Q (F0 m pc ls rest) := by
  unfold sx_load at ho
  split at ho <;> first | (cases ho; done) | (split at ho <;> first | (cases ho; done) | skip)
  · rename_i hq; cases ho; exact lv_iload hx hb hdg (sx_lk_at hl hq) k
  · rename_i hq; cases ho; exact lv_iload_n hx hb hdg rfl (sx_lk_at hl hq) k
  · rename_i hq; cases ho; exact lv_lload hx hb hdg (sx_lk_at hl hq) k
  · rename_i hq; cases ho; exact lv_lload_n hx hb hdg rfl (sx_lk_at hl hq) k
  · rename_i hq; cases ho; exact lv_aload hx hb hdg (sx_lk_at hl hq) k
  · rename_i hq; cases ho; exact lv_aloadN hx hb hdg (sx_lk_at hl hq) k
  · rename_i hq; cases ho; exact lv_aload_n hx hb hdg rfl (sx_lk_at hl hq) k
  · rename_i hq; cases ho; exact lv_aload_nN hx hb hdg rfl (sx_lk_at hl hq) k
theorem sx_load_wf {n k : Nat} (hw : ∀ q ∈ loc, sx_wfA n k q.2) (ho : sx_load i loc = some a) : sx_wfA n k a := by
  unfold sx_load at ho
  split at ho <;> first | (cases ho; done) | (split at ho <;> first | (cases ho; done) | skip)
  all_goals (rename_i hq; cases ho; exact hw _ (sx_lk_mem hq))
theorem sx_store_ok (hx : p.tables.exec = Jvm.exec) (hb : c.code = cc) (hdg : decode cc pc = .ok (i, sx_ilen i)) (hl : lv_has ls nL (sx_loc σ ρ loc)) (ho : sx_store nL i loc a = some loc')
    (k : ∀ ls', lv_has ls' nL (sx_loc σ ρ loc') → W p l e R s m args below meth c H locs cells slots Q (F0 m (pc + sx_ilen i) ls' rest)) : W p l e R s m args below meth c H locs cells slots Q (F0 m pc ls (sx_val σ ρ a :: rest)) := by
  unfold sx_store at ho
  split at ho <;> first | (cases ho; done) | skip
  all_goals (split at ho <;> first | (cases ho; done) | skip)
  · rename_i j a hn; cases ho; have e1 := sx_set1_eq (σ := σ) (ρ := ρ) j (0, a) loc; exact lv_istore hx hb hdg hl (sx_blt hn) e1 k
  · rename_i j a hn; cases ho; have e1 := sx_set1_eq (σ := σ) (ρ := ρ) j (0, a) loc; exact lv_istore_n hx hb hdg rfl hl (sx_blt hn) e1 k
  · rename_i j a hn; cases ho; have e1 := sx_set2_eq (σ := σ) (ρ := ρ) j (1, a) loc; exact lv_lstore hx hb hdg hl (sx_blt hn) e1 k
  · rename_i j a hn; cases ho; have e1 := sx_set2_eq (σ := σ) (ρ := ρ) j (1, a) loc; exact lv_lstore_n hx hb hdg rfl hl (sx_blt hn) e1 k
  · rename_i j a hn; cases ho; have e1 := sx_set1_eq (σ := σ) (ρ := ρ) j (2, a) loc; exact lv_astore hx hb hdg hl (sx_blt hn) e1 k
  · rename_i j a hn; cases ho; have e1 := sx_set1_eq (σ := σ) (ρ := ρ) j (2, a) loc; exact lv_astore_n hx hb hdg rfl hl (sx_blt hn) e1 k
  · rename_i j a hn; cases ho; have e1 := sx_set1_eq (σ := σ) (ρ := ρ) j (3, a) loc; exact lv_astoreN hx hb hdg hl (sx_blt hn) e1 k
  · rename_i j a hn; cases ho; have e1 := sx_set1_eq (σ := σ) (ρ := ρ) j (3, a) loc; exact lv_astore_nN hx hb hdg rfl hl (sx_blt hn) e1 k
theorem sx_set1_wf {n k j : Nat} (hw : ∀ q ∈ loc, sx_wfA n k q.2) (ha : sx_wfA n k a) : ∀ q ∈ sx_set1 j a loc, sx_wfA n k q.2 := fun q hq => by
  rcases List.mem_cons.mp hq with rfl | h
  · exact ha
  · exact hw q (List.mem_filter.mp h).1
theorem sx_set2_wf {n k j : Nat} (hw : ∀ q ∈ loc, sx_wfA n k q.2) (ha : sx_wfA n k a) : ∀ q ∈ sx_set2 j a loc, sx_wfA n k q.2 := fun q hq => by
  rcases List.mem_cons.mp hq with rfl | h
  · exact ha
  · exact hw q (List.mem_filter.mp h).1
theorem sx_store_wf {n k : Nat} (hw : ∀ q ∈ loc, sx_wfA n k q.2) (ha : sx_wfA n k a) (ho : sx_store nL i loc a = some loc') : ∀ q ∈ loc', sx_wfA n k q.2 := by
  unfold sx_store at ho
  split at ho <;> first | (cases ho; done) | skip
  all_goals (split at ho <;> first | (cases ho; done) | skip)
  all_goals (cases ho; first | exact sx_set1_wf hw ha | exact sx_set2_wf hw ha)
theorem sx_iinc_ok (hx : p.tables.exec = Jvm.exec) (hb : c.code = cc) {j : Nat} {n : Int} (hdg : decode cc pc = .ok (.iinc j n, 3)) (hl : lv_has ls nL (sx_loc σ ρ loc)) (ho : sx_iinc nL j n loc = some loc')
    (k : ∀ ls', lv_has ls' nL (sx_loc σ ρ loc') → W p l e R s m args below meth c H locs cells slots Q (F0 m (pc + 3) ls' rest)) : W p l e R s m args below meth c H locs cells slots Q (F0 m pc ls rest) := by
  unfold sx_iinc at ho
  split at ho
  · rename_i a hq
    split at ho
    · rename_i hn
      cases ho
      obtain ⟨d, hd⟩ := List.getElem?_of_mem (List.mem_map.mpr ⟨(j, (0, a)), sx_lk_mem hq, rfl⟩ : (j, sx_val σ ρ (0, a)) ∈ sx_loc σ ρ loc)
      have e1 := sx_set1_eq (σ := σ) (ρ := ρ) j (0, a.1, a.2 + n) loc
      refine lv_iinc (v := Int32.ofInt (σ a.1 + (a.2 + n))) hx hb hdg hl (k := d) hd ?_ (sx_blt hn) e1 k
      rw [← Int32.ofInt_add]
      congr 1
      dsimp only
      omega
    · cases ho
  · cases ho
theorem sx_iinc_wf {n k j : Nat} {d : Int} (hw : ∀ q ∈ loc, sx_wfA n k q.2) (ho : sx_iinc nL j d loc = some loc') : ∀ q ∈ loc', sx_wfA n k q.2 := by
  unfold sx_iinc at ho
  split at ho
  · rename_i a hq
    split at ho
    · cases ho
      exact sx_set1_wf hw (hw _ (sx_lk_mem hq))
    · cases ho
  · cases ho
end SXW
