/-! a checker of walks: the stack's instructions, their steps -/
def sx_nz (S : sxS) (t : sxT) : Bool := match sx_iv S.1 t with
  | some q => sx_le 1 q.1 || sx_le q.2 (-1) || S.2.2.2.2.1.any (fun p => decide (p = (0, [t, (0, 0)], [])))
  | none => false
/-- what an operation of two longs gives -/
def sx_lop (i : Instr) (n : Nat) (x y : sxT) (a b c d : Int) : Option (sxE × List sxL) := match i with
  | .ladd => some (if sx_in64 (a + c) (b + d) then ((a + c, b + d), [([(n, 1), (x.1, -1), (y.1, -1)], -(x.2 + y.2)), ([(n, -1), (x.1, 1), (y.1, 1)], x.2 + y.2)]) else (sx_full64, []))
  | .lsub => some (if sx_in64 (a - d) (b - c) then ((a - d, b - c), [([(n, 1), (x.1, -1), (y.1, 1)], -(x.2 - y.2)), ([(n, -1), (x.1, 1), (y.1, -1)], x.2 - y.2)]) else (sx_full64, []))
  | .lmul => some (sx_mul64 a b c d, [])
  | .land => some (sx_full64, [])
  | .lor => some (sx_full64, [])
  | _ => none
def sx_lsem (i : Instr) (x y : Int64) : Int64 := match i with
  | .ladd => x + y
  | .lsub => x - y
  | .lmul => x * y
  | .land => x &&& y
  | _ => x ||| y
theorem sx_lop_ok {i : Instr} {n : Nat} {x y : sxT} {a b c d : Int} {e : sxE} {fl : List sxL} {σ : sxV} (ho : sx_lop i n x y a b c d = some (e, fl)) (hx : x.1 < n) (hy : y.1 < n)
    (ex : (Int64.ofInt (sx_tv σ x)).toInt = sx_tv σ x) (ey : (Int64.ofInt (sx_tv σ y)).toInt = sx_tv σ y) (h1 : a ≤ sx_tv σ x) (h2 : sx_tv σ x ≤ b) (h3 : c ≤ sx_tv σ y) (h4 : sx_tv σ y ≤ d) {z : Int64} (hz : z = sx_lsem i (Int64.ofInt (sx_tv σ x)) (Int64.ofInt (sx_tv σ y))) :
    (e.1 ≤ z.toInt ∧ z.toInt ≤ e.2) ∧ (∀ f ∈ fl, sx_wfL (n + 1) f ∧ 0 ≤ sx_lev (sx_up σ n z.toInt) f) := by
  have ux : sx_up σ n z.toInt x.1 = σ x.1 := sx_up_lt _ hx
  have uy : sx_up σ n z.toInt y.1 = σ y.1 := sx_up_lt _ hy
  have un : sx_up σ n z.toInt n = z.toInt := sx_up_n
  unfold sx_lop at ho
  split at ho
  · have hz : z = Int64.ofInt (sx_tv σ x) + Int64.ofInt (sx_tv σ y) := hz
    split at ho
    · rename_i hr
      have hr := sx_in64_ok hr
      have ez : z.toInt = sx_tv σ x + sx_tv σ y := by rw [hz, ← Int64.ofInt_add, t_of64 (by omega) (by omega)]
      cases ho
      refine ⟨by show a + c ≤ z.toInt ∧ z.toInt ≤ b + d; omega, fun f hf => ?_⟩
      unfold sx_tv at ez
      simp only [List.mem_cons, List.not_mem_nil, or_false] at hf
      rcases hf with rfl | rfl
      · refine ⟨fun q hq => ?_, ?_⟩
        · simp only [List.mem_cons, List.not_mem_nil, or_false] at hq
          rcases hq with rfl | rfl | rfl <;> dsimp only <;> omega
        · simp only [sx_lev, sx_ev, ux, uy, un]
          omega
      · refine ⟨fun q hq => ?_, ?_⟩
        · simp only [List.mem_cons, List.not_mem_nil, or_false] at hq
          rcases hq with rfl | rfl | rfl <;> dsimp only <;> omega
        · simp only [sx_lev, sx_ev, ux, uy, un]
          omega
    · cases ho
      exact ⟨t_rng64 z, fun f hf => (by cases hf)⟩
  · have hz : z = Int64.ofInt (sx_tv σ x) - Int64.ofInt (sx_tv σ y) := hz
    split at ho
    · rename_i hr
      have hr := sx_in64_ok hr
      have ez : z.toInt = sx_tv σ x - sx_tv σ y := by rw [hz, ← Int64.ofInt_sub, t_of64 (by omega) (by omega)]
      cases ho
      refine ⟨by show a - d ≤ z.toInt ∧ z.toInt ≤ b - c; omega, fun f hf => ?_⟩
      unfold sx_tv at ez
      simp only [List.mem_cons, List.not_mem_nil, or_false] at hf
      rcases hf with rfl | rfl
      · refine ⟨fun q hq => ?_, ?_⟩
        · simp only [List.mem_cons, List.not_mem_nil, or_false] at hq
          rcases hq with rfl | rfl | rfl <;> dsimp only <;> omega
        · simp only [sx_lev, sx_ev, ux, uy, un]
          omega
      · refine ⟨fun q hq => ?_, ?_⟩
        · simp only [List.mem_cons, List.not_mem_nil, or_false] at hq
          rcases hq with rfl | rfl | rfl <;> dsimp only <;> omega
        · simp only [sx_lev, sx_ev, ux, uy, un]
          omega
    · cases ho
      exact ⟨t_rng64 z, fun f hf => (by cases hf)⟩
  · have hz : z = Int64.ofInt (sx_tv σ x) * Int64.ofInt (sx_tv σ y) := hz
    cases ho
    refine ⟨?_, fun f hf => (by cases hf)⟩
    rw [hz]
    exact sx_mul64_ok (by rw [ex]; exact h1) (by rw [ex]; exact h2) (by rw [ey]; exact h3) (by rw [ey]; exact h4)
  · cases ho
    exact ⟨t_rng64 z, fun f hf => (by cases hf)⟩
  · cases ho
    exact ⟨t_rng64 z, fun f hf => (by cases hf)⟩
  · cases ho
def sx_int2 (S : sxS) (i : Instr) (x y : sxT) (r : List sxA) : Option (sxS × List sxA) :=
  match sx_iv S.1 x, sx_iv S.1 y with
  | some q, some w => if sx_in32 q.1 q.2 && sx_in32 w.1 w.2 then
      match sx_op2 i S.1.length x y q.1 q.2 w.1 w.2 with
      | some o => some (sx_new S o.1 o.2.1 o.2.2, (0, S.1.length, 0) :: r)
      | none => none
    else none
  | _, _ => none
def sx_lng2 (S : sxS) (i : Instr) (x y : sxT) (r : List sxA) : Option (sxS × List sxA) :=
  match sx_iv S.1 x, sx_iv S.1 y with
  | some q, some w => if sx_in64 q.1 q.2 && sx_in64 w.1 w.2 then
      match sx_lop i S.1.length x y q.1 q.2 w.1 w.2 with
      | some o => some (sx_new S o.1 o.2 [], (1, S.1.length, 0) :: r)
      | none => none
    else none
  | _, _ => none
def sx_idr (S : sxS) (i : Instr) (x y : sxT) (r : List sxA) : Option (sxS × List sxA) :=
  match sx_iv S.1 x, sx_iv S.1 y with
  | some q, some w => if sx_in32 q.1 q.2 && sx_in32 w.1 w.2 && sx_nz S y then
      match i with
      | .idiv => some (sx_new S (sx_div false q.1 q.2 w.1 w.2) [] [], (0, S.1.length, 0) :: r)
      | .irem => some (sx_new S (sx_rem false q.1 q.2 w.1 w.2) [] [], (0, S.1.length, 0) :: r)
      | _ => none
    else none
  | _, _ => none
def sx_ldr (S : sxS) (i : Instr) (x y : sxT) (r : List sxA) : Option (sxS × List sxA) :=
  match sx_iv S.1 x, sx_iv S.1 y with
  | some q, some w => if sx_in64 q.1 q.2 && sx_in64 w.1 w.2 && sx_nz S y then
      match i with
      | .ldiv => some (sx_new S (sx_div true q.1 q.2 w.1 w.2) [] [], (1, S.1.length, 0) :: r)
      | .lrem => some (sx_new S (sx_rem true q.1 q.2 w.1 w.2) [] [], (1, S.1.length, 0) :: r)
      | _ => none
    else none
  | _, _ => none
def sx_conv (S : sxS) (i : Instr) (a : sxA) (r : List sxA) : Option (sxS × List sxA) :=
  match a.1, i, sx_iv S.1 a.2 with
  | 0, .i2l, some q => if sx_in32 q.1 q.2 then some (S, (1, a.2) :: r) else none
  | 1, .l2i, some q => if sx_in32 q.1 q.2 then some (S, (0, a.2) :: r) else some (sx_new S sx_full [] [], (0, S.1.length, 0) :: r)
  | 0, .i2b, some _ => some (sx_new S (-128, 127) [] [], (0, S.1.length, 0) :: r)
  | 0, .i2c, some _ => some (sx_new S (0, 65535) [] [], (0, S.1.length, 0) :: r)
  | _, _, _ => none
section SXW
variable {PF : Nat → List Int → List (Nat → Int) → Prop} {τ : Nat → Option Nat} {S S' : sxS} {σ : sxV} {ρ : sxR} {φ : sxF} {wd : va_W}
variable {p : Program} {l : Launch} {e : Env} {R : Room} {s : State} {m : MethodId} {args : Array Value} {below : List Frame} {meth : Method} {c : Code} {H : Heap} {locs : List Loc} {cells slots : Nat} {Q : State → Prop}
variable {cc : ByteArray} {pc : Nat} {ls : Array Slot} {i : Instr} {x y : sxT} {r st' : List sxA} {a : sxA}
theorem sx_map_ext {n k : Nat} {σ' : sxV} {ρ' : sxR} (h1 : ∀ i, i < n → σ' i = σ i) (h2 : ∀ i, i < k → ρ' i = ρ i) (hr : ∀ a ∈ r, sx_wfA n k a) : r.map (sx_val σ' ρ') = r.map (sx_val σ ρ) := List.map_congr_left fun a ha => sx_val_ext h1 h2 (hr a ha)
theorem sx_fini (hw : sx_wf S) (hr : ∀ a ∈ r, sx_wfA S.1.length S.2.1.length a) (h : sx_sat PF τ S σ ρ φ wd) {ev : sxE} {fl : List sxL} {pl : List sxP} {z : Int32} (he : ev.1 ≤ z.toInt ∧ z.toInt ≤ ev.2) (hf : ∀ f ∈ fl, 0 ≤ sx_lev (sx_up σ S.1.length z.toInt) f) (hp : ∀ p ∈ pl, sx_pok PF (sx_up σ S.1.length z.toInt) φ p)
    (k : ∀ σ', (∀ j, j < S.1.length → σ' j = σ j) → sx_sat PF τ (sx_new S ev fl pl) σ' ρ φ wd → W p l e R s m args below meth c H locs cells slots Q (F0 m pc ls (((0, S.1.length, 0) :: r).map (sx_val σ' ρ)))) : W p l e R s m args below meth c H locs cells slots Q (F0 m pc ls (.int z :: r.map (sx_val σ ρ))) := by
  have h1 := k _ sx_up_lt (sx_new_ok hw h he.1 he.2 hf hp)
  rw [List.map_cons, sx_map_ext (ρ := ρ) sx_up_lt (fun _ _ => rfl) hr] at h1
  have e1 : sx_val (sx_up σ S.1.length z.toInt) ρ (0, S.1.length, 0) = .int z := by
    show Value.int (Int32.ofInt (sx_up σ S.1.length z.toInt S.1.length + 0)) = _
    rw [sx_up_n, Int.add_zero, Int32.ofInt_toInt]
  rw [e1] at h1
  exact h1
theorem sx_finl (hw : sx_wf S) (hr : ∀ a ∈ r, sx_wfA S.1.length S.2.1.length a) (h : sx_sat PF τ S σ ρ φ wd) {ev : sxE} {fl : List sxL} {pl : List sxP} {z : Int64} (he : ev.1 ≤ z.toInt ∧ z.toInt ≤ ev.2) (hf : ∀ f ∈ fl, 0 ≤ sx_lev (sx_up σ S.1.length z.toInt) f) (hp : ∀ p ∈ pl, sx_pok PF (sx_up σ S.1.length z.toInt) φ p)
    (k : ∀ σ', (∀ j, j < S.1.length → σ' j = σ j) → sx_sat PF τ (sx_new S ev fl pl) σ' ρ φ wd → W p l e R s m args below meth c H locs cells slots Q (F0 m pc ls (((1, S.1.length, 0) :: r).map (sx_val σ' ρ)))) : W p l e R s m args below meth c H locs cells slots Q (F0 m pc ls (.long z :: r.map (sx_val σ ρ))) := by
  have h1 := k _ sx_up_lt (sx_new_ok hw h he.1 he.2 hf hp)
  rw [List.map_cons, sx_map_ext (ρ := ρ) sx_up_lt (fun _ _ => rfl) hr] at h1
  have e1 : sx_val (sx_up σ S.1.length z.toInt) ρ (1, S.1.length, 0) = .long z := by
    show Value.long (Int64.ofInt (sx_up σ S.1.length z.toInt S.1.length + 0)) = _
    rw [sx_up_n, Int.add_zero, Int64.ofInt_toInt]
  rw [e1] at h1
  exact h1
theorem sx_iv_lt {es : List sxE} {t : sxT} {q : Int × Int} (h : sx_iv es t = some q) : t.1 < es.length := by
  unfold sx_iv at h
  cases he : es[t.1]? with
  | none => rw [he] at h; cases h
  | some e => exact (List.getElem?_eq_some_iff.mp he).1
theorem sx_zero (hw : sx_wf S) (h : sx_sat PF τ S σ ρ φ wd) : σ 0 = 0 := by
  obtain ⟨e0, q1, q2, q3⟩ := hw.2.1
  have := h.1 0 _ q1
  omega
/-- the rows of the kit, by the operation -/
theorem sx_row2 (hx : p.tables.exec = Jvm.exec) (hb : c.code = cc) {x y : Int32} {rest : List Value} {n : Nat} {tx ty : sxT} {a1 b1 c1 d1 : Int} {o : sxE × List sxL × List sxP} (ho : sx_op2 i n tx ty a1 b1 c1 d1 = some o) (hdg : decode cc pc = .ok (i, sx_ilen i))
    (k : W p l e R s m args below meth c H locs cells slots Q (F0 m (pc + sx_ilen i) ls (.int (sx_sem2 i x y) :: rest))) : W p l e R s m args below meth c H locs cells slots Q (F0 m pc ls (.int y :: .int x :: rest)) := by
  unfold sx_op2 at ho
  split at ho
  · exact lv_iadd hx hb hdg k
  · exact lv_isub hx hb hdg k
  · exact lv_imul hx hb hdg k
  · exact lv_iand hx hb hdg k
  · exact lv_ior hx hb hdg k
  · exact lv_ixor hx hb hdg k
  · exact lv_ishl hx hb hdg k
  · exact lv_ishr hx hb hdg k
  · exact lv_iushr hx hb hdg rfl k
  · cases ho
theorem sx_rowl (hx : p.tables.exec = Jvm.exec) (hb : c.code = cc) {x y : Int64} {rest : List Value} {n : Nat} {tx ty : sxT} {a1 b1 c1 d1 : Int} {o : sxE × List sxL} (ho : sx_lop i n tx ty a1 b1 c1 d1 = some o) (hdg : decode cc pc = .ok (i, sx_ilen i))
    (k : W p l e R s m args below meth c H locs cells slots Q (F0 m (pc + sx_ilen i) ls (.long (sx_lsem i x y) :: rest))) : W p l e R s m args below meth c H locs cells slots Q (F0 m pc ls (.long y :: .long x :: rest)) := by
  unfold sx_lop at ho
  split at ho
  · exact lv_ladd hx hb hdg k
  · exact lv_lsub hx hb hdg k
  · exact lv_lmul hx hb hdg k
  · exact lv_land hx hb hdg k
  · exact lv_lor hx hb hdg k
  · cases ho
/-- a step that makes at most a new number: what it keeps -/
def sx_stepwf (S S' : sxS) (st' : List sxA) : Prop := sx_wf S' ∧ (∀ a ∈ st', sx_wfA S'.1.length S'.2.1.length a) ∧ S.1.length ≤ S'.1.length ∧ S'.2.1 = S.2.1 ∧ S'.2.2.1 = S.2.2.1
theorem sx_new_stepwf (hw : sx_wf S) (hr : ∀ a ∈ r, sx_wfA S.1.length S.2.1.length a) {ev : sxE} {fl : List sxL} {pl : List sxP} {t : Nat} (ht : t < 2) (hf : ∀ f ∈ fl, sx_wfL (S.1.length + 1) f) (hp : ∀ p ∈ pl, sx_wfP (S.1.length + 1) S.2.2.1 p) : sx_stepwf S (sx_new S ev fl pl) ((t, S.1.length, 0) :: r) := by
  have hl : (sx_new S ev fl pl).1.length = S.1.length + 1 := by simp [sx_new]
  refine ⟨sx_new_wf hw hf hp, fun a ha => ?_, by omega, rfl, rfl⟩
  rcases List.mem_cons.mp ha with rfl | h
  · refine Or.inr (Or.inl ⟨ht, ?_⟩)
    show S.1.length < _
    omega
  · exact sx_wfA_mono (by omega) (Nat.le_refl _) (hr a h)
theorem sx_int2_ok (hx : p.tables.exec = Jvm.exec) (hb : c.code = cc) (hdg : decode cc pc = .ok (i, sx_ilen i)) (hw : sx_wf S) (hr : ∀ a ∈ r, sx_wfA S.1.length S.2.1.length a) (h : sx_sat PF τ S σ ρ φ wd) (ho : sx_int2 S i x y r = some (S', st'))
    (k : ∀ σ', (∀ j, j < S.1.length → σ' j = σ j) → sx_stepwf S S' st' → sx_sat PF τ S' σ' ρ φ wd → W p l e R s m args below meth c H locs cells slots Q (F0 m (pc + sx_ilen i) ls (st'.map (sx_val σ' ρ)))) : W p l e R s m args below meth c H locs cells slots Q (F0 m pc ls (((0, y) :: (0, x) :: r).map (sx_val σ ρ))) := by
  unfold sx_int2 at ho
  split at ho
  · rename_i q w hq hv
    split at ho
    · rename_i hin
      rw [Bool.and_eq_true] at hin
      split at ho
      · rename_i o hop
        cases ho
        obtain ⟨ex, b1, b2⟩ := sx_at32 h.1 hq hin.1
        obtain ⟨ey, b3, b4⟩ := sx_at32 h.1 hv hin.2
        have key := sx_op2_ok (PF := PF) (φ := φ) (nc := S.2.2.1) hop (sx_iv_lt hq) (sx_iv_lt hv) (sx_zero hw h) ex ey b1 b2 b3 b4 rfl
        refine sx_row2 (x := Int32.ofInt (sx_tv σ x)) (y := Int32.ofInt (sx_tv σ y)) hx hb hop hdg ?_
        exact sx_fini hw hr h key.1 (fun f hf => (key.2.1 f hf).2) (fun p hp => (key.2.2 p hp).2) (fun σ' ha hs => k σ' ha (sx_new_stepwf hw hr (by omega) (fun f hf => (key.2.1 f hf).1) (fun p hp => (key.2.2 p hp).1)) hs)
      · cases ho
    · cases ho
  · cases ho
theorem sx_lng2_ok (hx : p.tables.exec = Jvm.exec) (hb : c.code = cc) (hdg : decode cc pc = .ok (i, sx_ilen i)) (hw : sx_wf S) (hr : ∀ a ∈ r, sx_wfA S.1.length S.2.1.length a) (h : sx_sat PF τ S σ ρ φ wd) (ho : sx_lng2 S i x y r = some (S', st'))
    (k : ∀ σ', (∀ j, j < S.1.length → σ' j = σ j) → sx_stepwf S S' st' → sx_sat PF τ S' σ' ρ φ wd → W p l e R s m args below meth c H locs cells slots Q (F0 m (pc + sx_ilen i) ls (st'.map (sx_val σ' ρ)))) : W p l e R s m args below meth c H locs cells slots Q (F0 m pc ls (((1, y) :: (1, x) :: r).map (sx_val σ ρ))) := by
  unfold sx_lng2 at ho
  split at ho
  · rename_i q w hq hv
    split at ho
    · rename_i hin
      rw [Bool.and_eq_true] at hin
      split at ho
      · rename_i o hop
        cases ho
        obtain ⟨ex, b1, b2⟩ := sx_at64 h.1 hq hin.1
        obtain ⟨ey, b3, b4⟩ := sx_at64 h.1 hv hin.2
        have key := sx_lop_ok hop (sx_iv_lt hq) (sx_iv_lt hv) ex ey b1 b2 b3 b4 rfl
        refine sx_rowl (x := Int64.ofInt (sx_tv σ x)) (y := Int64.ofInt (sx_tv σ y)) hx hb hop hdg ?_
        exact sx_finl hw hr h key.1 (fun f hf => (key.2 f hf).2) (fun p hp => (by cases hp)) (fun σ' ha hs => k σ' ha (sx_new_stepwf hw hr (by omega) (fun f hf => (key.2 f hf).1) (fun p hp => (by cases hp))) hs)
      · cases ho
    · cases ho
  · cases ho
theorem sx_nz_ok (h : sx_sat PF τ S σ ρ φ wd) (h0 : σ 0 = 0) {t : sxT} (hz : sx_nz S t = true) : sx_tv σ t ≠ 0 := by
  unfold sx_nz at hz
  split at hz
  · rename_i q hq
    have hb := sx_iv_ok h.1 (a := q.1) (b := q.2) hq
    rw [Bool.or_eq_true, Bool.or_eq_true] at hz
    rcases hz with (z | z) | z
    · have := sx_le_iff.mp z
      omega
    · have := sx_le_iff.mp z
      omega
    · obtain ⟨p, hp, e⟩ := List.any_eq_true.mp z
      have e := of_decide_eq_true e
      subst e
      have h1 := h.2.2.2.1 _ hp
      have h2 : sx_tv σ t ≠ sx_tv σ (0, 0) := h1
      unfold sx_tv at h2 ⊢
      rw [h0] at h2
      simpa using h2
  · cases hz
theorem sx_idr_ok (hx : p.tables.exec = Jvm.exec) (hb : c.code = cc) (hdg : decode cc pc = .ok (i, sx_ilen i)) (hw : sx_wf S) (hr : ∀ a ∈ r, sx_wfA S.1.length S.2.1.length a) (h : sx_sat PF τ S σ ρ φ wd) (ho : sx_idr S i x y r = some (S', st'))
    (k : ∀ σ', (∀ j, j < S.1.length → σ' j = σ j) → sx_stepwf S S' st' → sx_sat PF τ S' σ' ρ φ wd → W p l e R s m args below meth c H locs cells slots Q (F0 m (pc + sx_ilen i) ls (st'.map (sx_val σ' ρ)))) : W p l e R s m args below meth c H locs cells slots Q (F0 m pc ls (((0, y) :: (0, x) :: r).map (sx_val σ ρ))) := by
  unfold sx_idr at ho
  split at ho
  · rename_i q w hq hv
    split at ho
    · rename_i hin
      rw [Bool.and_eq_true, Bool.and_eq_true] at hin
      obtain ⟨⟨i1, i2⟩, i3⟩ := hin
      obtain ⟨ex, b1, b2⟩ := sx_at32 h.1 hq i1
      obtain ⟨ey, b3, b4⟩ := sx_at32 h.1 hv i2
      have hnz := sx_nz_ok h (sx_zero hw h) i3
      have hne : ¬ Int32.ofInt (sx_tv σ y) = 0 := fun z => hnz (by rw [← ey, z]; rfl)
      split at ho
      · cases ho
        refine lv_idiv (x := Int32.ofInt (sx_tv σ x)) (y := Int32.ofInt (sx_tv σ y)) hx hb hdg hne ?_
        exact sx_fini hw hr h (sx_div_ok (by rw [ex]; exact b1) (by rw [ex]; exact b2) (by rw [ey]; exact b3) (by rw [ey]; exact b4)) (fun f hf => (by cases hf)) (fun p hp => (by cases hp)) (fun σ' ha hs => k σ' ha (sx_new_stepwf hw hr (by omega) (fun f hf => (by cases hf)) (fun p hp => (by cases hp))) hs)
      · cases ho
        refine lv_irem (x := Int32.ofInt (sx_tv σ x)) (y := Int32.ofInt (sx_tv σ y)) hx hb hdg hne ?_
        exact sx_fini hw hr h (sx_rem_ok (by rw [ex]; exact b1) (by rw [ex]; exact b2) (by rw [ey]; exact b3) (by rw [ey]; exact b4)) (fun f hf => (by cases hf)) (fun p hp => (by cases hp)) (fun σ' ha hs => k σ' ha (sx_new_stepwf hw hr (by omega) (fun f hf => (by cases hf)) (fun p hp => (by cases hp))) hs)
      · cases ho
    · cases ho
  · cases ho
theorem sx_ldr_ok (hx : p.tables.exec = Jvm.exec) (hb : c.code = cc) (hdg : decode cc pc = .ok (i, sx_ilen i)) (hw : sx_wf S) (hr : ∀ a ∈ r, sx_wfA S.1.length S.2.1.length a) (h : sx_sat PF τ S σ ρ φ wd) (ho : sx_ldr S i x y r = some (S', st'))
    (k : ∀ σ', (∀ j, j < S.1.length → σ' j = σ j) → sx_stepwf S S' st' → sx_sat PF τ S' σ' ρ φ wd → W p l e R s m args below meth c H locs cells slots Q (F0 m (pc + sx_ilen i) ls (st'.map (sx_val σ' ρ)))) : W p l e R s m args below meth c H locs cells slots Q (F0 m pc ls (((1, y) :: (1, x) :: r).map (sx_val σ ρ))) := by
  unfold sx_ldr at ho
  split at ho
  · rename_i q w hq hv
    split at ho
    · rename_i hin
      rw [Bool.and_eq_true, Bool.and_eq_true] at hin
      obtain ⟨⟨i1, i2⟩, i3⟩ := hin
      obtain ⟨ex, b1, b2⟩ := sx_at64 h.1 hq i1
      obtain ⟨ey, b3, b4⟩ := sx_at64 h.1 hv i2
      have hnz := sx_nz_ok h (sx_zero hw h) i3
      have hne : ¬ Int64.ofInt (sx_tv σ y) = 0 := fun z => hnz (by rw [← ey, z]; rfl)
      split at ho
      · cases ho
        refine lv_ldiv (x := Int64.ofInt (sx_tv σ x)) (y := Int64.ofInt (sx_tv σ y)) hx hb hdg hne ?_
        exact sx_finl hw hr h (sx_div64_ok (by rw [ex]; exact b1) (by rw [ex]; exact b2) (by rw [ey]; exact b3) (by rw [ey]; exact b4)) (fun f hf => (by cases hf)) (fun p hp => (by cases hp)) (fun σ' ha hs => k σ' ha (sx_new_stepwf hw hr (by omega) (fun f hf => (by cases hf)) (fun p hp => (by cases hp))) hs)
      · cases ho
        refine lv_lrem (x := Int64.ofInt (sx_tv σ x)) (y := Int64.ofInt (sx_tv σ y)) hx hb hdg hne ?_
        exact sx_finl hw hr h (sx_rem64_ok (by rw [ex]; exact b1) (by rw [ex]; exact b2) (by rw [ey]; exact b3) (by rw [ey]; exact b4)) (fun f hf => (by cases hf)) (fun p hp => (by cases hp)) (fun σ' ha hs => k σ' ha (sx_new_stepwf hw hr (by omega) (fun f hf => (by cases hf)) (fun p hp => (by cases hp))) hs)
      · cases ho
    · cases ho
  · cases ho
theorem sx_i2b (z : Int32) : -128 ≤ z.toInt8.toInt32.toInt ∧ z.toInt8.toInt32.toInt ≤ 127 := by
  have h1 := z.toInt8.le_toInt
  have h2 := z.toInt8.toInt_lt
  rw [Int8.toInt_toInt32]
  omega
theorem sx_i2c (z : Int32) : 0 ≤ ((z.toUInt32 % 65536).toInt32).toInt ∧ ((z.toUInt32 % 65536).toInt32).toInt ≤ 65535 := by
  rw [pk_char, nI_toInt (by omega)]
  omega
theorem sx_same_stepwf (hw : sx_wf S) (hr : ∀ a ∈ r, sx_wfA S.1.length S.2.1.length a) : sx_stepwf S S r := ⟨hw, hr, Nat.le_refl _, rfl, rfl⟩
theorem sx_conv_ok (hx : p.tables.exec = Jvm.exec) (hb : c.code = cc) (hdg : decode cc pc = .ok (i, sx_ilen i)) (hw : sx_wf S) (hr : ∀ a ∈ r, sx_wfA S.1.length S.2.1.length a) (h : sx_sat PF τ S σ ρ φ wd) (ho : sx_conv S i a r = some (S', st'))
    (k : ∀ σ', (∀ j, j < S.1.length → σ' j = σ j) → sx_stepwf S S' st' → sx_sat PF τ S' σ' ρ φ wd → W p l e R s m args below meth c H locs cells slots Q (F0 m (pc + sx_ilen i) ls (st'.map (sx_val σ' ρ)))) : W p l e R s m args below meth c H locs cells slots Q (F0 m pc ls ((a :: r).map (sx_val σ ρ))) := by
  obtain ⟨t, a⟩ := a
  unfold sx_conv at ho
  split at ho
  · rename_i q ht hq
    dsimp only at ht hq
    subst ht
    split at ho
    · rename_i hin
      cases ho
      obtain ⟨ex, b1, b2⟩ := sx_at32 (S := S) h.1 (a := q.1) (b := q.2) hq hin
      have b3 := sx_in32_ok hin
      refine lv_i2l (x := Int32.ofInt (sx_tv σ a)) (v := Int64.ofInt (sx_tv σ a)) hx hb hdg ?_ (k σ (fun _ _ => rfl) (sx_same_stepwf hw ?_) h)
      · apply Int64.toInt_inj.mp
        rw [Int32.toInt_toInt64, ex, t_of64 (by omega) (by omega)]
      · intro x hx
        rcases List.mem_cons.mp hx with rfl | hx
        · exact Or.inr (Or.inl ⟨by show 1 < 2; decide, sx_iv_lt hq⟩)
        · exact hr x hx
    · cases ho
  · rename_i q ht hq
    dsimp only at ht hq
    subst ht
    split at ho
    · rename_i hin
      cases ho
      have b1 := sx_iv_ok h.1 (a := q.1) (b := q.2) hq
      have b3 := sx_in32_ok hin
      refine lv_l2i (x := Int64.ofInt (sx_tv σ a)) (v := Int32.ofInt (sx_tv σ a)) hx hb hdg ?_ (k σ (fun _ _ => rfl) (sx_same_stepwf hw ?_) h)
      · apply Int32.toInt_inj.mp
        rw [Int64.toInt_toInt32, t_of64 (by omega) (by omega), t_bm32 (by omega) (by omega), t_of32 (by omega) (by omega)]
      · intro x hx
        rcases List.mem_cons.mp hx with rfl | hx
        · exact Or.inr (Or.inl ⟨by show 0 < 2; decide, sx_iv_lt hq⟩)
        · exact hr x hx
    · cases ho
      refine lv_l2i (x := Int64.ofInt (sx_tv σ a)) hx hb hdg rfl ?_
      exact sx_fini hw hr h (t_rng32 _) (fun f hf => (by cases hf)) (fun p hp => (by cases hp)) (fun σ' ha hs => k σ' ha (sx_new_stepwf hw hr (by omega) (fun f hf => (by cases hf)) (fun p hp => (by cases hp))) hs)
  · rename_i q ht hq
    dsimp only at ht hq
    subst ht
    cases ho
    refine lv_i2b (x := Int32.ofInt (sx_tv σ a)) hx hb hdg rfl ?_
    exact sx_fini hw hr h (sx_i2b _) (fun f hf => (by cases hf)) (fun p hp => (by cases hp)) (fun σ' ha hs => k σ' ha (sx_new_stepwf hw hr (by omega) (fun f hf => (by cases hf)) (fun p hp => (by cases hp))) hs)
  · rename_i q ht hq
    dsimp only at ht hq
    subst ht
    cases ho
    refine lv_i2c (x := Int32.ofInt (sx_tv σ a)) hx hb hdg rfl ?_
    exact sx_fini hw hr h (sx_i2c _) (fun f hf => (by cases hf)) (fun p hp => (by cases hp)) (fun σ' ha hs => k σ' ha (sx_new_stepwf hw hr (by omega) (fun f hf => (by cases hf)) (fun p hp => (by cases hp))) hs)
  · cases ho
end SXW
