/-! a checker of walks: constants, the stack, locals -/
def sx_pure (S : sxS) (i : Instr) (st : List sxA) : Option (sxS × List sxA) := match i with
  | .aconst_null => some (S, (3, 0, 0) :: st)
  | .iconst n => some (S, (0, 0, n) :: st)
  | .bipush n => if sx_le (-128) n && sx_le n 127 then some (S, (0, 0, n) :: st) else none
  | .sipush n => if sx_le (-32768) n && sx_le n 32767 then some (S, (0, 0, n) :: st) else none
  | .lconst n => some (S, (1, 0, (n.val : Int)) :: st)
  | .pop => match st with
    | a :: r => if Nat.beq a.1 1 then none else some (S, r)
    | _ => none
  | .dup => match st with
    | a :: r => if Nat.beq a.1 1 then none else some (S, a :: a :: r)
    | _ => none
  | .dup2 => match st with
    | a :: b :: r => if Nat.beq a.1 1 then some (S, a :: a :: b :: r) else if Nat.beq b.1 1 then none else some (S, a :: b :: a :: b :: r)
    | _ => none
  | .lcmp => match st with
    | (1, y) :: (1, x) :: r => match sx_iv S.1 x, sx_iv S.1 y with
      | some q, some w => if sx_in64 q.1 q.2 && sx_in64 w.1 w.2 then some (sx_new S (-1, 1) [] [(8, [(S.1.length, 0), x, y], [])], (0, S.1.length, 0) :: r) else none
      | _, _ => none
    | _ => none
  | .lshl => match st with
    | (0, _) :: (1, _) :: r => some (sx_new S sx_full64 [] [], (1, S.1.length, 0) :: r)
    | _ => none
  | .i2l => match st with
    | a :: r => sx_conv S .i2l a r
    | _ => none
  | .l2i => match st with
    | a :: r => sx_conv S .l2i a r
    | _ => none
  | .i2b => match st with
    | a :: r => sx_conv S .i2b a r
    | _ => none
  | .i2c => match st with
    | a :: r => sx_conv S .i2c a r
    | _ => none
  | .iadd => match st with
    | (0, y) :: (0, x) :: r => if Nat.beq y.1 0 then some (S, (0, x.1, x.2 + y.2) :: r) else if Nat.beq x.1 0 then some (S, (0, y.1, x.2 + y.2) :: r) else sx_int2 S .iadd x y r
    | _ => none
  | .isub => match st with
    | (0, y) :: (0, x) :: r => if Nat.beq y.1 0 then some (S, (0, x.1, x.2 - y.2) :: r) else sx_int2 S .isub x y r
    | _ => none
  | .idiv => match st with
    | (0, y) :: (0, x) :: r => sx_idr S .idiv x y r
    | _ => none
  | .irem => match st with
    | (0, y) :: (0, x) :: r => sx_idr S .irem x y r
    | _ => none
  | .ldiv => match st with
    | (1, y) :: (1, x) :: r => sx_ldr S .ldiv x y r
    | _ => none
  | .lrem => match st with
    | (1, y) :: (1, x) :: r => sx_ldr S .lrem x y r
    | _ => none
  | .ladd => match st with
    | (1, y) :: (1, x) :: r => sx_lng2 S .ladd x y r
    | _ => none
  | .lsub => match st with
    | (1, y) :: (1, x) :: r => sx_lng2 S .lsub x y r
    | _ => none
  | .lmul => match st with
    | (1, y) :: (1, x) :: r => sx_lng2 S .lmul x y r
    | _ => none
  | .land => match st with
    | (1, y) :: (1, x) :: r => sx_lng2 S .land x y r
    | _ => none
  | .lor => match st with
    | (1, y) :: (1, x) :: r => sx_lng2 S .lor x y r
    | _ => none
  | .imul => match st with
    | (0, y) :: (0, x) :: r => sx_int2 S .imul x y r
    | _ => none
  | .iand => match st with
    | (0, y) :: (0, x) :: r => sx_int2 S .iand x y r
    | _ => none
  | .ior => match st with
    | (0, y) :: (0, x) :: r => sx_int2 S .ior x y r
    | _ => none
  | .ixor => match st with
    | (0, y) :: (0, x) :: r => sx_int2 S .ixor x y r
    | _ => none
  | .ishl => match st with
    | (0, y) :: (0, x) :: r => sx_int2 S .ishl x y r
    | _ => none
  | .ishr => match st with
    | (0, y) :: (0, x) :: r => sx_int2 S .ishr x y r
    | _ => none
  | .iushr => match st with
    | (0, y) :: (0, x) :: r => sx_int2 S .iushr x y r
    | _ => none
  | _ => none
theorem sx_bf {b : Bool} (h : ¬ b = true) : b = false := by cases b with
  | true => exact absurd rfl h
  | false => rfl
theorem sx_b8 {n : Int} (h1 : -128 ≤ n) (h2 : n ≤ 127) : (Int8.ofInt n).toInt32 = Int32.ofInt n := by
  apply Int32.toInt_inj.mp
  rw [Int8.toInt_toInt32, Int8.toInt_ofInt_of_le (by omega) (by omega), t_of32 (by omega) (by omega)]
theorem sx_b16 {n : Int} (h1 : -32768 ≤ n) (h2 : n ≤ 32767) : (Int16.ofInt n).toInt32 = Int32.ofInt n := by
  apply Int32.toInt_inj.mp
  rw [Int16.toInt_toInt32, Int16.toInt_ofInt_of_le (by omega) (by omega), t_of32 (by omega) (by omega)]
theorem sx_lgcmp (x y : Int64) : (lg_cmp x y).toInt = if x.toInt < y.toInt then -1 else if x.toInt = y.toInt then 0 else 1 := by
  unfold lg_cmp
  simp only [gt_iff_lt, Int64.lt_iff_toInt_lt, ← Int64.toInt_inj]
  by_cases h1 : y.toInt < x.toInt
  · rw [if_pos h1, if_neg (by omega), if_neg (by omega)]
    rfl
  · rw [if_neg h1]
    by_cases h2 : x.toInt = y.toInt
    · rw [if_pos h2, if_neg (by omega), if_pos h2]
      rfl
    · rw [if_neg h2, if_pos (by omega)]
      rfl
section SXW
variable {PF : Nat → List Int → List (Nat → Int) → Prop} {τ : Nat → Option Nat} {S S' : sxS} {σ : sxV} {ρ : sxR} {φ : sxF} {wd : va_W}
variable {p : Program} {l : Launch} {e : Env} {R : Room} {s : State} {m : MethodId} {args : Array Value} {below : List Frame} {meth : Method} {c : Code} {H : Heap} {locs : List Loc} {cells slots : Nat} {Q : State → Prop}
variable {cc : ByteArray} {pc : Nat} {ls : Array Slot} {i : Instr} {st st' : List sxA}
theorem sx_cat1 {a : sxA} (h : Nat.beq a.1 1 = false) : (sx_val σ ρ a).category = 1 := by
  obtain ⟨t, a⟩ := a
  have h : Nat.beq t 1 = false := h
  unfold sx_val
  match t, h with
  | 0, _ => rfl
  | 2, _ => rfl
  | t + 3, _ => rfl
theorem sx_cat2 {a : sxA} (h : Nat.beq a.1 1 = true) : (sx_val σ ρ a).category = 2 := by
  obtain ⟨t, a⟩ := a
  have h : t = 1 := Nat.eq_of_beq_eq_true h
  subst h
  rfl
theorem sx_wf0 (hw : sx_wf S) {t : Nat} {n : Int} (ht : t < 2) : sx_wfA S.1.length S.2.1.length (t, 0, n) := Or.inr (Or.inl ⟨ht, hw.1⟩)
theorem sx_val0 (h0 : σ 0 = 0) (n : Int) : sx_val σ ρ (0, 0, n) = .int (Int32.ofInt n) := by
  show Value.int (Int32.ofInt (σ 0 + n)) = _
  rw [h0, Int.zero_add]
theorem sx_val1 (h0 : σ 0 = 0) (n : Int) : sx_val σ ρ (1, 0, n) = .long (Int64.ofInt n) := by
  show Value.long (Int64.ofInt (σ 0 + n)) = _
  rw [h0, Int.zero_add]
theorem sx_wfc {n k : Nat} {a : sxA} {r : List sxA} (ha : sx_wfA n k a) (hr : ∀ a ∈ r, sx_wfA n k a) : ∀ b ∈ a :: r, sx_wfA n k b := fun b hb => by
  rcases List.mem_cons.mp hb with rfl | h
  · exact ha
  · exact hr b h
theorem sx_wft {n k : Nat} {a : sxA} {r : List sxA} (hr : ∀ b ∈ a :: r, sx_wfA n k b) : sx_wfA n k a ∧ ∀ b ∈ r, sx_wfA n k b := ⟨hr a List.mem_cons_self, fun b hb => hr b (List.mem_cons_of_mem _ hb)⟩
set_option maxHeartbeats 1000000 in
theorem sx_pure_ok (hx : p.tables.exec = Jvm.exec) (hb : c.code = cc) (hdg : decode cc pc = .ok (i, sx_ilen i)) (hw : sx_wf S) (hr : ∀ a ∈ st, sx_wfA S.1.length S.2.1.length a) (h : sx_sat PF τ S σ ρ φ wd) (ho : sx_pure S i st = some (S', st'))
    (k : ∀ σ', (∀ j, j < S.1.length → σ' j = σ j) → sx_stepwf S S' st' → sx_sat PF τ S' σ' ρ φ wd → W p l e R s m args below meth c H locs cells slots Q (F0 m (pc + sx_ilen i) ls (st'.map (sx_val σ' ρ)))) : W p l e R s m args below meth c H locs cells slots Q (F0 m pc ls (st.map (sx_val σ ρ))) := by
  have h0 := sx_zero hw h
  unfold sx_pure at ho
  split at ho
  · cases ho
    exact lv_null hx hb hdg (k σ (fun _ _ => rfl) (sx_same_stepwf hw (sx_wfc (Or.inr (Or.inr (Or.inr (by show 2 < 3; omega)))) hr)) h)
  · cases ho
    have k := k σ (fun _ _ => rfl) (sx_same_stepwf hw (sx_wfc (sx_wf0 hw (by omega)) hr)) h
    rw [List.map_cons, sx_val0 h0] at k
    exact lv_iconst hx hb hdg rfl k
  · split at ho
    · rename_i hn
      rw [Bool.and_eq_true] at hn
      cases ho
      have k := k σ (fun _ _ => rfl) (sx_same_stepwf hw (sx_wfc (sx_wf0 hw (by omega)) hr)) h
      rw [List.map_cons, sx_val0 h0] at k
      exact lv_bipush hx hb hdg (sx_b8 (sx_le_iff.mp hn.1) (sx_le_iff.mp hn.2)) k
    · cases ho
  · split at ho
    · rename_i hn
      rw [Bool.and_eq_true] at hn
      cases ho
      have k := k σ (fun _ _ => rfl) (sx_same_stepwf hw (sx_wfc (sx_wf0 hw (by omega)) hr)) h
      rw [List.map_cons, sx_val0 h0] at k
      exact lv_sipush hx hb hdg (sx_b16 (sx_le_iff.mp hn.1) (sx_le_iff.mp hn.2)) k
    · cases ho
  · cases ho
    have k := k σ (fun _ _ => rfl) (sx_same_stepwf hw (sx_wfc (sx_wf0 hw (by omega)) hr)) h
    rw [List.map_cons, sx_val1 h0] at k
    exact lv_lconst hx hb hdg rfl k
  · split at ho
    · split at ho
      · cases ho
      · rename_i hc
        cases ho
        have hr := sx_wft hr
        exact lv_pop hx hb hdg (sx_cat1 (sx_bf hc)) (k σ (fun _ _ => rfl) (sx_same_stepwf hw hr.2) h)
    · cases ho
  · split at ho
    · split at ho
      · cases ho
      · rename_i hc
        cases ho
        have hr' := sx_wft hr
        exact lv_dup hx hb hdg (sx_cat1 (sx_bf hc)) (k σ (fun _ _ => rfl) (sx_same_stepwf hw (sx_wfc hr'.1 hr)) h)
    · cases ho
  · split at ho
    · have hr' := sx_wft hr
      have hr2 := sx_wft hr'.2
      split at ho
      · rename_i hc
        cases ho
        exact lv_dup2_2 hx hb hdg (sx_cat2 hc) (k σ (fun _ _ => rfl) (sx_same_stepwf hw (sx_wfc hr'.1 hr)) h)
      · rename_i hc
        split at ho
        · cases ho
        · rename_i hc2
          cases ho
          exact lv_dup2_11 hx hb hdg (sx_cat1 (sx_bf hc)) (sx_cat1 (sx_bf hc2)) (k σ (fun _ _ => rfl) (sx_same_stepwf hw (sx_wfc hr'.1 (sx_wfc hr2.1 hr))) h)
    · cases ho
  · split at ho
    · rename_i y x r
      have hr' := (sx_wft (sx_wft hr).2).2
      split at ho
      · rename_i q w hq hv
        split at ho
        · rename_i hin
          rw [Bool.and_eq_true] at hin
          cases ho
          obtain ⟨ex, b1, b2⟩ := sx_at64 h.1 hq hin.1
          obtain ⟨ey, b3, b4⟩ := sx_at64 h.1 hv hin.2
          have e1 := sx_lgcmp (Int64.ofInt (sx_tv σ x)) (Int64.ofInt (sx_tv σ y))
          rw [ex, ey] at e1
          have lx := sx_iv_lt hq
          have ly := sx_iv_lt hv
          refine W.lcmp (x := Int64.ofInt (sx_tv σ x)) (y := Int64.ofInt (sx_tv σ y)) hx hb hdg ?_
          refine sx_fini hw hr' h ?_ (fun f hf => (by cases hf)) (fun p hp => ?_) (fun σ' ha hs => k σ' ha (sx_new_stepwf hw hr' (by omega) (fun f hf => (by cases hf)) (fun p hp => ?_)) hs)
          · rw [e1]
            dsimp only
            split
            · omega
            · split <;> omega
          · cases List.mem_singleton.mp hp
            show sx_tv (sx_up σ S.1.length _) (S.1.length, 0) = if sx_tv (sx_up σ S.1.length _) x < sx_tv (sx_up σ S.1.length _) y then -1 else if sx_tv (sx_up σ S.1.length _) x = sx_tv (sx_up σ S.1.length _) y then 0 else 1
            rw [sx_tv_ext sx_up_lt lx, sx_tv_ext sx_up_lt ly, ← e1]
            show sx_up σ S.1.length _ S.1.length + 0 = _
            rw [sx_up_n, Int.add_zero]
          · cases List.mem_singleton.mp hp
            refine ⟨fun t ht => ?_, fun i hi => by cases hi⟩
            simp only [List.mem_cons, List.not_mem_nil, or_false] at ht
            rcases ht with rfl | rfl | rfl <;> (try dsimp only) <;> omega
        · cases ho
      · cases ho
    · cases ho
  · split at ho
    · rename_i y x r
      have hr' := (sx_wft (sx_wft hr).2).2
      cases ho
      refine lv_lshl (x := Int64.ofInt (sx_tv σ x)) (y := Int32.ofInt (sx_tv σ y)) hx hb hdg rfl ?_
      exact sx_finl hw hr' h (t_rng64 _) (fun f hf => (by cases hf)) (fun p hp => (by cases hp)) (fun σ' ha hs => k σ' ha (sx_new_stepwf hw hr' (by omega) (fun f hf => (by cases hf)) (fun p hp => (by cases hp))) hs)
    · cases ho
  · split at ho
    · exact sx_conv_ok hx hb hdg hw (sx_wft hr).2 h ho k
    · cases ho
  · split at ho
    · exact sx_conv_ok hx hb hdg hw (sx_wft hr).2 h ho k
    · cases ho
  · split at ho
    · exact sx_conv_ok hx hb hdg hw (sx_wft hr).2 h ho k
    · cases ho
  · split at ho
    · exact sx_conv_ok hx hb hdg hw (sx_wft hr).2 h ho k
    · cases ho
  · split at ho
    · rename_i y x r
      have w1 := sx_wft hr
      have w2 := sx_wft w1.2
      split at ho
      · rename_i hz
        have hz : y.1 = 0 := Nat.eq_of_beq_eq_true hz
        cases ho
        have k := k σ (fun _ _ => rfl) (sx_same_stepwf hw (sx_wfc (a := (0, x.1, x.2 + y.2)) w2.1 w2.2)) h
        refine lv_iadd (x := Int32.ofInt (sx_tv σ x)) (y := Int32.ofInt (sx_tv σ y)) hx hb hdg ?_
        have e1 : sx_val σ ρ (0, x.1, x.2 + y.2) = .int (Int32.ofInt (sx_tv σ x) + Int32.ofInt (sx_tv σ y)) := by
          show Value.int (Int32.ofInt (σ x.1 + (x.2 + y.2))) = _
          rw [← Int32.ofInt_add]
          unfold sx_tv
          rw [hz, h0]
          congr 2
          omega
        rw [List.map_cons, e1] at k
        exact k
      · split at ho
        · rename_i hz
          have hz : x.1 = 0 := Nat.eq_of_beq_eq_true hz
          cases ho
          have k := k σ (fun _ _ => rfl) (sx_same_stepwf hw (sx_wfc (a := (0, y.1, x.2 + y.2)) w1.1 w2.2)) h
          refine lv_iadd (x := Int32.ofInt (sx_tv σ x)) (y := Int32.ofInt (sx_tv σ y)) hx hb hdg ?_
          have e1 : sx_val σ ρ (0, y.1, x.2 + y.2) = .int (Int32.ofInt (sx_tv σ x) + Int32.ofInt (sx_tv σ y)) := by
            show Value.int (Int32.ofInt (σ y.1 + (x.2 + y.2))) = _
            rw [← Int32.ofInt_add]
            unfold sx_tv
            rw [hz, h0]
            congr 2
            omega
          rw [List.map_cons, e1] at k
          exact k
        · exact sx_int2_ok hx hb hdg hw w2.2 h ho k
    · cases ho
  · split at ho
    · rename_i y x r
      have w1 := sx_wft hr
      have w2 := sx_wft w1.2
      split at ho
      · rename_i hz
        have hz : y.1 = 0 := Nat.eq_of_beq_eq_true hz
        cases ho
        have k := k σ (fun _ _ => rfl) (sx_same_stepwf hw (sx_wfc (a := (0, x.1, x.2 - y.2)) w2.1 w2.2)) h
        refine lv_isub (x := Int32.ofInt (sx_tv σ x)) (y := Int32.ofInt (sx_tv σ y)) hx hb hdg ?_
        have e1 : sx_val σ ρ (0, x.1, x.2 - y.2) = .int (Int32.ofInt (sx_tv σ x) - Int32.ofInt (sx_tv σ y)) := by
          show Value.int (Int32.ofInt (σ x.1 + (x.2 - y.2))) = _
          rw [← Int32.ofInt_sub]
          unfold sx_tv
          rw [hz, h0]
          congr 2
          omega
        rw [List.map_cons, e1] at k
        exact k
      · exact sx_int2_ok hx hb hdg hw w2.2 h ho k
    · cases ho
  · split at ho
    · exact sx_idr_ok hx hb hdg hw (sx_wft (sx_wft hr).2).2 h ho k
    · cases ho
  · split at ho
    · exact sx_idr_ok hx hb hdg hw (sx_wft (sx_wft hr).2).2 h ho k
    · cases ho
  · split at ho
    · exact sx_ldr_ok hx hb hdg hw (sx_wft (sx_wft hr).2).2 h ho k
    · cases ho
  · split at ho
    · exact sx_ldr_ok hx hb hdg hw (sx_wft (sx_wft hr).2).2 h ho k
    · cases ho
  · split at ho
    · exact sx_lng2_ok hx hb hdg hw (sx_wft (sx_wft hr).2).2 h ho k
    · cases ho
  · split at ho
    · exact sx_lng2_ok hx hb hdg hw (sx_wft (sx_wft hr).2).2 h ho k
    · cases ho
  · split at ho
    · exact sx_lng2_ok hx hb hdg hw (sx_wft (sx_wft hr).2).2 h ho k
    · cases ho
  · split at ho
    · exact sx_lng2_ok hx hb hdg hw (sx_wft (sx_wft hr).2).2 h ho k
    · cases ho
  · split at ho
    · exact sx_lng2_ok hx hb hdg hw (sx_wft (sx_wft hr).2).2 h ho k
    · cases ho
  · split at ho
    · exact sx_int2_ok hx hb hdg hw (sx_wft (sx_wft hr).2).2 h ho k
    · cases ho
  · split at ho
    · exact sx_int2_ok hx hb hdg hw (sx_wft (sx_wft hr).2).2 h ho k
    · cases ho
  · split at ho
    · exact sx_int2_ok hx hb hdg hw (sx_wft (sx_wft hr).2).2 h ho k
    · cases ho
  · split at ho
    · exact sx_int2_ok hx hb hdg hw (sx_wft (sx_wft hr).2).2 h ho k
    · cases ho
  · split at ho
    · exact sx_int2_ok hx hb hdg hw (sx_wft (sx_wft hr).2).2 h ho k
    · cases ho
  · split at ho
    · exact sx_int2_ok hx hb hdg hw (sx_wft (sx_wft hr).2).2 h ho k
    · cases ho
  · split at ho
    · exact sx_int2_ok hx hb hdg hw (sx_wft (sx_wft hr).2).2 h ho k
    · cases ho
  · cases ho
end SXW
