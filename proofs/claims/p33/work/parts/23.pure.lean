/-! a checker of walks: instructions that read and write the stack alone -/
def sx_ilen (i : Instr) : Nat := match i with
  | .bipush _ => 2
  | .sipush _ => 3
  | .aload _ => 2
  | .astore _ => 2
  | .iload _ => 2
  | .istore _ => 2
  | .lload _ => 2
  | .lstore _ => 2
  | .iinc _ _ => 3
  | .ldc _ => 2
  | .ldc_w _ => 3
  | .ldc2_w _ => 3
  | .getfield _ => 3
  | .putfield _ => 3
  | .getstatic _ => 3
  | .goto _ => 3
  | .if_icmp _ _ => 3
  | .ifCond _ _ => 3
  | .ifnull _ => 3
  | .ifnonnull _ => 3
  | .invokespecial _ => 3
  | .invokestatic _ => 3
  | .invokevirtual _ => 3
  | .new _ => 3
  | .newarray _ => 2
  | .anewarray _ => 3
  | _ => 1
/-- a new number, with facts -/
def sx_new (S : sxS) (e : sxE) (fl : List sxL) (pl : List sxP) : sxS := (S.1 ++ [e], S.2.1, S.2.2.1, fl ++ S.2.2.2.1, pl ++ S.2.2.2.2.1, S.2.2.2.2.2)
def sx_up (σ : sxV) (n : Nat) (x : Int) : sxV := fun i => if i = n then x else σ i
theorem sx_up_lt {σ : sxV} {n : Nat} {x : Int} : ∀ i, i < n → sx_up σ n x i = σ i := fun i h => if_neg (by omega)
theorem sx_up_n {σ : sxV} {n : Nat} {x : Int} : sx_up σ n x n = x := if_pos rfl
theorem sx_wfA_mono {n n' k k' : Nat} (h1 : n ≤ n') (h2 : k ≤ k') {a : sxA} (h : sx_wfA n k a) : sx_wfA n' k' a := by
  unfold sx_wfA at h ⊢
  omega
theorem sx_wfL_mono {n n' : Nat} (h1 : n ≤ n') {a : sxL} (h : sx_wfL n a) : sx_wfL n' a := fun q hq => Nat.lt_of_lt_of_le (h q hq) h1
theorem sx_wfP_mono {n n' c c' : Nat} (h1 : n ≤ n') (h2 : c ≤ c') {a : sxP} (h : sx_wfP n c a) : sx_wfP n' c' a := ⟨fun q hq => Nat.lt_of_lt_of_le (h.1 q hq) h1, fun q hq => Nat.lt_of_lt_of_le (h.2 q hq) h2⟩
theorem sx_wfM_mono {n n' k k' : Nat} (h1 : n ≤ n') (h2 : k ≤ k') {a : sxM} (h : sx_wfM n k a) : sx_wfM n' k' a := ⟨Nat.lt_of_lt_of_le h.1 h2, Nat.lt_of_lt_of_le h.2.1 h1, sx_wfA_mono h1 h2 h.2.2⟩
theorem sx_wfC_mono {k k' c c' : Nat} (h1 : k ≤ k') (h2 : c ≤ c') {a : sxC} (h : sx_wfC k c a) : sx_wfC k' c' a := ⟨Nat.lt_of_lt_of_le h.1 h1, Nat.lt_of_lt_of_le h.2 h2⟩
theorem sx_new_wf {S : sxS} (hw : sx_wf S) {e : sxE} {fl : List sxL} {pl : List sxP} (hf : ∀ f ∈ fl, sx_wfL (S.1.length + 1) f) (hp : ∀ p ∈ pl, sx_wfP (S.1.length + 1) S.2.2.1 p) : sx_wf (sx_new S e fl pl) := by
  obtain ⟨w0, w00, w1, w2, w3, w4⟩ := hw
  have hl : (sx_new S e fl pl).1.length = S.1.length + 1 := by simp [sx_new]
  refine ⟨by omega, ?_, fun f hm => ?_, fun p hm => ?_, fun m hm => ?_, w4⟩
  · exact sx_z0_app w00 _
  · rw [hl]
    rcases List.mem_append.mp hm with h | h
    · exact hf f h
    · exact sx_wfL_mono (by omega) (w1 f h)
  · rw [hl]
    rcases List.mem_append.mp hm with h | h
    · exact hp p h
    · exact sx_wfP_mono (by omega) (Nat.le_refl _) (w2 p h)
  · rw [hl]
    exact sx_wfM_mono (by omega) (Nat.le_refl _) (w3 m hm)
section SXN
variable {PF : Nat → List Int → List (Nat → Int) → Prop} {τ : Nat → Option Nat} {S : sxS} {σ : sxV} {ρ : sxR} {φ : sxF} {ws : va_W}
theorem sx_I_push {es : List sxE} (h : sx_I es σ) {e : sxE} {x : Int} (h1 : e.1 ≤ x) (h2 : x ≤ e.2) : sx_I (es ++ [e]) (sx_up σ es.length x) := by
  intro i e' hi
  by_cases hl : i < es.length
  · rw [List.getElem?_append_left hl] at hi
    rw [sx_up_lt i hl]
    exact h i e' hi
  · rw [List.getElem?_append_right (by omega)] at hi
    have hz : i - es.length < 1 := (List.getElem?_eq_some_iff.mp hi).1
    have hk : i = es.length := by omega
    subst hk
    rw [Nat.sub_self] at hi
    cases hi
    rw [sx_up_n]
    exact ⟨h1, h2⟩
theorem sx_new_ok (hw : sx_wf S) (h : sx_sat PF τ S σ ρ φ ws) {e : sxE} {x : Int} (h1 : e.1 ≤ x) (h2 : x ≤ e.2) {fl : List sxL} {pl : List sxP} (hf : ∀ f ∈ fl, 0 ≤ sx_lev (sx_up σ S.1.length x) f) (hp : ∀ p ∈ pl, sx_pok PF (sx_up σ S.1.length x) φ p) : sx_sat PF τ (sx_new S e fl pl) (sx_up σ S.1.length x) ρ φ ws := by
  have h' := sx_sat_ext PF (σ' := sx_up σ S.1.length x) (ρ' := ρ) (φ' := φ) hw ⟨sx_up_lt, fun _ _ => rfl, fun _ _ => rfl⟩ h
  obtain ⟨g1, g2, g3, g4, g5, g6⟩ := h'
  refine ⟨sx_I_push h.1 h1 h2, g2, fun f hm => ?_, fun p hm => ?_, g5, g6⟩
  · rcases List.mem_append.mp hm with q | q
    · exact hf f q
    · exact g3 f q
  · rcases List.mem_append.mp hm with q | q
    · exact hp p q
    · exact g4 p q
/-- two numbers, at the stack's top, as numbers -/
theorem sx_at32 (h : sx_I S.1 σ) {t : sxT} {a b : Int} (hi : sx_iv S.1 t = some (a, b)) (hr : sx_in32 a b = true) : (Int32.ofInt (sx_tv σ t)).toInt = sx_tv σ t ∧ a ≤ sx_tv σ t ∧ sx_tv σ t ≤ b := by
  have h1 := sx_iv_ok h hi
  have h2 := sx_in32_ok hr
  exact ⟨t_of32 (by omega) (by omega), h1⟩
theorem sx_at64 (h : sx_I S.1 σ) {t : sxT} {a b : Int} (hi : sx_iv S.1 t = some (a, b)) (hr : sx_in64 a b = true) : (Int64.ofInt (sx_tv σ t)).toInt = sx_tv σ t ∧ a ≤ sx_tv σ t ∧ sx_tv σ t ≤ b := by
  have h1 := sx_iv_ok h hi
  have h2 := sx_in64_ok hr
  exact ⟨t_of64 (by omega) (by omega), h1⟩
end SXN
/-- what an operation of two ints gives: interval and facts, by the terms and their intervals; n is the new name -/
def sx_op2 (i : Instr) (n : Nat) (x y : sxT) (a b c d : Int) : Option (sxE × List sxL × List sxP) := match i with
  | .iadd => some (if sx_in32 (a + c) (b + d) then ((a + c, b + d), [([(n, 1), (x.1, -1), (y.1, -1)], -(x.2 + y.2)), ([(n, -1), (x.1, 1), (y.1, 1)], x.2 + y.2)], []) else (sx_full, [], []))
  | .isub => some (if sx_in32 (a - d) (b - c) then ((a - d, b - c), [([(n, 1), (x.1, -1), (y.1, 1)], -(x.2 - y.2)), ([(n, -1), (x.1, 1), (y.1, -1)], x.2 - y.2)], []) else (sx_full, [], []))
  | .imul => some (if Nat.beq y.1 0 && sx_in32 (sx_min (a * y.2) (b * y.2)) (sx_max (a * y.2) (b * y.2)) then ((sx_min (a * y.2) (b * y.2), sx_max (a * y.2) (b * y.2)), [([(n, 1), (x.1, -y.2)], -(x.2 * y.2)), ([(n, -1), (x.1, y.2)], x.2 * y.2)], [])
      else if Nat.beq x.1 0 && sx_in32 (sx_min (c * x.2) (d * x.2)) (sx_max (c * x.2) (d * x.2)) then ((sx_min (c * x.2) (d * x.2), sx_max (c * x.2) (d * x.2)), [([(n, 1), (y.1, -x.2)], -(y.2 * x.2)), ([(n, -1), (y.1, x.2)], y.2 * x.2)], [])
      else (sx_mul a b c d, [], []))
  | .iand => some (sx_and a b c d, [], [(1, [x, y, (n, 0)], [])])
  | .ior => some (sx_or a b c d, [], [(2, [x, y, (n, 0)], [])])
  | .ixor => some (sx_full, [], [])
  | .ishl => some (sx_shl a b c d, [], [(3, [x, y, (n, 0)], [])])
  | .ishr => some (sx_shr a b c d, [], [(4, [x, y, (n, 0)], [])])
  | .iushr => some (sx_full, [], [])
  | _ => none
/-- its meaning -/
def sx_sem2 (i : Instr) (x y : Int32) : Int32 := match i with
  | .iadd => x + y
  | .isub => x - y
  | .imul => x * y
  | .iand => x &&& y
  | .ior => x ||| y
  | .ixor => x ^^^ y
  | .ishl => x <<< (y &&& 31)
  | .ishr => x >>> (y &&& 31)
  | _ => (x.toUInt32 >>> (y.toUInt32 &&& Int32.toUInt32 31)).toInt32
theorem sx_cmulb {a b c x : Int} (h1 : a ≤ x) (h2 : x ≤ b) : sx_min (a * c) (b * c) ≤ x * c ∧ x * c ≤ sx_max (a * c) (b * c) := by
  have m := @sx_min_le (a * c) (b * c)
  have M := @sx_le_max (a * c) (b * c)
  rcases Int.le_total 0 c with h | h
  · have e1 := Int.mul_le_mul_of_nonneg_right h1 h
    have e2 := Int.mul_le_mul_of_nonneg_right h2 h
    omega
  · have e1 := Int.mul_le_mul_of_nonpos_right h1 h
    have e2 := Int.mul_le_mul_of_nonpos_right h2 h
    omega
theorem sx_op2_ok {PF : Nat → List Int → List (Nat → Int) → Prop} {i : Instr} {n : Nat} {x y : sxT} {a b c d : Int} {e : sxE} {fl : List sxL} {pl : List sxP} {σ : sxV} {φ : sxF} {nc : Nat} (ho : sx_op2 i n x y a b c d = some (e, fl, pl)) (hx : x.1 < n) (hy : y.1 < n) (h0 : σ 0 = 0)
    (ex : (Int32.ofInt (sx_tv σ x)).toInt = sx_tv σ x) (ey : (Int32.ofInt (sx_tv σ y)).toInt = sx_tv σ y) (h1 : a ≤ sx_tv σ x) (h2 : sx_tv σ x ≤ b) (h3 : c ≤ sx_tv σ y) (h4 : sx_tv σ y ≤ d) {z : Int32} (hz : z = sx_sem2 i (Int32.ofInt (sx_tv σ x)) (Int32.ofInt (sx_tv σ y))) :
    (e.1 ≤ z.toInt ∧ z.toInt ≤ e.2) ∧ (∀ f ∈ fl, sx_wfL (n + 1) f ∧ 0 ≤ sx_lev (sx_up σ n z.toInt) f) ∧ ∀ p ∈ pl, sx_wfP (n + 1) nc p ∧ sx_pok PF (sx_up σ n z.toInt) φ p := by
  have ux : sx_up σ n z.toInt x.1 = σ x.1 := sx_up_lt _ hx
  have uy : sx_up σ n z.toInt y.1 = σ y.1 := sx_up_lt _ hy
  have un : sx_up σ n z.toInt n = z.toInt := sx_up_n
  have tx : sx_tv (sx_up σ n z.toInt) x = sx_tv σ x := by unfold sx_tv; rw [ux]
  have ty : sx_tv (sx_up σ n z.toInt) y = sx_tv σ y := by unfold sx_tv; rw [uy]
  have tn : sx_tv (sx_up σ n z.toInt) (n, 0) = z.toInt := by unfold sx_tv; rw [un]; omega
  have n0 : n ≠ 0 := by omega
  have u0 : sx_up σ n z.toInt 0 = 0 := by rw [sx_up_lt 0 (by omega)]; exact h0
  have wp : ∀ k : Nat, sx_wfP (n + 1) nc (k, [x, y, (n, 0)], []) := fun k => by
    refine ⟨fun t ht => ?_, fun i hi => by cases hi⟩
    simp only [List.mem_cons, List.not_mem_nil, or_false] at ht
    rcases ht with rfl | rfl | rfl <;> omega
  unfold sx_op2 at ho
  split at ho
  · -- iadd
    have hz : z = Int32.ofInt (sx_tv σ x) + Int32.ofInt (sx_tv σ y) := hz
    split at ho
    · rename_i hr
      have hr := sx_in32_ok hr
      have ez : z.toInt = sx_tv σ x + sx_tv σ y := by rw [hz, ← Int32.ofInt_add, t_of32 (by omega) (by omega)]
      cases ho
      refine ⟨by show a + c ≤ z.toInt ∧ z.toInt ≤ b + d; omega, fun f hf => ?_, fun p hp => by cases hp⟩
      unfold sx_tv at ez
      simp only [List.mem_cons, List.not_mem_nil, or_false] at hf
      rcases hf with rfl | rfl
      · refine ⟨fun q hq => ?_, ?_⟩
        · simp only [List.mem_cons, List.not_mem_nil, or_false] at hq
          rcases hq with rfl | rfl | rfl <;> dsimp only <;> omega
        · simp only [sx_lev, sx_ev, ux, uy, un]
          omega
      · refine ⟨fun q hq => ?_, ?_⟩
        · simp only [List.mem_cons, List.not_mem_nil, or_false] at hq
          rcases hq with rfl | rfl | rfl <;> dsimp only <;> omega
        · simp only [sx_lev, sx_ev, ux, uy, un]
          omega
    · cases ho
      exact ⟨t_rng32 z, fun f hf => (by cases hf), fun p hp => (by cases hp)⟩
  · -- isub
    have hz : z = Int32.ofInt (sx_tv σ x) - Int32.ofInt (sx_tv σ y) := hz
    split at ho
    · rename_i hr
      have hr := sx_in32_ok hr
      have ez : z.toInt = sx_tv σ x - sx_tv σ y := by rw [hz, ← Int32.ofInt_sub, t_of32 (by omega) (by omega)]
      cases ho
      refine ⟨by show a - d ≤ z.toInt ∧ z.toInt ≤ b - c; omega, fun f hf => ?_, fun p hp => by cases hp⟩
      unfold sx_tv at ez
      simp only [List.mem_cons, List.not_mem_nil, or_false] at hf
      rcases hf with rfl | rfl
      · refine ⟨fun q hq => ?_, ?_⟩
        · simp only [List.mem_cons, List.not_mem_nil, or_false] at hq
          rcases hq with rfl | rfl | rfl <;> dsimp only <;> omega
        · simp only [sx_lev, sx_ev, ux, uy, un]
          omega
      · refine ⟨fun q hq => ?_, ?_⟩
        · simp only [List.mem_cons, List.not_mem_nil, or_false] at hq
          rcases hq with rfl | rfl | rfl <;> dsimp only <;> omega
        · simp only [sx_lev, sx_ev, ux, uy, un]
          omega
    · cases ho
      exact ⟨t_rng32 z, fun f hf => (by cases hf), fun p hp => (by cases hp)⟩
  · -- imul
    have hz : z = Int32.ofInt (sx_tv σ x) * Int32.ofInt (sx_tv σ y) := hz
    split at ho
    · rename_i hr
      rw [Bool.and_eq_true] at hr
      have hy0 : y.1 = 0 := Nat.eq_of_beq_eq_true hr.1
      have hr := sx_in32_ok hr.2
      have ty0 : sx_tv σ y = y.2 := by unfold sx_tv; rw [hy0, h0]; omega
      have hb := sx_cmulb (c := y.2) h1 h2
      have ez : z.toInt = sx_tv σ x * y.2 := by rw [hz, ← Int32.ofInt_mul, ty0, t_of32 (by omega) (by omega)]
      cases ho
      refine ⟨by rw [ez]; exact hb, fun f hf => ?_, fun p hp => by cases hp⟩
      have ez2 : z.toInt = σ x.1 * y.2 + x.2 * y.2 := by rw [ez]; unfold sx_tv; rw [Int.add_mul]
      simp only [List.mem_cons, List.not_mem_nil, or_false] at hf
      rcases hf with rfl | rfl
      · refine ⟨fun q hq => ?_, ?_⟩
        · simp only [List.mem_cons, List.not_mem_nil, or_false] at hq
          rcases hq with rfl | rfl <;> dsimp only <;> omega
        · simp only [sx_lev, sx_ev, ux, un]
          rw [Int.neg_mul, Int.mul_comm y.2]
          omega
      · refine ⟨fun q hq => ?_, ?_⟩
        · simp only [List.mem_cons, List.not_mem_nil, or_false] at hq
          rcases hq with rfl | rfl <;> dsimp only <;> omega
        · simp only [sx_lev, sx_ev, ux, un]
          rw [Int.mul_comm y.2]
          omega
    · split at ho
      · rename_i hr
        rw [Bool.and_eq_true] at hr
        have hx0 : x.1 = 0 := Nat.eq_of_beq_eq_true hr.1
        have hr := sx_in32_ok hr.2
        have tx0 : sx_tv σ x = x.2 := by unfold sx_tv; rw [hx0, h0]; omega
        have hb := sx_cmulb (c := x.2) h3 h4
        have ez : z.toInt = sx_tv σ y * x.2 := by rw [hz, ← Int32.ofInt_mul, tx0, Int.mul_comm, t_of32 (by omega) (by omega)]
        cases ho
        refine ⟨by rw [ez]; exact hb, fun f hf => ?_, fun p hp => by cases hp⟩
        have ez2 : z.toInt = σ y.1 * x.2 + y.2 * x.2 := by rw [ez]; unfold sx_tv; rw [Int.add_mul]
        simp only [List.mem_cons, List.not_mem_nil, or_false] at hf
        rcases hf with rfl | rfl
        · refine ⟨fun q hq => ?_, ?_⟩
          · simp only [List.mem_cons, List.not_mem_nil, or_false] at hq
            rcases hq with rfl | rfl <;> dsimp only <;> omega
          · simp only [sx_lev, sx_ev, uy, un]
            rw [Int.neg_mul, Int.mul_comm x.2]
            omega
        · refine ⟨fun q hq => ?_, ?_⟩
          · simp only [List.mem_cons, List.not_mem_nil, or_false] at hq
            rcases hq with rfl | rfl <;> dsimp only <;> omega
          · simp only [sx_lev, sx_ev, uy, un]
            rw [Int.mul_comm x.2]
            omega
      · cases ho
        refine ⟨?_, fun f hf => (by cases hf), fun p hp => (by cases hp)⟩
        rw [hz]
        exact sx_mul_ok (by rw [ex]; exact h1) (by rw [ex]; exact h2) (by rw [ey]; exact h3) (by rw [ey]; exact h4)
  · -- iand
    have hz : z = Int32.ofInt (sx_tv σ x) &&& Int32.ofInt (sx_tv σ y) := hz
    cases ho
    refine ⟨?_, fun f hf => (by cases hf), fun p hp => ?_⟩
    · rw [hz]
      exact sx_and_ok (by rw [ex]; exact h1) (by rw [ex]; exact h2) (by rw [ey]; exact h3) (by rw [ey]; exact h4)
    · cases List.mem_singleton.mp hp
      refine ⟨wp 1, ?_⟩
      show sx_tv (sx_up σ n z.toInt) (n, 0) = _
      rw [tn, hz]
      simp only [List.map, List.getD_cons_zero, List.getD_cons_succ, tx, ty, ← hz]
  · have hz : z = Int32.ofInt (sx_tv σ x) ||| Int32.ofInt (sx_tv σ y) := hz
    cases ho
    refine ⟨?_, fun f hf => (by cases hf), fun p hp => ?_⟩
    · rw [hz]
      exact sx_or_ok (by rw [ex]; exact h1) (by rw [ex]; exact h2) (by rw [ey]; exact h3) (by rw [ey]; exact h4)
    · cases List.mem_singleton.mp hp
      refine ⟨wp 2, ?_⟩
      show sx_tv (sx_up σ n z.toInt) (n, 0) = _
      rw [tn, hz]
      simp only [List.map, List.getD_cons_zero, List.getD_cons_succ, tx, ty, ← hz]
  · cases ho
    exact ⟨t_rng32 z, fun f hf => (by cases hf), fun p hp => (by cases hp)⟩
  · have hz : z = Int32.ofInt (sx_tv σ x) <<< (Int32.ofInt (sx_tv σ y) &&& 31) := hz
    cases ho
    refine ⟨?_, fun f hf => (by cases hf), fun p hp => ?_⟩
    · rw [hz]
      exact sx_shl_ok (by rw [ex]; exact h1) (by rw [ex]; exact h2) (by rw [ey]; exact h3) (by rw [ey]; exact h4)
    · cases List.mem_singleton.mp hp
      refine ⟨wp 3, ?_⟩
      show sx_tv (sx_up σ n z.toInt) (n, 0) = _
      rw [tn, hz]
      simp only [List.map, List.getD_cons_zero, List.getD_cons_succ, tx, ty, ← hz]
  · have hz : z = Int32.ofInt (sx_tv σ x) >>> (Int32.ofInt (sx_tv σ y) &&& 31) := hz
    cases ho
    refine ⟨?_, fun f hf => (by cases hf), fun p hp => ?_⟩
    · rw [hz]
      exact sx_shr_ok (by rw [ex]; exact h1) (by rw [ex]; exact h2) (by rw [ey]; exact h3) (by rw [ey]; exact h4)
    · cases List.mem_singleton.mp hp
      refine ⟨wp 4, ?_⟩
      show sx_tv (sx_up σ n z.toInt) (n, 0) = _
      rw [tn, hz]
      simp only [List.map, List.getD_cons_zero, List.getD_cons_succ, tx, ty, ← hz]
  · cases ho
    exact ⟨t_rng32 z, fun f hf => (by cases hf), fun p hp => (by cases hp)⟩
  · cases ho
