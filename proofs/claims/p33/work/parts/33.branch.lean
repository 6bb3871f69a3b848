/-! a checker of walks: branches -/
def sx_asm (S : sxS) (f : sxL) : Option sxS := if sx_dead S.1 f then none else some (sx_asmE S.1 f, S.2.1, S.2.2.1, (match f.1 with
  | [] => S.2.2.2.1
  | [_] => S.2.2.2.1
  | _ => f :: S.2.2.2.1), S.2.2.2.2)
def sx_hold (c : ClassFile.Cond) (x y : Int) : Prop := match c with
  | .eq => x = y
  | .ne => x ≠ y
  | .lt => x < y
  | .ge => y ≤ x
  | .gt => y < x
  | .le => x ≤ y
def sx_neg (c : ClassFile.Cond) : ClassFile.Cond := match c with
  | .eq => .ne
  | .ne => .eq
  | .lt => .ge
  | .ge => .lt
  | .gt => .le
  | .le => .gt
/-- the state in which a condition holds; none: it can't -/
def sx_brf (S : sxS) (c : ClassFile.Cond) (x y : sxT) : Option sxS := match c with
  | .lt => sx_asm S (sx_dif y x (-1))
  | .ge => sx_asm S (sx_dif x y 0)
  | .gt => sx_asm S (sx_dif x y (-1))
  | .le => sx_asm S (sx_dif y x 0)
  | .eq => (match sx_asm S (sx_dif x y 0) with
    | some S' => sx_asm S' (sx_dif y x 0)
    | none => none)
  | .ne => if sx_prove S.1 S.2.2.2.1 (sx_dif y x 0) then sx_asm S (sx_dif y x (-1)) else if sx_prove S.1 S.2.2.2.1 (sx_dif x y 0) then sx_asm S (sx_dif x y (-1)) else some (S.1, S.2.1, S.2.2.1, S.2.2.2.1, (0, [x, y], []) :: S.2.2.2.2.1, S.2.2.2.2.2)
/-- a number that says how two compare -/
def sx_cmpl : List sxP → sxT → Option (sxT × sxT)
  | [], _ => none
  | p :: l, t => match p with
    | (8, [r, x, y], []) => if decide (r = t) then some (x, y) else sx_cmpl l t
    | _ => sx_cmpl l t
def sx_swt (S : sxS) (pc : Nat) (x : sxT) (r : List sxA) : Int → List Int → List (Option (sxS × List sxA × Nat))
  | _, [] => []
  | j, o :: l => (match sx_brf S .eq x (0, j) with
    | some S' => some (S', r, ((pc : Int) + o).toNat)
    | none => none) :: sx_swt S pc x r (j + 1) l
def sx_opt (o : Option sxS) (r : List sxA) (pc : Nat) : List (sxS × List sxA × Nat) := match o with
  | some S => [(S, r, pc)]
  | none => []
section SXB
variable {PF : Nat → List Int → List (Nat → Int) → Prop} {τ : Nat → Option Nat} {S S' : sxS} {σ : sxV} {ρ : sxR} {φ : sxF} {ws : va_W}
/-- a state that says more of the same names -/
def sx_more (PF : Nat → List Int → List (Nat → Int) → Prop) (τ : Nat → Option Nat) (S S' : sxS) (σ : sxV) (ρ : sxR) (φ : sxF) (ws : va_W) : Prop := sx_wf S' ∧ S'.1.length = S.1.length ∧ S'.2.1 = S.2.1 ∧ S'.2.2.1 = S.2.2.1 ∧ sx_sat PF τ S' σ ρ φ ws
theorem sx_asm_ok (hw : sx_wf S) (h : sx_sat PF τ S σ ρ φ ws) {f : sxL} (hfw : sx_wfL S.1.length f) (hf : 0 ≤ sx_lev σ f) : ∃ S', sx_asm S f = some S' ∧ sx_more PF τ S S' σ ρ φ ws := by
  have hd : sx_dead S.1 f = false := by
    cases hq : sx_dead S.1 f with
    | false => rfl
    | true => exact (sx_dead_ok h.1 hq hf).elim
  unfold sx_asm
  rw [hd]
  refine ⟨_, rfl, ?_⟩
  have hl := sx_asmE_len S.1 f
  obtain ⟨w0, w00, w1, w2, w3, w4⟩ := hw
  obtain ⟨g1, g2, g3, g4, g5, g6⟩ := h
  have hz := sx_asmE_ok g1 hf
  have key : ∀ x ∈ (match f.1 with
  | [] => S.2.2.2.1
  | [_] => S.2.2.2.1
  | _ => f :: S.2.2.2.1), x ∈ S.2.2.2.1 ∨ x = f := by
    intro x hx
    split at hx
    · exact Or.inl hx
    · exact Or.inl hx
    · rcases List.mem_cons.mp hx with rfl | hx
      · exact Or.inr rfl
      · exact Or.inl hx
  refine ⟨⟨?_, ?_, fun x hx => ?_, fun x hx => ?_, fun x hx => ?_, w4⟩, hl, rfl, rfl, hz, g2, fun x hx => ?_, g4, g5, g6⟩
  · show 0 < (sx_asmE S.1 f).length
    rw [hl]
    exact w0
  · have hlt : 0 < (sx_asmE S.1 f).length := by rw [hl]; exact w0
    obtain ⟨e', q1, q2, q3⟩ := sx_asmE_sh S.1 f 0 _ (List.getElem?_eq_getElem hlt)
    obtain ⟨e0, r1, r2, r3⟩ := w00
    rw [q1] at r1
    cases r1
    exact ⟨_, List.getElem?_eq_getElem hlt, by omega, by omega⟩
  · show sx_wfL (sx_asmE S.1 f).length x
    rw [hl]
    rcases key x hx with q | rfl
    · exact w1 x q
    · exact hfw
  · show sx_wfP (sx_asmE S.1 f).length _ x
    rw [hl]
    exact w2 x hx
  · show sx_wfM (sx_asmE S.1 f).length _ x
    rw [hl]
    exact w3 x hx
  · rcases key x hx with q | rfl
    · exact g3 x q
    · exact hf
theorem sx_dif_wf {n : Nat} {x y : sxT} {k : Int} (hx : x.1 < n) (hy : y.1 < n) : sx_wfL n (sx_dif x y k) := by
  intro q hq
  have hq : q ∈ sx_add (-1) [(y.1, 1)] [(x.1, 1)] := hq
  unfold sx_add sx_add sx_ins sx_ins at hq
  split at hq
  · cases List.mem_singleton.mp hq
    exact hy
  · rcases List.mem_cons.mp hq with rfl | hq
    · exact hx
    · cases List.mem_singleton.mp hq
      exact hy
theorem sx_more.trans {S1 S2 S3 : sxS} (h1 : sx_more PF τ S1 S2 σ ρ φ ws) (h2 : sx_more PF τ S2 S3 σ ρ φ ws) : sx_more PF τ S1 S3 σ ρ φ ws := ⟨h2.1, h2.2.1.trans h1.2.1, h2.2.2.1.trans h1.2.2.1, h2.2.2.2.1.trans h1.2.2.2.1, h2.2.2.2.2⟩
theorem sx_brf_ok (hw : sx_wf S) (h : sx_sat PF τ S σ ρ φ ws) {c : ClassFile.Cond} {x y : sxT} (hx : x.1 < S.1.length) (hy : y.1 < S.1.length) (hc : sx_hold c (sx_tv σ x) (sx_tv σ y)) : ∃ S', sx_brf S c x y = some S' ∧ sx_more PF τ S S' σ ρ φ ws := by
  have asm : ∀ {S : sxS}, sx_wf S → sx_sat PF τ S σ ρ φ ws → ∀ (a b : sxT) (k : Int), a.1 < S.1.length → b.1 < S.1.length → 0 ≤ sx_tv σ a - sx_tv σ b + k → ∃ S', sx_asm S (sx_dif a b k) = some S' ∧ sx_more PF τ S S' σ ρ φ ws := fun hw h a b k ha hb hk => sx_asm_ok hw h (sx_dif_wf ha hb) (by rw [sx_dif_ev]; exact hk)
  unfold sx_brf
  cases c with
  | lt => exact asm hw h y x (-1) hy hx (by have hc : sx_tv σ x < sx_tv σ y := hc; omega)
  | ge => exact asm hw h x y 0 hx hy (by have hc : sx_tv σ y ≤ sx_tv σ x := hc; omega)
  | gt => exact asm hw h x y (-1) hx hy (by have hc : sx_tv σ y < sx_tv σ x := hc; omega)
  | le => exact asm hw h y x 0 hy hx (by have hc : sx_tv σ x ≤ sx_tv σ y := hc; omega)
  | eq =>
    have hc : sx_tv σ x = sx_tv σ y := hc
    obtain ⟨S1, e1, m1⟩ := asm hw h x y 0 hx hy (by omega)
    obtain ⟨S2, e2, m2⟩ := asm m1.1 m1.2.2.2.2 y x 0 (by rw [m1.2.1]; exact hy) (by rw [m1.2.1]; exact hx) (by omega)
    dsimp only
    rw [e1]
    exact ⟨S2, e2, m1.trans m2⟩
  | ne =>
    have hc : sx_tv σ x ≠ sx_tv σ y := hc
    dsimp only
    split
    · rename_i hp
      have := sx_prove_ok h.1 h.2.2.1 hp
      rw [sx_dif_ev] at this
      exact asm hw h y x (-1) hy hx (by omega)
    · split
      · rename_i hp
        have := sx_prove_ok h.1 h.2.2.1 hp
        rw [sx_dif_ev] at this
        exact asm hw h x y (-1) hx hy (by omega)
      · refine ⟨_, rfl, ?_⟩
        obtain ⟨w0, w00, w1, w2, w3, w4⟩ := hw
        obtain ⟨g1, g2, g3, g4, g5, g6⟩ := h
        refine ⟨⟨w0, w00, w1, fun p hp => ?_, w3, w4⟩, rfl, rfl, rfl, g1, g2, g3, fun p hp => ?_, g5, g6⟩
        · rcases List.mem_cons.mp hp with rfl | hp
          · refine ⟨fun t ht => ?_, fun i hi => by cases hi⟩
            simp only [List.mem_cons, List.not_mem_nil, or_false] at ht
            rcases ht with rfl | rfl
            · exact hx
            · exact hy
          · exact w2 p hp
        · rcases List.mem_cons.mp hp with rfl | hp
          · exact hc
          · exact g4 p hp
theorem sx_cmpl_ok (hw : sx_wf S) (h : sx_sat PF τ S σ ρ φ ws) {t x y : sxT} : ∀ {l : List sxP}, (∀ p ∈ l, p ∈ S.2.2.2.2.1) → sx_cmpl l t = some (x, y) → x.1 < S.1.length ∧ y.1 < S.1.length ∧ sx_tv σ t = if sx_tv σ x < sx_tv σ y then -1 else if sx_tv σ x = sx_tv σ y then 0 else 1
  | p :: l, hl, hc => by
    unfold sx_cmpl at hc
    split at hc
    · rename_i r x' y'
      split at hc
      · rename_i hd
        have hd := of_decide_eq_true hd
        subst hd
        cases hc
        have hp := hl _ List.mem_cons_self
        have w := hw.2.2.2.1 _ hp
        exact ⟨w.1 x (by simp), w.1 y (by simp), h.2.2.2.1 _ hp⟩
      · exact sx_cmpl_ok hw h (fun q hq => hl q (List.mem_cons_of_mem _ hq)) hc
    · exact sx_cmpl_ok hw h (fun q hq => hl q (List.mem_cons_of_mem _ hq)) hc
/-- what is compared, for a branch by one number -/
def sx_what (S : sxS) (t : sxT) : sxT × sxT := match sx_cmpl S.2.2.2.2.1 t with
  | some q => q
  | none => (t, (0, 0))
theorem sx_what_ok (hw : sx_wf S) (h : sx_sat PF τ S σ ρ φ ws) {t : sxT} (ht : t.1 < S.1.length) : (sx_what S t).1.1 < S.1.length ∧ (sx_what S t).2.1 < S.1.length ∧ ∀ c, sx_hold c (sx_tv σ t) 0 ↔ sx_hold c (sx_tv σ (sx_what S t).1) (sx_tv σ (sx_what S t).2) := by
  unfold sx_what
  split
  · rename_i q hq
    obtain ⟨x, y⟩ := q
    obtain ⟨h1, h2, h3⟩ := sx_cmpl_ok hw h (fun _ z => z) hq
    refine ⟨h1, h2, fun c => ?_⟩
    rw [h3]
    unfold sx_hold
    dsimp only
    split <;> split <;> (try split) <;> omega
  · refine ⟨ht, hw.1, fun c => ?_⟩
    have : sx_tv σ (0, 0) = 0 := by
      show σ 0 + 0 = 0
      rw [sx_zero hw h]
      rfl
    rw [this]
end SXB
