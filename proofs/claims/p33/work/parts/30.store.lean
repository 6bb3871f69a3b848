/-! a checker of walks: writing the heap -/
abbrev sxK : Type := List (Nat × Nat × Nat)
def sx_inM (M : sxK) (r k : Nat) : Prop := ∃ q ∈ M, q.1 = r ∧ q.2.1 ≤ k ∧ k < q.2.2
/-- what of a cell stays that isn't among what may change -/
def sx_like (M : sxK) (r : Nat) (e0 e : va_E) : Prop := match e0, e with
  | .inr o0, .inr o => o.1 = o0.1 ∧ o.2.length = o0.2.length ∧ ∀ k : Nat, ¬ sx_inM M r k → o.2[k]? = o0.2[k]?
  | .inl a0, .inl a => a.1 = a0.1 ∧ a.2.1 = a0.2.1 ∧ ∀ j : Nat, j < a.2.1 → ¬ sx_inM M r j → sx_el a.2.2 j = sx_el a0.2.2 j ∧ sx_num a.2.2 j = sx_num a0.2.2 j
  | _, _ => False
theorem sx_like.rfl {M : sxK} {r : Nat} : ∀ {e : va_E}, sx_like M r e e
  | .inr _ => ⟨Eq.refl _, Eq.refl _, fun _ _ => Eq.refl _⟩
  | .inl _ => ⟨Eq.refl _, Eq.refl _, fun _ _ _ => ⟨Eq.refl _, Eq.refl _⟩⟩
theorem sx_like.trans {M : sxK} {r : Nat} : ∀ {a b c : va_E}, sx_like M r a b → sx_like M r b c → sx_like M r a c
  | .inr _, .inr _, .inr _, h1, h2 => ⟨h2.1.trans h1.1, h2.2.1.trans h1.2.1, fun k hk => (h2.2.2 k hk).trans (h1.2.2 k hk)⟩
  | .inl _, .inl _, .inl _, h1, h2 => ⟨h2.1.trans h1.1, h2.2.1.trans h1.2.1, fun j hj hk => ⟨(h2.2.2 j hj hk).1.trans (h1.2.2 j (by rw [← h2.2.1]; exact hj) hk).1, (h2.2.2 j hj hk).2.trans (h1.2.2 j (by rw [← h2.2.1]; exact hj) hk).2⟩⟩
  | .inr _, .inr _, .inl _, _, h2 => h2.elim
  | .inl _, .inl _, .inr _, _, h2 => h2.elim
  | .inr _, .inl _, _, h1, _ => h1.elim
  | .inl _, .inr _, _, h1, _ => h1.elim
theorem sx_like.mono {M M' : sxK} (hM : ∀ r k, sx_inM M r k → sx_inM M' r k) {r : Nat} : ∀ {a b : va_E}, sx_like M r a b → sx_like M' r a b
  | .inr _, .inr _, h => ⟨h.1, h.2.1, fun k hk => h.2.2 k (fun z => hk (hM _ _ z))⟩
  | .inl _, .inl _, h => ⟨h.1, h.2.1, fun j hj hk => h.2.2 j hj (fun z => hk (hM _ _ z))⟩
  | .inr _, .inl _, h => h.elim
  | .inl _, .inr _, h => h.elim
def sx_un (M : sxK) (τ : Nat → Option Nat) (w0 ws : va_W) : Prop := ∀ a r, τ a = some r → ∀ e0, sx_at w0 a e0 → ∃ e, sx_at ws a e ∧ sx_like M r e0 e
theorem sx_un.rfl {M : sxK} {τ : Nat → Option Nat} {ws : va_W} : sx_un M τ ws ws := fun _ _ _ e h => ⟨e, h, sx_like.rfl⟩
theorem sx_un.trans {M : sxK} {τ : Nat → Option Nat} {a b c : va_W} (h1 : sx_un M τ a b) (h2 : sx_un M τ b c) : sx_un M τ a c := fun x r hr e he => by
  obtain ⟨e1, g1, g2⟩ := h1 x r hr e he
  obtain ⟨e2, g3, g4⟩ := h2 x r hr e1 g1
  exact ⟨e2, g3, g2.trans g4⟩
theorem sx_un.mono {M M' : sxK} (hM : ∀ r k, sx_inM M r k → sx_inM M' r k) {τ : Nat → Option Nat} {a b : va_W} (h1 : sx_un M τ a b) : sx_un M' τ a b := fun x r hr e he => by
  obtain ⟨e1, g1, g2⟩ := h1 x r hr e he
  exact ⟨e1, g1, g2.mono hM⟩
theorem sx_at_set {ws : va_W} {q0 a : Nat} {e0 x : va_E} (h : ws[q0]? = some (a, e0)) : sx_at (ws.set q0 (a, x)) a x := ⟨q0, List.getElem?_set_self (List.getElem?_eq_some_iff.mp h).1⟩
theorem sx_at_ne {ws : va_W} {q0 a b : Nat} {e0 x e : va_E} (h : ws[q0]? = some (a, e0)) (hb : b ≠ a) (hat : sx_at ws b e) : sx_at (ws.set q0 (a, x)) b e := by
  obtain ⟨k, hk⟩ := hat
  refine ⟨k, ?_⟩
  rw [List.getElem?_set_ne]
  · exact hk
  · intro hq
    subst hq
    rw [h] at hk
    cases hk
    exact hb rfl
def sx_mods (M : sxK) (r : Nat) (a b : Int) : Bool := M.any (fun q => Nat.beq q.1 r && sx_le (q.2.1 : Int) a && sx_le (b + 1) (q.2.2 : Int))
theorem sx_mods_ok {M : sxK} {r : Nat} {a b : Int} (h : sx_mods M r a b = true) {j : Nat} (h1 : a ≤ j) (h2 : (j : Int) ≤ b) : sx_inM M r j := by
  obtain ⟨q, hq, hc⟩ := List.any_eq_true.mp h
  rw [Bool.and_eq_true, Bool.and_eq_true] at hc
  have c1 := Nat.eq_of_beq_eq_true hc.1.1
  have c2 := sx_le_iff.mp hc.1.2
  have c3 := sx_le_iff.mp hc.2
  exact ⟨q, hq, c1, by omega, by omega⟩
/-- a value may stand where q may -/
def sx_vok (S : sxS) (a : sxA) (q : sxQ) : Bool := match q.1, a.1 with
  | 0, 0 => (match sx_iv S.1 a.2 with
    | some w => sx_le q.2.1 w.1 && sx_le w.2 q.2.2 && sx_in32 w.1 w.2
    | none => false)
  | 1, 1 => true
  | 2, 2 => (match S.2.1[a.2.1]? with
    | some r => Nat.beq r q.2.1.toNat
    | none => false)
  | 3, 2 => (match S.2.1[a.2.1]? with
    | some r => Nat.beq r q.2.1.toNat
    | none => false)
  | 3, 3 => true
  | _, _ => false
theorem sx_vok_ok {PF : Nat → List Int → List (Nat → Int) → Prop} {τ : Nat → Option Nat} {S : sxS} {σ : sxV} {ρ : sxR} {φ : sxF} {ws : va_W} (h : sx_sat PF τ S σ ρ φ ws) {a : sxA} {q : sxQ} (ho : sx_vok S a q = true) : sx_fok τ q (sx_val σ ρ a) := by
  obtain ⟨t, a⟩ := a
  obtain ⟨q1, q2, q3⟩ := q
  unfold sx_vok at ho
  split at ho
  · rename_i e1 e2
    dsimp only at e1 e2
    subst e1 e2
    split at ho
    · rename_i w hw
      rw [Bool.and_eq_true, Bool.and_eq_true] at ho
      obtain ⟨ex, b1, b2⟩ := sx_at32 (S := S) h.1 (a := w.1) (b := w.2) hw ho.2
      have c1 := sx_le_iff.mp ho.1.1
      have c2 := sx_le_iff.mp ho.1.2
      exact ⟨Int32.ofInt (sx_tv σ a), rfl, by rw [ex]; show q2 ≤ _; dsimp only at c1; omega, by rw [ex]; show _ ≤ q3; dsimp only at c2; omega⟩
    · cases ho
  · rename_i e1 e2
    dsimp only at e1 e2
    subst e1 e2
    exact ⟨_, rfl⟩
  · rename_i e1 e2
    dsimp only at e1 e2
    subst e1 e2
    split at ho
    · rename_i r hr
      have hq := Nat.eq_of_beq_eq_true ho
      exact ⟨_, rfl, by rw [← hq]; exact h.2.1 _ _ hr⟩
    · cases ho
  · rename_i e1 e2
    dsimp only at e1 e2
    subst e1 e2
    split at ho
    · rename_i r hr
      have hq := Nat.eq_of_beq_eq_true ho
      exact Or.inr ⟨_, rfl, by rw [← hq]; exact h.2.1 _ _ hr⟩
    · cases ho
  · rename_i e1 e2
    dsimp only at e1 e2
    subst e1 e2
    exact Or.inl rfl
  · cases ho
def sx_regne (S : sxS) (R i : Nat) : Bool := match S.2.1[i]? with
  | some R' => !(Nat.beq R' R)
  | none => false
theorem sx_regne_ok {PF : Nat → List Int → List (Nat → Int) → Prop} {τ : Nat → Option Nat} {S : sxS} {σ : sxV} {ρ : sxR} {φ : sxF} {ws : va_W} (h : sx_sat PF τ S σ ρ φ ws) {R i r : Nat} (hr : S.2.1[r]? = some R) (hi : sx_regne S R i = true) : ρ i ≠ ρ r := by
  unfold sx_regne at hi
  split at hi
  · rename_i R' hR
    intro he
    have h1 := h.2.1 i R' hR
    have h2 := h.2.1 r R hr
    rw [he, h2] at h1
    have h1 := Option.some.inj h1
    subst h1
    rw [Nat.beq_refl] at hi
    cases hi
  · cases hi
/-- tc: 0 int, 1 boolean, 2 long, 3 a cell or null -/
def sx_tc (S : sxS) (tc : Nat) (a : sxA) : Bool := match tc, a.1 with
  | 0, 0 => true
  | 1, 0 => (match sx_iv S.1 a.2 with
    | some w => sx_le 0 w.1 && sx_le w.2 1
    | none => false)
  | 2, 1 => true
  | 3, 2 => true
  | 3, 3 => true
  | _, _ => false
def sx_tcP (tc : Nat) (ty : FieldType) : Prop := match tc with
  | 0 => ty = .int
  | 1 => ty = .boolean
  | 2 => ty = .long
  | _ => (∃ n, ty = .object n) ∨ ∃ t, ty = .array t
theorem sx_bool {x : Int} (h1 : 0 ≤ x) (h2 : x ≤ 1) : narrow .boolean (.int (Int32.ofInt x)) = .int (Int32.ofInt x) ∧ fits .boolean (.int (Int32.ofInt x)) = true ∧ vp_nar .boolean (Int32.ofInt x) = Int32.ofInt x := by
  rcases (show x = 0 ∨ x = 1 by omega) with rfl | rfl
  · exact ⟨by decide, by decide, by decide⟩
  · exact ⟨by decide, by decide, by decide⟩
theorem sx_tc_ok {PF : Nat → List Int → List (Nat → Int) → Prop} {τ : Nat → Option Nat} {S : sxS} {σ : sxV} {ρ : sxR} {φ : sxF} {ws : va_W} (h : sx_sat PF τ S σ ρ φ ws) {tc : Nat} {a : sxA} {ty : FieldType} (ho : sx_tc S tc a = true) (hty : sx_tcP tc ty) : narrow ty (sx_val σ ρ a) = sx_val σ ρ a ∧ fits ty (sx_val σ ρ a) = true := by
  obtain ⟨t, a⟩ := a
  unfold sx_tc at ho
  split at ho
  · rename_i e2
    dsimp only at e2
    subst e2
    have : ty = .int := hty
    subst this
    exact ⟨rfl, rfl⟩
  · rename_i e2
    dsimp only at e2
    subst e2
    have : ty = .boolean := hty
    subst this
    split at ho
    · rename_i w hw
      rw [Bool.and_eq_true] at ho
      have b := sx_iv_ok h.1 (a := w.1) (b := w.2) hw
      have c1 := sx_le_iff.mp ho.1
      have c2 := sx_le_iff.mp ho.2
      dsimp only at b
      have hb := sx_bool (x := sx_tv σ a) (by omega) (by omega)
      exact ⟨hb.1, hb.2.1⟩
    · cases ho
  · rename_i e2
    dsimp only at e2
    subst e2
    have : ty = .long := hty
    subst this
    exact ⟨rfl, rfl⟩
  · rename_i e2
    dsimp only at e2
    subst e2
    rcases hty with ⟨n, rfl⟩ | ⟨n, rfl⟩ <;> exact ⟨rfl, rfl⟩
  · rename_i e2
    dsimp only at e2
    subst e2
    rcases hty with ⟨n, rfl⟩ | ⟨n, rfl⟩ <;> exact ⟨rfl, rfl⟩
  · cases ho
def sx_setm (S : sxS) (m : sxM) (ms : List sxM) : sxS := (S.1, S.2.1, S.2.2.1, S.2.2.2.1, S.2.2.2.2.1, m :: ms, S.2.2.2.2.2.2.filter (fun c => sx_regne S (match S.2.1[m.1.2]? with
  | some R => R
  | none => 0) c.1))
def sx_putf (RT : List sxG) (M : sxK) (ci k tc : Nat) (S : sxS) (st : List sxA) : Option (sxS × List sxA) := match st with
  | v :: (2, r, _) :: rest => match S.2.1[r]? with
    | some R => (match RT[R]? with
      | some G => if Nat.beq G.1 0 && Nat.beq G.2.1 ci && Nat.blt k G.2.2.1 && sx_mods M R (k : Int) (k : Int) && sx_tc S tc v then (match sx_seg G.2.2.2.2 k with
          | some q => if sx_vok S v q then some (sx_setm S ((0, r), (0, (k : Int)), v) (S.2.2.2.2.2.1.filter (fun m => sx_regne S R m.1.2 || (Nat.beq m.1.1 0 && Nat.beq m.2.1.1 0 && !(decide (m.2.1.2 = (k : Int)))))), rest) else none
          | none => none) else none
      | none => none)
    | none => none
  | _ => none
