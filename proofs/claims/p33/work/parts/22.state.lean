/-! a checker of walks: states. Names of numbers, of cells, of contents; what is known of them; what stands in the heap -/
abbrev sxA : Type := Nat × Nat × Int
abbrev sxP : Type := Nat × List sxT × List Nat
abbrev sxM : Type := (Nat × Nat) × sxT × sxA
abbrev sxC : Type := Nat × (Nat × Nat) × Nat
abbrev sxS : Type := List sxE × List Nat × Nat × List sxL × List sxP × List sxM × List sxC
abbrev sxR : Type := Nat → Nat
abbrev sxF : Type := Nat → Nat → Int
/-- what a place may hold: (0, lo, hi) an int, (1, ..) a long, (2, region, _) a cell, (3, region, _) a cell or null -/
abbrev sxQ : Type := Nat × Int × Int
/-- a region: object or array, its class or type, its least and greatest length, what its places hold -/
abbrev sxG : Type := Nat × Nat × Nat × Nat × List (Nat × sxQ)
def sx_val (σ : sxV) (ρ : sxR) (a : sxA) : Value := match a.1 with
  | 0 => .int (Int32.ofInt (σ a.2.1 + a.2.2))
  | 1 => .long (Int64.ofInt (σ a.2.1 + a.2.2))
  | 2 => .ref (ρ a.2.1)
  | _ => .null
def sx_el (d : (Nat → Int32) ⊕ (Nat → Int64) ⊕ (Nat → UInt32) ⊕ (Nat → UInt64) ⊕ (Nat → Option Nat)) (j : Nat) : Value := match d with
  | .inl f => .int (f j)
  | .inr (.inl f) => .long (f j)
  | .inr (.inr (.inl f)) => .float (f j)
  | .inr (.inr (.inr (.inl f))) => .double (f j)
  | .inr (.inr (.inr (.inr f))) => va_rf (f j)
def sx_num (d : (Nat → Int32) ⊕ (Nat → Int64) ⊕ (Nat → UInt32) ⊕ (Nat → UInt64) ⊕ (Nat → Option Nat)) (j : Nat) : Int := match d with
  | .inl f => (f j).toInt
  | .inr (.inl f) => (f j).toInt
  | _ => 0
def sx_at (ws : va_W) (a : Nat) (e : va_E) : Prop := ∃ k : Nat, ws[k]? = some (a, e)
def sx_fok (τ : Nat → Option Nat) (q : sxQ) (v : Value) : Prop := match q.1 with
  | 0 => ∃ x : Int32, v = .int x ∧ q.2.1 ≤ x.toInt ∧ x.toInt ≤ q.2.2
  | 1 => ∃ x : Int64, v = .long x
  | 2 => ∃ a : Nat, v = .ref a ∧ τ a = some q.2.1.toNat
  | _ => v = .null ∨ ∃ a : Nat, v = .ref a ∧ τ a = some q.2.1.toNat
def sx_seg : List (Nat × sxQ) → Nat → Option sxQ
  | [], _ => none
  | q :: l, j => if Nat.blt j q.1 then some q.2 else sx_seg l j
/-- the kind of an array's places -/
def sx_dk (t : Nat) (d : (Nat → Int32) ⊕ (Nat → Int64) ⊕ (Nat → UInt32) ⊕ (Nat → UInt64) ⊕ (Nat → Option Nat)) : Prop := match t with
  | 0 => ∃ f, d = .inl f
  | 1 => ∃ f, d = .inl f
  | 2 => ∃ f, d = .inr (.inl f)
  | 3 => ∃ f, d = .inl f
  | _ => ∃ f, d = .inr (.inr (.inr (.inr f)))
def sx_eok (kA : Nat → ClassId) (τ : Nat → Option Nat) (G : sxG) (e : va_E) : Prop := match G.1 with
  | 0 => ∃ fs : List Value, e = .inr (G.2.1, fs) ∧ fs.length = G.2.2.1 ∧ ∀ (k : Nat) (v : Value), fs[k]? = some v → ∃ q, sx_seg G.2.2.2.2 k = some q ∧ sx_fok τ q v
  | _ => ∃ n d, e = .inl (kA G.2.1, n, d) ∧ G.2.2.1 ≤ n ∧ n ≤ G.2.2.2.1 ∧ sx_dk G.2.1 d ∧ ∀ j : Nat, j < n → ∃ q, sx_seg G.2.2.2.2 j = some q ∧ sx_fok τ q (sx_el d j)
/-- the heap's cells are as their regions say -/
def sx_wt (RT : List sxG) (kA : Nat → ClassId) (τ : Nat → Option Nat) (ws : va_W) : Prop := ∀ a r, τ a = some r → r < RT.length → ∃ G e, RT[r]? = some G ∧ sx_at ws a e ∧ sx_eok kA τ G e
def sx_mok (σ : sxV) (ρ : sxR) (ws : va_W) (m : sxM) : Prop := match m.1.1 with
  | 0 => ∃ ci fs, sx_at ws (ρ m.1.2) (.inr (ci, fs)) ∧ 0 ≤ sx_tv σ m.2.1 ∧ fs[(sx_tv σ m.2.1).toNat]? = some (sx_val σ ρ m.2.2)
  | 1 => ∃ cA n d, sx_at ws (ρ m.1.2) (.inl (cA, n, d)) ∧ 0 ≤ sx_tv σ m.2.1 ∧ (sx_tv σ m.2.1).toNat < n ∧ sx_el d (sx_tv σ m.2.1).toNat = sx_val σ ρ m.2.2
  | _ => ∃ cA n d, sx_at ws (ρ m.1.2) (.inl (cA, n, d)) ∧ sx_val σ ρ m.2.2 = .int (Int32.ofNat n)
def sx_cok (ρ : sxR) (φ : sxF) (ws : va_W) (c : sxC) : Prop := ∃ cA n d, sx_at ws (ρ c.1) (.inl (cA, n, d)) ∧ ∀ j : Nat, c.2.1.1 ≤ j → j < c.2.1.2 → j < n → sx_num d j = φ c.2.2 j
/-- names that are there -/
def sx_wfT (n : Nat) (t : sxT) : Prop := t.1 < n
def sx_wfA (n k : Nat) (a : sxA) : Prop := a.2.1 < n ∧ a.2.1 < k ∨ (a.1 < 2 ∧ a.2.1 < n) ∨ (a.1 = 2 ∧ a.2.1 < k) ∨ 2 < a.1
def sx_wfL (n : Nat) (l : sxL) : Prop := ∀ q ∈ l.1, q.1 < n
def sx_wfP (n c : Nat) (p : sxP) : Prop := (∀ t ∈ p.2.1, t.1 < n) ∧ ∀ i ∈ p.2.2, i < c
def sx_wfM (n k : Nat) (m : sxM) : Prop := m.1.2 < k ∧ m.2.1.1 < n ∧ sx_wfA n k m.2.2
def sx_wfC (k c : Nat) (x : sxC) : Prop := x.1 < k ∧ x.2.2 < c
theorem sx_val_ext {n k : Nat} {σ σ' : sxV} {ρ ρ' : sxR} (h1 : ∀ i, i < n → σ' i = σ i) (h2 : ∀ i, i < k → ρ' i = ρ i) {a : sxA} (hw : sx_wfA n k a) : sx_val σ' ρ' a = sx_val σ ρ a := by
  obtain ⟨t, i, o⟩ := a
  unfold sx_val
  rcases hw with ⟨g1, g2⟩ | ⟨g0, g1⟩ | ⟨g0, g1⟩ | g0
  · simp only [h1 i g1, h2 i g2]
  · match t, g0 with
    | 0, _ => simp only [h1 i g1]
    | 1, _ => simp only [h1 i g1]
  · dsimp only at g0
    subst g0
    simp only [h2 i g1]
  · match t, g0 with
    | t + 3, _ => rfl
theorem sx_ev_ext {n : Nat} {σ σ' : sxV} (h1 : ∀ i, i < n → σ' i = σ i) : ∀ l : List (Nat × Int), (∀ q ∈ l, q.1 < n) → sx_ev σ' l = sx_ev σ l
  | [], _ => rfl
  | q :: l, hw => by
    show q.2 * σ' q.1 + sx_ev σ' l = q.2 * σ q.1 + sx_ev σ l
    rw [h1 q.1 (hw q List.mem_cons_self), sx_ev_ext h1 l (fun r hr => hw r (List.mem_cons_of_mem _ hr))]
theorem sx_lev_ext {n : Nat} {σ σ' : sxV} (h1 : ∀ i, i < n → σ' i = σ i) {l : sxL} (hw : sx_wfL n l) : sx_lev σ' l = sx_lev σ l := by
  unfold sx_lev
  rw [sx_ev_ext h1 l.1 hw]
theorem sx_tv_ext {n : Nat} {σ σ' : sxV} (h1 : ∀ i, i < n → σ' i = σ i) {t : sxT} (hw : t.1 < n) : sx_tv σ' t = sx_tv σ t := by
  unfold sx_tv
  rw [h1 _ hw]
/-- what a fact says that isn't linear: 0 unlike, 1 to 4 bits, 5 a place of a content, 6 a content with a place changed, 8 how two compare; others by PF -/
def sx_bp (PF : Nat → List Int → List (Nat → Int) → Prop) (k : Nat) (xs : List Int) (fs : List (Nat → Int)) : Prop := match k with
  | 0 => xs.getD 0 0 ≠ xs.getD 1 0
  | 1 => xs.getD 2 0 = (Int32.ofInt (xs.getD 0 0) &&& Int32.ofInt (xs.getD 1 0)).toInt
  | 2 => xs.getD 2 0 = (Int32.ofInt (xs.getD 0 0) ||| Int32.ofInt (xs.getD 1 0)).toInt
  | 3 => xs.getD 2 0 = (Int32.ofInt (xs.getD 0 0) <<< (Int32.ofInt (xs.getD 1 0) &&& 31)).toInt
  | 4 => xs.getD 2 0 = (Int32.ofInt (xs.getD 0 0) >>> (Int32.ofInt (xs.getD 1 0) &&& 31)).toInt
  | 5 => 0 ≤ xs.getD 0 0 ∧ fs.getD 0 (fun _ => 0) (xs.getD 0 0).toNat = xs.getD 1 0
  | 6 => 0 ≤ xs.getD 0 0 ∧ ∀ j, fs.getD 1 (fun _ => 0) j = if j = (xs.getD 0 0).toNat then xs.getD 1 0 else fs.getD 0 (fun _ => 0) j
  | 8 => xs.getD 0 0 = if xs.getD 1 0 < xs.getD 2 0 then -1 else if xs.getD 1 0 = xs.getD 2 0 then 0 else 1
  | n => PF n xs fs
section SXP
variable (PF : Nat → List Int → List (Nat → Int) → Prop)
def sx_pok (σ : sxV) (φ : sxF) (p : sxP) : Prop := sx_bp PF p.1 (p.2.1.map (sx_tv σ)) (p.2.2.map φ)
theorem sx_pok_ext {n c : Nat} {σ σ' : sxV} {φ φ' : sxF} (h1 : ∀ i, i < n → σ' i = σ i) (h3 : ∀ i, i < c → φ' i = φ i) {p : sxP} (hw : sx_wfP n c p) : sx_pok PF σ' φ' p ↔ sx_pok PF σ φ p := by
  unfold sx_pok
  have e1 : p.2.1.map (sx_tv σ') = p.2.1.map (sx_tv σ) := List.map_congr_left fun t ht => sx_tv_ext h1 (hw.1 t ht)
  have e2 : p.2.2.map φ' = p.2.2.map φ := List.map_congr_left fun i hi => h3 i (hw.2 i hi)
  rw [e1, e2]
theorem sx_mok_ext {n k : Nat} {σ σ' : sxV} {ρ ρ' : sxR} (h1 : ∀ i, i < n → σ' i = σ i) (h2 : ∀ i, i < k → ρ' i = ρ i) {ws : va_W} {m : sxM} (hw : sx_wfM n k m) (h : sx_mok σ ρ ws m) : sx_mok σ' ρ' ws m := by
  obtain ⟨w1, w2, w3⟩ := hw
  have e1 := h2 _ w1
  have e2 := sx_tv_ext h1 w2
  have e3 := sx_val_ext h1 h2 w3
  unfold sx_mok at h ⊢
  split <;> rename_i hm <;> simp only [hm] at h <;> rw [e1] <;> simp only [e2, e3] <;> exact h
theorem sx_cok_ext {k c : Nat} {ρ ρ' : sxR} {φ φ' : sxF} (h2 : ∀ i, i < k → ρ' i = ρ i) (h3 : ∀ i, i < c → φ' i = φ i) {ws : va_W} {x : sxC} (hw : sx_wfC k c x) (h : sx_cok ρ φ ws x) : sx_cok ρ' φ' ws x := by
  unfold sx_cok at h ⊢
  rw [h2 _ hw.1, h3 _ hw.2]
  exact h
/-- a state is so -/
def sx_sat (τ : Nat → Option Nat) (S : sxS) (σ : sxV) (ρ : sxR) (φ : sxF) (ws : va_W) : Prop :=
  sx_I S.1 σ ∧ (∀ (i r : Nat), S.2.1[i]? = some r → τ (ρ i) = some r) ∧ (∀ f ∈ S.2.2.2.1, 0 ≤ sx_lev σ f) ∧ (∀ p ∈ S.2.2.2.2.1, sx_pok PF σ φ p) ∧ (∀ m ∈ S.2.2.2.2.2.1, sx_mok σ ρ ws m) ∧ ∀ x ∈ S.2.2.2.2.2.2, sx_cok ρ φ ws x
def sx_z0 (es : List sxE) : Prop := ∃ e, es[0]? = some e ∧ 0 ≤ e.1 ∧ e.2 ≤ 0
theorem sx_z0_app {es : List sxE} (h : sx_z0 es) (l : List sxE) : sx_z0 (es ++ l) := by
  obtain ⟨e, h1, h2⟩ := h
  exact ⟨e, by rw [List.getElem?_append_left (List.getElem?_eq_some_iff.mp h1).1]; exact h1, h2⟩
def sx_wf (S : sxS) : Prop := 0 < S.1.length ∧ sx_z0 S.1 ∧ (∀ f ∈ S.2.2.2.1, sx_wfL S.1.length f) ∧ (∀ p ∈ S.2.2.2.2.1, sx_wfP S.1.length S.2.2.1 p) ∧ (∀ m ∈ S.2.2.2.2.2.1, sx_wfM S.1.length S.2.1.length m) ∧ ∀ x ∈ S.2.2.2.2.2.2, sx_wfC S.2.1.length S.2.2.1 x
def sx_ag (S : sxS) (σ σ' : sxV) (ρ ρ' : sxR) (φ φ' : sxF) : Prop := (∀ i, i < S.1.length → σ' i = σ i) ∧ (∀ i, i < S.2.1.length → ρ' i = ρ i) ∧ ∀ i, i < S.2.2.1 → φ' i = φ i
theorem sx_sat_ext {τ : Nat → Option Nat} {S : sxS} {σ σ' : sxV} {ρ ρ' : sxR} {φ φ' : sxF} {ws : va_W} (hw : sx_wf S) (ha : sx_ag S σ σ' ρ ρ' φ φ') (h : sx_sat PF τ S σ ρ φ ws) : sx_sat PF τ S σ' ρ' φ' ws := by
  obtain ⟨h1, h2, h3, h4, h5, h6⟩ := h
  obtain ⟨w0, w00, w1, w2, w3, w4⟩ := hw
  obtain ⟨a1, a2, a3⟩ := ha
  refine ⟨fun i e he => ?_, fun i r hr => ?_, fun f hf => ?_, fun p hp => ?_, fun m hm => sx_mok_ext a1 a2 (w3 m hm) (h5 m hm), fun x hx => sx_cok_ext a2 a3 (w4 x hx) (h6 x hx)⟩
  · rw [a1 i (List.getElem?_eq_some_iff.mp he).1]
    exact h1 i e he
  · rw [a2 i (List.getElem?_eq_some_iff.mp hr).1]
    exact h2 i r hr
  · rw [sx_lev_ext a1 (w1 f hf)]
    exact h3 f hf
  · exact (sx_pok_ext PF a1 a3 (w2 p hp)).mpr (h4 p hp)
end SXP
