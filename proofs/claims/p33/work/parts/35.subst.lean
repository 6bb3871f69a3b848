/-! a checker of walks: names for names; what a state gives -/
def sb_T (f : Nat → sxT) (t : sxT) : sxT := ((f t.1).1, (f t.1).2 + t.2)
def sb_A (f : Nat → sxT) (g : Nat → Nat) (a : sxA) : sxA := match a.1 with
  | 0 => (0, sb_T f a.2)
  | 1 => (1, sb_T f a.2)
  | 2 => (2, g a.2.1, 0)
  | _ => (3, 0, 0)
def sb_l (f : Nat → sxT) : List (Nat × Int) → List (Nat × Int) × Int
  | [] => ([], 0)
  | q :: l => match sb_l f l with
    | o => (((f q.1).1, q.2) :: o.1, q.2 * (f q.1).2 + o.2)
def sb_L (f : Nat → sxT) (l : sxL) : sxL := match sb_l f l.1 with
  | o => (sx_add 1 o.1 [], o.2 + l.2)
def sb_P (f : Nat → sxT) (h : Nat → Nat) (p : sxP) : sxP := (p.1, p.2.1.map (sb_T f), p.2.2.map h)
def sb_M (f : Nat → sxT) (g : Nat → Nat) (m : sxM) : sxM := ((m.1.1, g m.1.2), sb_T f m.2.1, sb_A f g m.2.2)
def sb_C (g h : Nat → Nat) (c : sxC) : sxC := (g c.1, c.2.1, h c.2.2)
def sb_σ (f : Nat → sxT) (σ : sxV) : sxV := fun i => sx_tv σ (f i)
theorem sb_T_ok (f : Nat → sxT) (σ : sxV) (t : sxT) : sx_tv (sb_σ f σ) t = sx_tv σ (sb_T f t) := by
  show sx_tv σ (f t.1) + t.2 = σ (f t.1).1 + ((f t.1).2 + t.2)
  unfold sx_tv
  omega
theorem sb_A_ok (f : Nat → sxT) (g : Nat → Nat) (σ : sxV) (ρ : sxR) (a : sxA) : sx_val (sb_σ f σ) (fun i => ρ (g i)) a = sx_val σ ρ (sb_A f g a) := by
  obtain ⟨t, a⟩ := a
  match t with
  | 0 =>
    show Value.int (Int32.ofInt (sx_tv (sb_σ f σ) a)) = Value.int (Int32.ofInt (sx_tv σ (sb_T f a)))
    rw [sb_T_ok]
  | 1 =>
    show Value.long (Int64.ofInt (sx_tv (sb_σ f σ) a)) = Value.long (Int64.ofInt (sx_tv σ (sb_T f a)))
    rw [sb_T_ok]
  | 2 => rfl
  | t + 3 => rfl
theorem sb_l_ok (f : Nat → sxT) (σ : sxV) : ∀ l, sx_ev (sb_σ f σ) l = sx_ev σ (sb_l f l).1 + (sb_l f l).2
  | [] => rfl
  | q :: l => by
    show q.2 * sx_tv σ (f q.1) + sx_ev (sb_σ f σ) l = q.2 * σ (f q.1).1 + sx_ev σ (sb_l f l).1 + (q.2 * (f q.1).2 + (sb_l f l).2)
    rw [sb_l_ok f σ l]
    unfold sx_tv
    rw [Int.mul_add]
    omega
theorem sb_L_ok (f : Nat → sxT) (σ : sxV) (l : sxL) : sx_lev (sb_σ f σ) l = sx_lev σ (sb_L f l) := by
  show sx_ev (sb_σ f σ) l.1 + l.2 = sx_ev σ (sx_add 1 (sb_l f l.1).1 []) + ((sb_l f l.1).2 + l.2)
  rw [sb_l_ok, sx_add_ev]
  show _ = 1 * sx_ev σ (sb_l f l.1).1 + 0 + _
  omega
theorem sb_P_ok {PF : Nat → List Int → List (Nat → Int) → Prop} (f : Nat → sxT) (h : Nat → Nat) (σ : sxV) (φ : sxF) (p : sxP) : sx_pok PF (sb_σ f σ) (fun i => φ (h i)) p ↔ sx_pok PF σ φ (sb_P f h p) := by
  unfold sx_pok sb_P
  have e1 : p.2.1.map (sx_tv (sb_σ f σ)) = (p.2.1.map (sb_T f)).map (sx_tv σ) := by
    rw [List.map_map]
    exact List.map_congr_left fun t _ => sb_T_ok f σ t
  have e2 : p.2.2.map (fun i => φ (h i)) = (p.2.2.map h).map φ := by
    rw [List.map_map]
    rfl
  rw [e1, e2]
theorem sb_M_ok (f : Nat → sxT) (g : Nat → Nat) (σ : sxV) (ρ : sxR) (ws : va_W) (m : sxM) : sx_mok (sb_σ f σ) (fun i => ρ (g i)) ws m ↔ sx_mok σ ρ ws (sb_M f g m) := by
  obtain ⟨⟨k, r⟩, t, a⟩ := m
  unfold sx_mok sb_M
  rw [sb_T_ok, sb_A_ok]
theorem sb_C_ok (g h : Nat → Nat) (ρ : sxR) (φ : sxF) (ws : va_W) (c : sxC) : sx_cok (fun i => ρ (g i)) (fun i => φ (h i)) ws c ↔ sx_cok ρ φ ws (sb_C g h c) := Iff.rfl
/-- a pattern holds: its numbers' names begin at n, its cells' at k -/
def sx_dsat (PF : Nat → List Int → List (Nat → Int) → Prop) (τ : Nat → Option Nat) (n k : Nat) (D : sxS) (σ : sxV) (ρ : sxR) (φ : sxF) (ws : va_W) : Prop :=
  (∀ (i : Nat) (e : sxE), D.1[i]? = some e → e.1 ≤ σ (n + i) ∧ σ (n + i) ≤ e.2) ∧ (∀ (i r : Nat), D.2.1[i]? = some r → τ (ρ (k + i)) = some r) ∧ (∀ f ∈ D.2.2.2.1, 0 ≤ sx_lev σ f) ∧ (∀ p ∈ D.2.2.2.2.1, sx_pok PF σ φ p) ∧ (∀ m ∈ D.2.2.2.2.2.1, sx_mok σ ρ ws m) ∧ ∀ x ∈ D.2.2.2.2.2.2, sx_cok ρ φ ws x
def sx_entE (S : sxS) (f : Nat → sxT) : Nat → List sxE → Bool
  | _, [] => true
  | n, e :: l => Nat.blt (f n).1 S.1.length && sx_prove S.1 S.2.2.2.1 (sx_dif (f n) (0, e.1) 0) && sx_prove S.1 S.2.2.2.1 (sx_dif (0, e.2) (f n) 0) && sx_entE S f (n + 1) l
def sx_entR (S : sxS) (g : Nat → Nat) : Nat → List Nat → Bool
  | _, [] => true
  | n, r :: l => (match S.2.1[g n]? with
    | some r' => Nat.beq r' r
    | none => false) && sx_entR S g (n + 1) l
/-- a state gives a pattern -/
def sx_ent (S : sxS) (f : Nat → sxT) (g h : Nat → Nat) (n k : Nat) (D : sxS) : Bool :=
  sx_entE S f n D.1 && sx_entR S g k D.2.1 && D.2.2.2.1.all (fun l => sx_prove S.1 S.2.2.2.1 (sb_L f l)) && D.2.2.2.2.1.all (fun p => S.2.2.2.2.1.any (fun q => decide (q = sb_P f h p))) && D.2.2.2.2.2.1.all (fun p => S.2.2.2.2.2.1.any (fun q => decide (q = sb_M f g p))) && D.2.2.2.2.2.2.all (fun p => S.2.2.2.2.2.2.any (fun q => decide (q = sb_C g h p)))
section SXE
variable {PF : Nat → List Int → List (Nat → Int) → Prop} {τ : Nat → Option Nat} {S : sxS} {σ : sxV} {ρ : sxR} {φ : sxF} {ws : va_W}
theorem sx_entE_ok (hw : sx_wf S) (h : sx_sat PF τ S σ ρ φ ws) {f : Nat → sxT} : ∀ {l : List sxE} {n : Nat}, sx_entE S f n l = true → ∀ (i : Nat) (e : sxE), l[i]? = some e → e.1 ≤ sb_σ f σ (n + i) ∧ sb_σ f σ (n + i) ≤ e.2
  | a :: l, n, hc, i, e, hi => by
    unfold sx_entE at hc
    simp only [Bool.and_eq_true] at hc
    obtain ⟨⟨⟨c0, c1⟩, c2⟩, c3⟩ := hc
    cases i with
    | zero =>
      simp at hi
      subst hi
      have h1 := sx_prove_ok h.1 h.2.2.1 c1
      have h2 := sx_prove_ok h.1 h.2.2.1 c2
      rw [sx_dif_ev] at h1 h2
      have hz := sx_zero hw h
      have t1 : sx_tv σ (0, a.1) = a.1 := by show σ 0 + a.1 = a.1; omega
      have t2 : sx_tv σ (0, a.2) = a.2 := by show σ 0 + a.2 = a.2; omega
      show a.1 ≤ sx_tv σ (f (n + 0)) ∧ sx_tv σ (f (n + 0)) ≤ a.2
      rw [Nat.add_zero]
      omega
    | succ i =>
      rw [List.getElem?_cons_succ] at hi
      have := sx_entE_ok hw h c3 i e hi
      have e1 : n + (i + 1) = n + 1 + i := by omega
      rw [e1]
      exact this
theorem sx_entR_ok (h : sx_sat PF τ S σ ρ φ ws) {g : Nat → Nat} : ∀ {l : List Nat} {n : Nat}, sx_entR S g n l = true → ∀ (i r : Nat), l[i]? = some r → τ (ρ (g (n + i))) = some r
  | a :: l, n, hc, i, r, hi => by
    unfold sx_entR at hc
    rw [Bool.and_eq_true] at hc
    obtain ⟨c1, c3⟩ := hc
    cases i with
    | zero =>
      simp at hi
      subst hi
      split at c1
      · rename_i r' hr
        have c1 := Nat.eq_of_beq_eq_true c1
        subst c1
        exact h.2.1 _ _ hr
      · cases c1
    | succ i =>
      rw [List.getElem?_cons_succ] at hi
      have := sx_entR_ok h c3 i r hi
      have e1 : n + (i + 1) = n + 1 + i := by omega
      rw [e1]
      exact this
theorem sx_any_mem {α : Type} [DecidableEq α] {l : List α} {x : α} (h : l.any (fun q => decide (q = x)) = true) : x ∈ l := by
  obtain ⟨q, h1, h2⟩ := List.any_eq_true.mp h
  have h2 := of_decide_eq_true h2
  subst h2
  exact h1
theorem sx_ent_ok (hw : sx_wf S) (h : sx_sat PF τ S σ ρ φ ws) {f : Nat → sxT} {g h' : Nat → Nat} {n k : Nat} {D : sxS} (hc : sx_ent S f g h' n k D = true) : sx_dsat PF τ n k D (sb_σ f σ) (fun i => ρ (g i)) (fun i => φ (h' i)) ws := by
  unfold sx_ent at hc
  simp only [Bool.and_eq_true] at hc
  obtain ⟨⟨⟨⟨⟨c1, c2⟩, c3⟩, c4⟩, c5⟩, c6⟩ := hc
  refine ⟨sx_entE_ok hw h c1, sx_entR_ok h c2, fun l hl => ?_, fun p hp => ?_, fun m hm => ?_, fun x hx => ?_⟩
  · rw [sb_L_ok]
    exact sx_prove_ok h.1 h.2.2.1 (List.all_eq_true.mp c3 l hl)
  · rw [sb_P_ok]
    exact h.2.2.2.1 _ (sx_any_mem (List.all_eq_true.mp c4 p hp))
  · rw [sb_M_ok]
    exact h.2.2.2.2.1 _ (sx_any_mem (List.all_eq_true.mp c5 m hm))
  · rw [sb_C_ok]
    exact h.2.2.2.2.2 _ (sx_any_mem (List.all_eq_true.mp c6 x hx))
end SXE
/-- names that are there, tested -/
def sx_bA (n k : Nat) (a : sxA) : Bool := match a.1 with
  | 0 => Nat.blt a.2.1 n
  | 1 => Nat.blt a.2.1 n
  | 2 => Nat.blt a.2.1 k
  | _ => true
theorem sx_bA_ok {n k : Nat} {a : sxA} (h : sx_bA n k a = true) : sx_wfA n k a := by
  obtain ⟨t, a⟩ := a
  unfold sx_bA at h
  unfold sx_wfA
  match t with
  | 0 => exact Or.inr (Or.inl ⟨by show 0 < 2; omega, sx_blt h⟩)
  | 1 => exact Or.inr (Or.inl ⟨by show 1 < 2; omega, sx_blt h⟩)
  | 2 => exact Or.inr (Or.inr (Or.inl ⟨rfl, sx_blt h⟩))
  | t + 3 => exact Or.inr (Or.inr (Or.inr (by show 2 < t + 3; omega)))
def sx_bD (n k c : Nat) (D : sxS) : Bool := D.2.2.2.1.all (fun l => l.1.all (fun q => Nat.blt q.1 n)) && D.2.2.2.2.1.all (fun p => p.2.1.all (fun t => Nat.blt t.1 n) && p.2.2.all (fun i => Nat.blt i c)) && D.2.2.2.2.2.1.all (fun m => Nat.blt m.1.2 k && Nat.blt m.2.1.1 n && sx_bA n k m.2.2) && D.2.2.2.2.2.2.all (fun x => Nat.blt x.1 k && Nat.blt x.2.2 c)
theorem sx_bD_ok {n k c : Nat} {D : sxS} (h : sx_bD n k c D = true) : (∀ f ∈ D.2.2.2.1, sx_wfL n f) ∧ (∀ p ∈ D.2.2.2.2.1, sx_wfP n c p) ∧ (∀ m ∈ D.2.2.2.2.2.1, sx_wfM n k m) ∧ ∀ x ∈ D.2.2.2.2.2.2, sx_wfC k c x := by
  unfold sx_bD at h
  simp only [Bool.and_eq_true] at h
  obtain ⟨⟨⟨c1, c2⟩, c3⟩, c4⟩ := h
  refine ⟨fun f hf q hq => ?_, fun p hp => ?_, fun m hm => ?_, fun x hx => ?_⟩
  · exact sx_blt (List.all_eq_true.mp (List.all_eq_true.mp c1 f hf) q hq)
  · have := List.all_eq_true.mp c2 p hp
    rw [Bool.and_eq_true] at this
    exact ⟨fun t ht => sx_blt (List.all_eq_true.mp this.1 t ht), fun t ht => sx_blt (List.all_eq_true.mp this.2 t ht)⟩
  · have := List.all_eq_true.mp c3 m hm
    rw [Bool.and_eq_true, Bool.and_eq_true] at this
    exact ⟨sx_blt this.1.1, sx_blt this.1.2, sx_bA_ok this.2⟩
  · have := List.all_eq_true.mp c4 x hx
    rw [Bool.and_eq_true] at this
    exact ⟨sx_blt this.1, sx_blt this.2⟩
/-- a state goes on by a pattern: its numbers, cells, contents are new; what was known of the heap goes -/
def sx_ext (S D : sxS) : sxS := (S.1 ++ D.1, S.2.1 ++ D.2.1, S.2.2.1 + D.2.2.1, D.2.2.2.1 ++ S.2.2.2.1, D.2.2.2.2.1 ++ S.2.2.2.2.1, D.2.2.2.2.2.1, D.2.2.2.2.2.2)
def sx_extb (S D : sxS) : Bool := sx_bD (S.1.length + D.1.length) (S.2.1.length + D.2.1.length) (S.2.2.1 + D.2.2.1) D
theorem sx_ext_wf {S D : sxS} (hw : sx_wf S) (hb : sx_extb S D = true) : sx_gwf S (sx_ext S D) := by
  obtain ⟨b1, b2, b3, b4⟩ := sx_bD_ok hb
  obtain ⟨w0, w00, w1, w2, w3, w4⟩ := hw
  have l1 : (sx_ext S D).1.length = S.1.length + D.1.length := by simp [sx_ext]
  have l2 : (sx_ext S D).2.1.length = S.2.1.length + D.2.1.length := by simp [sx_ext]
  refine ⟨⟨by omega, sx_z0_app w00 _, fun f hf => ?_, fun p hp => ?_, fun m hm => ?_, fun x hx => ?_⟩, by omega, by omega, Nat.le_add_right _ _⟩
  · rw [l1]
    rcases List.mem_append.mp hf with q | q
    · exact b1 f q
    · exact sx_wfL_mono (by omega) (w1 f q)
  · rw [l1]
    rcases List.mem_append.mp hp with q | q
    · exact b2 p q
    · exact sx_wfP_mono (by omega) (Nat.le_add_right _ _) (w2 p q)
  · rw [l1, l2]
    exact b3 m hm
  · rw [l2]
    exact b4 x hx
theorem sx_ext_sat {PF : Nat → List Int → List (Nat → Int) → Prop} {τ : Nat → Option Nat} {S D : sxS} {σ σ' : sxV} {ρ ρ' : sxR} {φ φ' : sxF} {ws ws' : va_W} (hw : sx_wf S) (h : sx_sat PF τ S σ ρ φ ws) (ha : sx_ag S σ σ' ρ ρ' φ φ') (hd : sx_dsat PF τ S.1.length S.2.1.length D σ' ρ' φ' ws') : sx_sat PF τ (sx_ext S D) σ' ρ' φ' ws' := by
  obtain ⟨g1, g2, g3, g4, -, -⟩ := sx_sat_ext PF hw ha h
  obtain ⟨d1, d2, d3, d4, d5, d6⟩ := hd
  refine ⟨fun i e hi => ?_, fun i r hi => ?_, fun f hf => ?_, fun p hp => ?_, d5, d6⟩
  · have hi : (S.1 ++ D.1)[i]? = some e := hi
    by_cases hl : i < S.1.length
    · rw [List.getElem?_append_left hl] at hi
      exact g1 i e hi
    · rw [List.getElem?_append_right (by omega)] at hi
      have := d1 _ e hi
      have e1 : S.1.length + (i - S.1.length) = i := by omega
      rw [e1] at this
      exact this
  · have hi : (S.2.1 ++ D.2.1)[i]? = some r := hi
    by_cases hl : i < S.2.1.length
    · rw [List.getElem?_append_left hl] at hi
      exact g2 i r hi
    · rw [List.getElem?_append_right (by omega)] at hi
      have := d2 _ r hi
      have e1 : S.2.1.length + (i - S.2.1.length) = i := by omega
      rw [e1] at this
      exact this
  · rcases List.mem_append.mp hf with q | q
    · exact d3 f q
    · exact g3 f q
  · rcases List.mem_append.mp hp with q | q
    · exact d4 p q
    · exact g4 p q
