/-! the regions of all cells, and of the Strings -/
theorem sl_inj {i i' n n' : Nat} (h1 : sxSL[i]? = some n) (h2 : sxSL[i']? = some n') (h : Int32.ofNat n = Int32.ofNat n') : i = i' := by
  have l1 : i < 6 := (List.getElem?_eq_some_iff.mp h1).1
  have l2 : i' < 6 := (List.getElem?_eq_some_iff.mp h2).1
  have e1 : n = sxSL.getD i 0 := by rw [List.getD_eq_getElem?_getD, h1]; rfl
  have e2 : n' = sxSL.getD i' 0 := by rw [List.getD_eq_getElem?_getD, h2]; rfl
  subst e1
  subst e2
  revert h
  have := (by decide : ∀ i, i < 6 → ∀ i', i' < 6 → Int32.ofNat (sxSL.getD i 0) = Int32.ofNat (sxSL.getD i' 0) → i = i')
  exact this i l1 i' l2
theorem st_len {k v n v' n' : Nat} {A A' : Nat → Prop} {s : State} (h : ST k v n A s s.heap) (h' : ST k v' n' A' s s.heap) : Int32.ofNat n = Int32.ofNat n' := by
  obtain ⟨-, -, ⟨cf, kc, i, f, cell, a1, a2, a3, a4, a5, -⟩, ⟨g, ⟨c1, b1, -, -, -, b2, -⟩⟩, -⟩ := h
  obtain ⟨-, -, ⟨cf', kc', i', f', cell', a1', a2', a3', a4', a5', -⟩, ⟨g', ⟨c1', b1', -, -, -, b2', -⟩⟩, -⟩ := h'
  rw [a1] at a1'
  cases a1'
  rw [a3] at a3'
  cases a3'
  rw [a5] at a5'
  cases a5'
  rw [b1] at b1'
  cases b1'
  exact b2.symm.trans b2'
def STR (s : State) (a r : Nat) : Prop := ∃ q ∈ sxRL, r = sxRT.length + q.2.2.2 ∧ vk_R q.1 q.2.1 q.2.2.1 a s ∧ ∃ v n, sxSL[q.2.2.2]? = some n ∧ ST a v n (va_A [] s.heap.size) s s.heap
theorem STR.fn {s : State} {a r r' : Nat} (h : STR s a r) (h' : STR s a r') : r = r' := by
  obtain ⟨q, -, rfl, -, v, n, h1, h2⟩ := h
  obtain ⟨q', -, rfl, -, v', n', h1', h2'⟩ := h'
  rw [sl_inj h1 h1' (st_len h2 h2')]
theorem STR.lt {s : State} {a r : Nat} (h : STR s a r) : a < s.heap.size := by
  obtain ⟨q, -, -, -, v, n, -, ⟨cell, h1, -⟩, -⟩ := h
  exact (Array.getElem?_eq_some_iff.mp h1).1
theorem tau_ex {kA : Nat → ClassId} {T : List (Nat × Nat)} {w : va_W} {A : Nat → Prop} {s : State} (hg : tyW kA T w) (hD : va_D A w) (hAe : ∀ q, A q → s.heap.size ≤ q) (hstr : ∀ q ∈ sxRL, ∃ a, STR s a (sxRT.length + q.2.2.2) ∧ vk_R q.1 q.2.1 q.2.2.1 a s) (hca : va_Nw (.castable "[I" "java/lang/Cloneable") s) : ∃ τ : Nat → Option Nat, (∀ p ∈ T, τ p.1 = some p.2) ∧ sx_wt sxRT kA τ w ∧ sxTK τ [] s := by
  have hnd : (T.map Prod.fst).Nodup := by rw [hg.1]; exact hD.nodup
  have hTA : ∀ p ∈ T, s.heap.size ≤ p.1 := fun p hp => by
    have h1 : p.1 ∈ w.map Prod.fst := by rw [← hg.1]; exact List.mem_map_of_mem hp
    obtain ⟨q, hq, e⟩ := List.mem_map.mp h1
    obtain ⟨k, hk⟩ := List.getElem?_of_mem hq
    rw [← e]
    exact hAe _ (hD.2 k q hk)
  have hTf : ∀ a r r', (a, r) ∈ T → (a, r') ∈ T → r = r' := by
    intro a r r' h1 h2
    obtain ⟨i, hi⟩ := List.getElem?_of_mem h1
    obtain ⟨j, hj⟩ := List.getElem?_of_mem h2
    unfold List.Nodup at hnd
    rw [List.pairwise_iff_getElem] at hnd
    obtain ⟨hi', ei⟩ := List.getElem?_eq_some_iff.mp hi
    obtain ⟨hj', ej⟩ := List.getElem?_eq_some_iff.mp hj
    rcases Nat.lt_trichotomy i j with h | h | h
    · exact absurd (by rw [List.getElem_map, List.getElem_map, ei, ej]) (hnd i j (by rw [List.length_map]; exact hi') (by rw [List.length_map]; exact hj') h)
    · subst h
      rw [hi] at hj
      cases hj
      rfl
    · exact absurd (by rw [List.getElem_map, List.getElem_map, ei, ej]) (hnd j i (by rw [List.length_map]; exact hj') (by rw [List.length_map]; exact hi') h)
  have hfn : ∀ a r r', ((a, r) ∈ T ∨ STR s a r) → ((a, r') ∈ T ∨ STR s a r') → r = r' := by
    rintro a r r' (h1 | h1) (h2 | h2)
    · exact hTf a r r' h1 h2
    · exact absurd h2.lt (Nat.not_lt.mpr (hTA _ h1))
    · exact absurd h1.lt (Nat.not_lt.mpr (hTA _ h2))
    · exact h1.fn h2
  obtain ⟨τ, hτ⟩ : ∃ τ : Nat → Option Nat, ∀ a r, τ a = some r ↔ ((a, r) ∈ T ∨ STR s a r) := by
    classical
    refine ⟨fun a => if h : ∃ r, (a, r) ∈ T ∨ STR s a r then some h.choose else none, fun a r => ?_⟩
    show (if h : ∃ r, (a, r) ∈ T ∨ STR s a r then some h.choose else none) = some r ↔ _
    by_cases h : ∃ r, (a, r) ∈ T ∨ STR s a r
    · rw [dif_pos h]
      constructor
      · intro e
        cases e
        exact h.choose_spec
      · intro h2
        rw [hfn a _ _ h.choose_spec h2]
    · rw [dif_neg h]
      constructor
      · intro e; cases e
      · intro h2; exact absurd ⟨r, h2⟩ h
  have hag : ∀ p ∈ T, τ p.1 = some p.2 := fun p hp => (hτ p.1 p.2).mpr (Or.inl hp)
  refine ⟨τ, hag, fun a r ha hr => ?_, fun a r ha hr => ?_, fun q hq => ?_, hca⟩
  · rcases (hτ a r).mp ha with h | h
    · exact hg.2 τ hag (a, r) h
    · obtain ⟨q, -, e, -⟩ := h
      omega
  · rcases (hτ a r).mp ha with h | h
    · obtain ⟨G, e, h1, -⟩ := hg.2 τ hag (a, r) h
      have := (List.getElem?_eq_some_iff.mp h1).1
      dsimp only at this
      omega
    · obtain ⟨q, -, rfl, -, v, n, h1, h2⟩ := h
      exact ⟨v, n, by rw [Nat.add_sub_cancel_left]; exact h1, h2⟩
  · obtain ⟨a, h1, h2⟩ := hstr q hq
    exact ⟨a, h2, (hτ a _).mpr (Or.inr h1)⟩
/-- named cells, one after another -/
def okL (kA : Nat → ClassId) (τ : Nat → Option Nat) : List (Nat × Nat) → va_W → Prop
  | [], [] => True
  | p :: P, c :: E => (∃ G, sxRT[p.2]? = some G ∧ p.1 = c.1 ∧ sx_eok kA τ G c.2) ∧ okL kA τ P E
  | _, _ => False
theorem okL_nil {kA : Nat → ClassId} {τ : Nat → Option Nat} : okL kA τ [] [] := trivial
theorem okL_cons {kA : Nat → ClassId} {τ : Nat → Option Nat} {a r : Nat} {e : va_E} {P : List (Nat × Nat)} {E : va_W} (G : sxG) (hG : sxRT[r]? = some G) (h : sx_eok kA τ G e) (h2 : okL kA τ P E) : okL kA τ ((a, r) :: P) ((a, e) :: E) := ⟨⟨G, hG, rfl, h⟩, h2⟩
theorem okL_ok {kA : Nat → ClassId} {τ : Nat → Option Nat} : ∀ (P : List (Nat × Nat)) (E : va_W), okL kA τ P E → P.map Prod.fst = E.map Prod.fst ∧ ∀ p ∈ P, ∃ G e, sxRT[p.2]? = some G ∧ sx_at E p.1 e ∧ sx_eok kA τ G e
  | [], [], _ => ⟨rfl, fun p hp => by cases hp⟩
  | p :: P, c :: E, h => by
    obtain ⟨⟨G, g1, g2, g3⟩, h2⟩ := h
    obtain ⟨e1, e2⟩ := okL_ok P E h2
    refine ⟨by rw [List.map_cons, List.map_cons, g2, e1], fun x hx => ?_⟩
    rcases List.mem_cons.mp hx with rfl | hx
    · exact ⟨G, c.2, g1, ⟨0, by rw [g2]; rfl⟩, g3⟩
    · obtain ⟨G, e, f1, f2, f3⟩ := e2 x hx
      exact ⟨G, e, f1, sx_at_mem.mpr (List.mem_cons_of_mem _ (sx_at_mem.mp f2)), f3⟩
  | [], _ :: _, h => h.elim
  | _ :: _, [], h => h.elim
theorem tyW.many {kA : Nat → ClassId} {T : List (Nat × Nat)} {g : va_W} (hg : tyW kA T g) (P : List (Nat × Nat)) (E : va_W) (h0 : P.map Prod.fst = E.map Prod.fst) (h : ∀ τ : Nat → Option Nat, (∀ p ∈ P ++ T, τ p.1 = some p.2) → okL kA τ P E) : tyW kA (P ++ T) (E ++ g) := by
  refine ⟨by rw [List.map_append, List.map_append, h0, hg.1], fun τ ht p hp => ?_⟩
  rcases List.mem_append.mp hp with hp | hp
  · obtain ⟨G, e, f1, f2, f3⟩ := (okL_ok P E (h τ ht)).2 p hp
    exact ⟨G, e, f1, sx_at_mem.mpr (List.mem_append_left _ (sx_at_mem.mp f2)), f3⟩
  · obtain ⟨G, e, f1, f2, f3⟩ := hg.2 τ (fun q hq => ht q (List.mem_append_right _ hq)) p hp
    exact ⟨G, e, f1, sx_at_mem.mpr (List.mem_append_right _ (sx_at_mem.mp f2)), f3⟩
def drL (P : Nat → Nat → Prop) : Nat → List Nat → Prop
  | _, [] => True
  | k, r :: l => P k r ∧ drL P (k + 1) l
theorem drL_ok {P : Nat → Nat → Prop} : ∀ (l : List Nat) (k : Nat), drL P k l → ∀ i r, l[i]? = some r → P (k + i) r
  | [], _, _, i, r, h => by cases i <;> cases h
  | x :: l, k, h, 0, r, hr => by cases hr; exact h.1
  | x :: l, k, h, i + 1, r, hr => by
    have := drL_ok l (k + 1) h.2 i r hr
    rw [show k + 1 + i = k + (i + 1) by omega] at this
    exact this
/-- a memo of a named cell -/
theorem mo_o {σ : sxV} {ρ : sxR} {ws : va_W} {i : Nat} {t : sxT} {a : sxA} (k : Nat) {ci : Nat} {fs : List Value} (h1 : ws[k]? = some (ρ i, .inr (ci, fs))) (h2 : 0 ≤ sx_tv σ t) (h3 : fs[(sx_tv σ t).toNat]? = some (sx_val σ ρ a)) : sx_mok σ ρ ws ((0, i), t, a) := ⟨ci, fs, ⟨k, h1⟩, h2, h3⟩
theorem mo_a {σ : sxV} {ρ : sxR} {ws : va_W} {i : Nat} {t : sxT} {a : sxA} (k : Nat) {cA : ClassId} {n : Nat} {d : (Nat → Int32) ⊕ (Nat → Int64) ⊕ (Nat → UInt32) ⊕ (Nat → UInt64) ⊕ (Nat → Option Nat)} (h1 : ws[k]? = some (ρ i, .inl (cA, n, d))) (h2 : 0 ≤ sx_tv σ t) (h3 : (sx_tv σ t).toNat < n) (h4 : sx_el d (sx_tv σ t).toNat = sx_val σ ρ a) : sx_mok σ ρ ws ((1, i), t, a) := ⟨cA, n, d, ⟨k, h1⟩, h2, h3, h4⟩
theorem co_z {ρ : sxR} {ws : va_W} {i x lo hi : Nat} (k : Nat) {cA : ClassId} {n : Nat} (h1 : ws[k]? = some (ρ i, .inl (cA, n, .inl (fun _ => 0)))) : sx_cok ρ (fun _ _ => 0) ws (i, (lo, hi), x) := ⟨cA, n, _, ⟨k, h1⟩, fun j _ _ _ => rfl⟩
theorem p0_preds : ∀ p ∈ sxP0.2.2.2.2.1, sx_pok sxPF (fun _ => 0) (fun _ _ => 0) p := by
  intro p hp
  have hz : ∀ o, ONS o (fun _ => 0) := fun o i _ => ⟨Int.le_refl 0, (by decide : (0 : Int) ≤ 6)⟩
  have hsd : SDp 1 0 0 (fun _ => 0) := ⟨rfl, rfl, by decide, by decide, by decide, hz 11, fun k hk => by omega, fun k _ => (by decide : (0 : Int) ≤ 0 ∧ (0 : Int) ≤ 6), fun _ x hx => by omega⟩
  have hp : p ∈ ([(20, [(0, .ofNat 1), (1, .ofNat 0), (2, .ofNat 0)], [0]), (21, [(3, .ofNat 0), (1, .ofNat 0)], [1]), (22, [], [2]), (23, [], [3, 4, 5])] : List sxP) := hp
  simp only [List.mem_cons, List.not_mem_nil, or_false] at hp
  rcases hp with rfl | rfl | rfl | rfl
  · exact hsd
  · exact fun j hj => by have hj : (j : Int) < 0 + 0 := hj; omega
  · exact fun k _ => ⟨0, 0, hsd⟩
  · exact fun t _ => ⟨(by decide : (0 : Int) ≤ 12), fun j hj => by have hj : (j : Int) < 0 := hj; omega⟩
theorem p0_ints : sx_I sxP0.1 (fun _ => 0) := by
  intro i e he
  have h := (by decide +kernel : sxP0.1.all (fun e => decide (e.1 ≤ 0) && decide (0 ≤ e.2)) = true)
  have h1 := List.all_eq_true.mp h e (List.mem_of_getElem? he)
  simp only [Bool.and_eq_true] at h1
  exact ⟨of_decide_eq_true h1.1, of_decide_eq_true h1.2⟩
