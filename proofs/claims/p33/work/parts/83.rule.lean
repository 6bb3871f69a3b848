/-! RuleReader.read -/
theorem rd_fld {kA : Nat → ClassId} {τ : Nat → Option Nat} {ws : va_W} (hT : sx_wt sxRT kA τ ws) {a r : Nat} {G : sxG} (h : τ a = some r) (hG : sxRT[r]? = some G) (h0 : G.1 = 0) {k : Nat} (hk : k < G.2.2.1) {qq : sxQ} (hq : sx_seg G.2.2.2.2 k = some qq) : ∃ (q0 : Nat) (fs : List Value) (v : Value), ws[q0]? = some (a, .inr (G.2.1, fs)) ∧ fs[k]? = some v ∧ sx_fok τ qq v := by
  obtain ⟨G', e, e1, ⟨q0, e2⟩, e3⟩ := hT a r h (List.getElem?_eq_some_iff.mp hG).1
  rw [hG] at e1
  cases e1
  unfold sx_eok at e3
  rw [h0] at e3
  obtain ⟨fs, rfl, e4, e5⟩ := e3
  have hv : fs[k]? = some (fs[k]'(by omega)) := List.getElem?_eq_getElem _
  obtain ⟨q', e6, e7⟩ := e5 k _ hv
  rw [hq] at e6
  cases e6
  exact ⟨q0, fs, _, e2, hv, e7⟩
theorem rd_arr {kA : Nat → ClassId} {τ : Nat → Option Nat} {ws : va_W} (hT : sx_wt sxRT kA τ ws) {a r : Nat} {G : sxG} (h : τ a = some r) (hG : sxRT[r]? = some G) (h1 : G.1 = 1) (h2 : G.2.1 = 0) : ∃ (q0 n : Nat) (f : Nat → Int32), ws[q0]? = some (a, .inl (kA 0, n, .inl f)) ∧ G.2.2.1 ≤ n ∧ n ≤ G.2.2.2.1 ∧ ∀ j : Nat, j < n → ∃ q, sx_seg G.2.2.2.2 j = some q ∧ sx_fok τ q (.int (f j)) := by
  obtain ⟨G', e, e1, ⟨q0, e2⟩, e3⟩ := hT a r h (List.getElem?_eq_some_iff.mp hG).1
  rw [hG] at e1
  cases e1
  unfold sx_eok at e3
  rw [h1] at e3
  obtain ⟨n, d, rfl, e4, e5, e6, e7⟩ := e3
  rw [h2] at e6 e2
  obtain ⟨f, rfl⟩ := e6
  exact ⟨q0, n, f, e2, e4, e5, e7⟩
section RD
variable {p : Program} {l : Launch} {e : Env} {R : Room} {s : State} {m : MethodId} {args : Array Value} {below : List Frame} {meth : Method} {c : Code} {H H0 : Heap} {locs : List Loc} {cells slots mc ms : Nat} {Q : State → Prop} {pc : Nat} {ls : Array Slot} {dC : Nat → ClassId} {dI : Nat → Nat → Nat} {kA : Nat → ClassId} {A : Nat → Prop} {rest st0 : List Value} {aa : Array Value} {ws : va_W}
theorem rd_sub (hD : va_D A ws) (hS : va_S A H0 H locs) (hA : ∀ q, H0.size ≤ q → A q) : ∀ q, va_A ws H.size q → A q := fun q hq => by
  rcases hq with ⟨k, e', hq⟩ | hq
  · exact hD.2 k _ hq
  · exact hA q (Nat.le_trans hS.1 hq)
theorem cp_after {N n : Nat} {f : Nat → Int32} (hD : va_D A ws) (hS : va_S A H0 H locs) (hA : ∀ q, H0.size ≤ q → A q) (hr : va_Run p l e R s m args below meth c H locs cells slots mc ms (F0 m pc ls st0) rest (cpQ dC dI kA ws N n f (va_A ws H.size) aa) (va_A ws H.size))
    (kk : ∀ (q : Nat) (g : Nat → Int32) (H1 : Heap) (locs1 : List Loc), (∀ j, j < N → (j < n ∧ g j = f j) ∨ g j = 0) → va_P (dC, dI) vwCl (ws ++ [(q, .inl (kA 0, N, .inl g))]) H1 → va_D A (ws ++ [(q, .inl (kA 0, N, .inl g))]) → va_S A H0 H1 locs1 → W p l e R s m args below meth c H1 locs1 (cells + mc) (slots + ms) Q (F0 m (pc + 3) ls (.ref q :: rest))) : W p l e R s m args below meth c H locs cells slots Q (F0 m pc ls st0) := by
  intro T hT X
  obtain ⟨v', st₀, t, T', L, h0, X', hL, e1, -, ⟨⟨q, g, hv, g1, g2, g3⟩, hz, hk⟩, st⟩ := hr T hT X
  cases hv
  rw [h0] at hz hk
  have hsub := rd_sub hD hS hA
  have hS2 : va_S A H0 t.heap (locs ++ L) := ⟨Nat.le_trans hS.1 hz, fun q h1 h2 => (hk q (Nat.lt_of_lt_of_le h1 hS.1) (fun z => h2 (hsub q z))).trans (hS.2.1 q h1 h2), fun q hq => by
    rcases List.mem_append.mp hq with h | h
    · exact hS.2.2 q h
    · exact hsub _ (hL q h)⟩
  obtain ⟨t2, a1, b1⟩ := kk q g t.heap (locs ++ L) g1 g2 (g3.weaken fun k q _ h => hsub q.1 h) hS2 T' e1 X'
  exact ⟨t2, st t2 a1, b1⟩
theorem qu_after {Wp : va_W → Prop} (hD : va_D A ws) (hS : va_S A H0 H locs) (hA : ∀ q, H0.size ≤ q → A q) (hr : va_Run p l e R s m args below meth c H locs cells slots mc ms (F0 m pc ls st0) rest (QU dC dI none Wp (va_A ws H.size) aa) (va_A ws H.size))
    (kk : ∀ (w1 : va_W) (H1 : Heap) (locs1 : List Loc), Wp w1 → va_P (dC, dI) vwCl w1 H1 → va_D A w1 → va_S A H0 H1 locs1 → W p l e R s m args below meth c H1 locs1 (cells + mc) (slots + ms) Q (F0 m (pc + 3) ls rest)) : W p l e R s m args below meth c H locs cells slots Q (F0 m pc ls st0) := by
  intro T hT X
  obtain ⟨v', st₀, t, T', L, h0, X', hL, e1, -, ⟨⟨hv, w1, hw, g2, g3⟩, hz, hk⟩, st⟩ := hr T hT X
  cases hv
  rw [h0] at hz hk
  have hsub := rd_sub hD hS hA
  have hS2 : va_S A H0 t.heap (locs ++ L) := ⟨Nat.le_trans hS.1 hz, fun q h1 h2 => (hk q (Nat.lt_of_lt_of_le h1 hS.1) (fun z => h2 (hsub q z))).trans (hS.2.1 q h1 h2), fun q hq => by
    rcases List.mem_append.mp hq with h | h
    · exact hS.2.2 q h
    · exact hsub _ (hL q h)⟩
  obtain ⟨t2, a1, b1⟩ := kk w1 t.heap (locs ++ L) hw g2 (g3.weaken fun k q _ h => hsub q.1 h) hS2 T' e1 X'
  exact ⟨t2, st t2 a1, b1⟩
end RD
/-- a larger typing of cells -/
def rd_ext (τ τ' : Nat → Option Nat) : Prop := (∀ a r, τ a = some r → τ' a = some r) ∧ ∀ a r, τ' a = some r → τ a = some r ∨ r < sxRT.length
theorem rd_fok {τ τ' : Nat → Option Nat} (h : ∀ a r, τ a = some r → τ' a = some r) {q : sxQ} {v : Value} (hv : sx_fok τ q v) : sx_fok τ' q v := by
  unfold sx_fok at hv ⊢
  split <;> rename_i hq <;> simp only [hq] at hv
  · exact hv
  · exact hv
  · obtain ⟨a, e1, e2⟩ := hv
    exact ⟨a, e1, h a _ e2⟩
  · rcases hv with e1 | ⟨a, e1, e2⟩
    · exact Or.inl e1
    · exact Or.inr ⟨a, e1, h a _ e2⟩
theorem rd_eok {kA : Nat → ClassId} {τ τ' : Nat → Option Nat} (h : ∀ a r, τ a = some r → τ' a = some r) {G : sxG} {e : va_E} (he : sx_eok kA τ G e) : sx_eok kA τ' G e := by
  unfold sx_eok at he ⊢
  split <;> rename_i hq <;> simp only [hq] at he
  · obtain ⟨fs, e1, e2, e3⟩ := he
    exact ⟨fs, e1, e2, fun k v hv => by obtain ⟨q, g1, g2⟩ := e3 k v hv; exact ⟨q, g1, rd_fok h g2⟩⟩
  · obtain ⟨n, d, e1, e2, e3, e4, e5⟩ := he
    exact ⟨n, d, e1, e2, e3, e4, fun j hj => by obtain ⟨q, g1, g2⟩ := e5 j hj; exact ⟨q, g1, rd_fok h g2⟩⟩
