/-! the law: rule() -/
theorem lawk_rule : lc_m sxP0 sxP0 sxI359 [(0, .ofNat 0), (6, .ofNat 0), (4, .ofNat 0), (5, .ofNat 0)] [1, 5, 6, 7, 11, 8, 9] [3, 4, 5] (0, 161, 12, 64) [some ([(0, .ofNat 0), (1, .ofNat 0), (2, .ofNat 0), (3, .ofNat 0), (18, .ofNat 0), (19, .ofNat 0), (17, .ofNat 0), (7, .ofNat 0), (8, .ofNat 0), (9, .ofNat 0), (10, .ofNat 0), (11, .ofNat 0), (12, .ofNat 0), (13, .ofNat 0), (14, .ofNat 0), (15, .ofNat 0)], [0, 1, 2, 3, 4, 5, 6, 7, 8, 9, 10, 11, 12, 13, 14, 15, 16, 17, 18, 19, 20, 21, 22], [0, 1, 2, 6, 7, 8])] = true := by decide +kernel
theorem ru_after {τ : Nat → Option Nat} {ws : va_W} {p : Program} {l : Launch} {e : Env} {R : Room} {s : State} {m : MethodId} {args : Array Value} {below : List Frame} {meth : Method} {c : Code} {H H0 : Heap} {locs : List Loc} {cells slots mc ms : Nat} {Q : State → Prop} {pc : Nat} {ls : Array Slot} {dC : Nat → ClassId} {dI : Nat → Nat → Nat} {kA : Nat → ClassId} {A : Nat → Prop} {rest st0 : List Value} {aa : Array Value} (hD : va_D A ws) (hS : va_S A H0 H locs) (hA : ∀ q, H0.size ≤ q → A q) (hr : va_Run p l e R s m args below meth c H locs cells slots mc ms (F0 m pc ls st0) rest (ruQ dC dI kA τ ws (va_A ws H.size) aa) (va_A ws H.size))
    (kk : ∀ (v : Int32) (τ' : Nat → Option Nat) (w1 : va_W) (H1 : Heap) (locs1 : List Loc), rd_ext τ τ' → va_P (dC, dI) vwCl w1 H1 → va_D A w1 → va_S A H0 H1 locs1 → sx_wt sxRT kA τ' w1 → sx_un ruM τ ws w1 → W p l e R s m args below meth c H1 locs1 (cells + mc) (slots + ms) Q (F0 m (pc + 3) ls (.int v :: rest))) : W p l e R s m args below meth c H locs cells slots Q (F0 m pc ls st0) := by
  intro T hT X
  obtain ⟨v', st₀, t, T', L, h0, X', hL, e1, -, ⟨⟨v, τ', w1, hv, g2, g3, g4, g5, g6⟩, hz, hk⟩, st⟩ := hr T hT X
  cases hv
  rw [h0] at hz hk
  have hsub := rd_sub hD hS hA
  have hS2 : va_S A H0 t.heap (locs ++ L) := ⟨Nat.le_trans hS.1 hz, fun q h1 h2 => (hk q (Nat.lt_of_lt_of_le h1 hS.1) (fun z => h2 (hsub q z))).trans (hS.2.1 q h1 h2), fun q hq => by
    rcases List.mem_append.mp hq with h | h
    · exact hS.2.2 q h
    · exact hsub _ (hL q h)⟩
  obtain ⟨t2, a1, b1⟩ := kk v τ' w1 t.heap (locs ++ L) g2 g3 (g4.weaken fun k q _ h => hsub q.1 h) hS2 g5 g6 T' e1 X'
  exact ⟨t2, st t2 a1, b1⟩
set_option maxRecDepth 100000 in
theorem law_rul {p : Program} {l : Launch} {e : Env} {s : State} {m : MethodId} {below : List Frame} {meth : Method} {c : Code} {b : Nat} {dC : Nat → ClassId} {dI : Nat → Nat → Nat} {kA : Nat → ClassId} {A : Nat → Prop} (hc : lc_cx l p s m #[Value.ref b] c dC dI kA A s.heap) : law_RUL p l e s m below meth c b dC dI kA A := by
  intro cells slots i τ σ ρ φ ws H locs ls hc1 hc2 hp hl next
  obtain ⟨hx, hb, hml, hown, hts, hK, hN, hA⟩ := id hc
  obtain ⟨hs, hP, hD, hS, hT, hTK⟩ := hp
  refine lv_aload_n hx hb dL_law_291 rfl (lv_at hl 2 rfl) ?_
  have hbl : ∀ (av : List Value), FrameBlind (va_Pc av (fun U => PW dC dI kA ws H.size U ∧ sxTK τ ws U)) := by
    intro av a U g mk q
    obtain ⟨q0, q1, q2⟩ := q
    exact ⟨q0, (pw_bl (av := av) a U g mk ⟨q0, q1⟩).2, sxTK_ok.1 τ ws a U g mk q2⟩
  have hx0 : τ (ρ 0) = some 0 := hs.2.1 0 _ rfl
  obtain ⟨qr, fsr, vr, z1, -, -⟩ := rd_fld hT hx0 rfl rfl (k := 0) (by decide) rfl
  have hrcv := va_recv hK hP (show vwCl[11]? = some (RX11, TX11, 14) from rfl) z1
  have hcl := ((sxcL_ok _ (sx_find_mem (show sx_find sxcL 28 = some (0, 55, 11, 128) from rfl))).1 (by decide)).2
  have hg : GoodIn lwG (wsV RL 28 RX11 yX11_rule (wsU yX11_rule cX11_rule 2 (some .int))) := hcl.2.1
  refine ru_after hD hS hA (va_runV (As := []) (rest := []) (Ts := lwG) ⟨hx, hb, hml, hown, hts⟩ (met_rule (PF := sxPF) l dC dI kA τ ws H.size hx0 hT) (cwV 0 hts hg rfl rfl rfl ⟨rfl, hcl.1⟩ ⟨by decide, by decide⟩) ⟨hbl _, hrcv, fun U hU hW => ⟨rfl, ⟨by rw [hU], by rw [hU]; exact hP, va_K.moved hW.alike hK, nwK.warm hW hN, hD.weaken (fun _ _ _ _ => trivial)⟩, hTK ws H locs hD hS U hU hW⟩⟩ rfl rfl hl.1 rfl (lv_room (Nat.le_of_ble_eq_true rfl)) dL_law_292 ⟨hc1, hc2⟩) (fun v τ' w1 H1 locs1 he hP1 hD1 hS1 hT1 hU1 => ?_)
  have hs' : sx_sat sxPF τ' sxP0 σ ρ φ w1 := rd_keep hD hs hU1 he.1 (by decide +kernel)
  refine lv_pop hx hb dL_law_295 rfl ?_
  refine lv_aload_n hx hb dL_law_296 rfl (lv_at hl 1 rfl) ?_
  refine law_m (S := sxP0) (P := sxP0) (rest := []) hc hl.1 ⟨hs', hP1, hD1, hS1, hT1, fun ws H locs d1 d2 U u1 u2 => rd_tk (hTK ws H locs d1 d2 U u1 u2) he⟩ ⟨hc1, hc2⟩ sxmI359 (ix := 31) rfl sxP0_wf lawk_rule (by decide +kernel) dL_law_297 (by decide) rfl (by decide) (fun σ2 ρ2 φ2 w2 H2 locs2 v e0 e1 hp2 => ?_)
  refine lv_pop hx hb dL_law_300 rfl ?_
  refine lv_goto (tgt := 1190) hx hb dL_law_301 (by decide) ?_
  exact next τ' σ2 ρ2 φ2 w2 H2 locs2 e0 e1 hp2
