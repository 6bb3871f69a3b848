/-! a checker of walks: the step of a call -/
def sx_TKok (TK : (Nat → Option Nat) → va_W → State → Prop) : Prop := (∀ τ ws (a : Array Value) U g mk, TK τ ws U → TK τ ws (U.calling g mk a)) ∧ ∀ τ ws (s : State), TK τ ws s → ∀ ws' H locs, va_D (va_A ws s.heap.size) ws' → va_S (va_A ws s.heap.size) s.heap H locs → ∀ U : State, U.heap = H → s.WarmedH U.vm → TK τ ws' U
/-- a call's link: 0 a method of an object of class ci, 1 a static one, 2 a static one of the nest, else a method of a String -/
def sx_cl (My : Nat → MethodName) (Mc : Nat → ByteArray) (ML : Nat → Nat) (Mr : Nat → Option FieldType) (own : String) (ix kd k ci n : Nat) : Prop := ((My k).cls ≠ "java/lang/invoke/MethodHandle" ∧ (My k).cls ≠ "java/lang/invoke/VarHandle" ∧ (parseMethodDescriptor (My k).desc).map (fun d => d.parameters.length) = some n) ∧ match kd with
  | 0 => GoodIn lwG (wsV own ix (My k).cls (My k) (wsU (My k) (Mc k) (ML k) (Mr k))) ∧ ∃ q, vwCl[ci]? = some q ∧ q.1 = (My k).cls
  | 1 => GoodIn lwG (va_wsS own ix (My k) (wsU (My k) (Mc k) (ML k) (Mr k)))
  | 2 => (∀ s : State, nwK s → va_Nw (.methodLinkNest own ix (My k) RX11) s) ∧ Cond.initialized (My k).cls ∈ lwG ∧ Cond.static (My k) ∈ lwG ∧ GoodIn lwG (wsU (My k) (Mc k) (ML k) (Mr k))
  | _ => GoodIn lwG (wsV own ix (My k).cls (My k) (wsU (My k) (Mc k) (ML k) (Mr k))) ∧ (My k).cls = "java/lang/String"
section SXJ
variable {PF : Nat → List Int → List (Nat → Int) → Prop} {RT : List sxG} {TK : (Nat → Option Nat) → va_W → State → Prop} {τ : Nat → Option Nat} {S : sxS} {σ : sxV} {ρ : sxR} {φ : sxF} {ws : va_W}
variable {p : Program} {l : Launch} {e : Env} {R : Room} {s : State} {m : MethodId} {args : Array Value} {below : List Frame} {meth : Method} {c : Code} {H H0 : Heap} {locs : List Loc} {cells slots : Nat} {Q : State → Prop}
variable {cc : ByteArray} {pc nL : Nat} {ls : Array Slot} {i : Instr} {dC : Nat → ClassId} {dI : Nat → Nat → Nat} {kA : Nat → ClassId} {A : Nat → Prop} {own : String} {rest st0 : List Value} {aa : Array Value}
variable {My : Nat → MethodName} {Mc : Nat → ByteArray} {ML : Nat → Nat} {Mr : Nat → Option FieldType}
theorem sx_after {I : sxI} {σ0 : sxV} {ρ0 : sxR} {φ0 : sxF} (hD : va_D A ws) (hS : va_S A H0 H locs) (hA : ∀ q, H0.size ≤ q → A q) (hr : va_Run p l e R s m args below meth c H locs cells slots 0 0 (F0 m pc ls st0) rest (sx_QX PF RT dC dI kA τ I σ0 ρ0 φ0 ws (va_A ws H.size) aa) (va_A ws H.size))
    (kk : ∀ E ∈ I.2.2.2.2.2, ∀ σ' ρ' φ' w1 H1 locs1, sx_ag I.2.2.1 σ0 σ' ρ0 ρ' φ0 φ' → sx_dsat PF τ I.2.2.1.1.length I.2.2.1.2.1.length E.1 σ' ρ' φ' w1 → va_P (dC, dI) vwCl w1 H1 → va_D A w1 → va_S A H0 H1 locs1 → sx_wt RT kA τ w1 → sx_un I.2.2.2.2.1 τ ws w1 → W p l e R s m args below meth c H1 locs1 cells slots Q (F0 m (pc + 3) ls ((sx_ret σ' ρ' E.2).toList ++ rest))) : W p l e R s m args below meth c H locs cells slots Q (F0 m pc ls st0) := by
  intro T hT X
  obtain ⟨v', st₀, t, T', L, h0, X', hL, e1, -, ⟨⟨E, hE, σ', ρ', φ', w1, q1, q2, hv, q3, q4, q5, q6⟩, hz, hk⟩, st⟩ := hr T hT X
  cases hv
  rw [h0] at hz hk
  have hsub : ∀ q, va_A ws H.size q → A q := fun q hq => by
    rcases hq with ⟨k, e', hq⟩ | hq
    · exact hD.2 k _ hq
    · exact hA q (Nat.le_trans hS.1 hq)
  have hS2 : va_S A H0 t.heap (locs ++ L) := ⟨Nat.le_trans hS.1 hz, fun q h1 h2 => (hk q (Nat.lt_of_lt_of_le h1 hS.1) (fun z => h2 (hsub q z))).trans (hS.2.1 q h1 h2), fun q hq => by
    rcases List.mem_append.mp hq with h | h
    · exact hS.2.2 q h
    · exact hsub _ (hL q h)⟩
  obtain ⟨t2, a1, b1⟩ := kk E hE σ' ρ' φ' w1 t.heap (locs ++ L) q1 q2 q3 (q4.weaken fun k q _ h => hsub q.1 h) hS2 q5 q6 T' e1 X'
  exact ⟨t2, st t2 a1, b1⟩
/-- the receiver of a call -/
def sx_rcv (RT : List sxG) (τ : Nat → Option Nat) (s : State) (H : Heap) (kd ci : Nat) (C : String) (b : Nat) : Prop := ∃ cell : Cell, H[b]? = some cell ∧ cell.vm.isStatics = false ∧ s.vm.findClass C = some cell.cls
theorem sx_call_ok (hx : p.tables.exec = Jvm.exec) (hb : c.code = cc) (hml : c.maxLocals = nL) (hls : ls.size = nL) (hown : s.vm.findClass own = some m.cls) (hts : ∀ w ∈ lwG, w.before args s = true) (hK : va_K (dC, dI) vwCl (tyL kA) s) (hN : nwK s) (hTKo : sx_TKok TK) (hTK : ∀ ws H locs, va_D A ws → va_S A H0 H locs → ∀ U : State, U.heap = H → s.WarmedH U.vm → TK τ ws U) (hP : va_P (dC, dI) vwCl ws H) (hD : va_D A ws) (hS : va_S A H0 H locs) (hA : ∀ q, H0.size ≤ q → A q) (hT : sx_wt RT kA τ ws)
    {I : sxI} (hM : sx_met PF RT My Mc ML Mr TK l I) {ix kd ci n : Nat} (hcl : sx_cl My Mc ML Mr own ix kd I.1 ci n) (hR : I.2.1.1 + 1 ≤ R.frames ∧ 8 + (ML I.1 + 11) + I.2.1.2 ≤ R.locals) {σ0 : sxV} {ρ0 : sxR} {φ0 : sxF} (hsat : sx_sat PF τ I.2.2.1 σ0 ρ0 φ0 ws) (hc : cells ≤ R.cells ∧ slots ≤ R.slots)
    (hi : (kd = 1 ∨ kd = 2) ∧ i = .invokestatic ix ∧ I.2.2.2.1.length = n ∨ ¬ (kd = 1 ∨ kd = 2) ∧ i = .invokevirtual ix ∧ ∃ b As, I.2.2.2.1.map (sx_val σ0 ρ0) = .ref b :: As ∧ As.length = n ∧ sx_rcv RT τ s H kd ci (My I.1).cls b) (hdg : decode cc pc = .ok (i, 3)) (hrest : (rest.map fun v => v.category).sum ≤ 8) (hst : st0 = (I.2.2.2.1.map (sx_val σ0 ρ0)).reverse ++ rest)
    (kk : ∀ E ∈ I.2.2.2.2.2, ∀ σ' ρ' φ' w1 H1 locs1, sx_ag I.2.2.1 σ0 σ' ρ0 ρ' φ0 φ' → sx_dsat PF τ I.2.2.1.1.length I.2.2.1.2.1.length E.1 σ' ρ' φ' w1 → va_P (dC, dI) vwCl w1 H1 → va_D A w1 → va_S A H0 H1 locs1 → sx_wt RT kA τ w1 → sx_un I.2.2.2.2.1 τ ws w1 → W p l e R s m args below meth c H1 locs1 cells slots Q (F0 m (pc + 3) ls ((sx_ret σ' ρ' E.2).toList ++ rest))) : W p l e R s m args below meth c H locs cells slots Q (F0 m pc ls st0) := by
  have hM := hM dC dI kA τ ws H.size σ0 ρ0 φ0 hsat hT
  have hPc : ∀ U : State, U.heap = H → s.WarmedH U.vm → PW dC dI kA ws H.size U ∧ TK τ ws U := fun U hU hW => ⟨⟨by rw [hU], by rw [hU]; exact hP, va_K.moved hW.alike hK, nwK.warm hW hN, hD.weaken (fun _ _ _ _ => trivial)⟩, hTK ws H locs hD hS U hU hW⟩
  have hbl : ∀ av, FrameBlind (va_Pc av (fun U => PW dC dI kA ws H.size U ∧ TK τ ws U)) := by
    intro av a U g mk q
    obtain ⟨q0, q1, q2⟩ := q
    exact ⟨q0, (pw_bl (av := av) a U g mk ⟨q0, q1⟩).2, hTKo.1 τ ws a U g mk q2⟩
  obtain ⟨hcd, hcl⟩ := hcl
  rcases hi with ⟨hk, rfl, hn⟩ | ⟨hk, rfl, b, As, e1, hn, hrc⟩
  · have hlen : (I.2.2.2.1.map (sx_val σ0 ρ0)).length = n := by rw [List.length_map]; exact hn
    have hps : PreS s H (va_Pc (I.2.2.2.1.map (sx_val σ0 ρ0)) (fun U => PW dC dI kA ws H.size U ∧ TK τ ws U)) (I.2.2.2.1.map (sx_val σ0 ρ0)) := ⟨hbl _, fun U hU hW => ⟨rfl, hPc U hU hW⟩⟩
    rcases hk with rfl | rfl
    · exact sx_after hD hS hA (va_runS (As := I.2.2.2.1.map (sx_val σ0 ρ0)) (rest := rest) (Ts := lwG) ⟨hx, hb, hml, hown, hts⟩ hM (va_cwS n hts hcl rfl rfl rfl hcd hR) hps rfl hlen hls hst (lv_room hrest) hdg ⟨hc.1, hc.2⟩) kk
    · obtain ⟨g1, g2, g3, g4⟩ := hcl
      exact sx_after hD hS hA (va_runSN (As := I.2.2.2.1.map (sx_val σ0 ρ0)) (rest := rest) (Ts := lwG) ⟨hx, hb, hml, hown, hts⟩ hM ⟨va_cnB n hts g4 rfl rfl rfl (g1 s hN) (hts _ g2) hcd hR, hts _ g3, trivial⟩ hps rfl hlen hls hst (lv_room hrest) hdg ⟨hc.1, hc.2⟩) kk
  · have hg : GoodIn lwG (wsV own ix (My I.1).cls (My I.1) (wsU (My I.1) (Mc I.1) (ML I.1) (Mr I.1))) := by
      match kd, hk, hcl with
      | 0, _, hcl => exact hcl.1
      | 1, hk, _ => exact absurd (Or.inl rfl) hk
      | 2, hk, _ => exact absurd (Or.inr rfl) hk
      | k + 3, _, hcl => exact hcl.1
    have hpv : PreV s H (My I.1).cls b (va_Pc (.ref b :: As) (fun U => PW dC dI kA ws H.size U ∧ TK τ ws U)) As := ⟨hbl _, hrc, fun U hU hW => ⟨rfl, hPc U hU hW⟩⟩
    rw [e1] at hM hst
    refine sx_after hD hS hA (va_runV (As := As) (rest := rest) (Ts := lwG) ⟨hx, hb, hml, hown, hts⟩ hM (cwV n hts hg rfl rfl rfl ⟨rfl, hcd⟩ hR) hpv rfl hn hls ?_ (lv_room hrest) hdg ⟨hc.1, hc.2⟩) kk
    show st0 = As.reverse ++ .ref b :: rest
    rw [hst, List.reverse_cons, List.append_assoc]
    rfl
end SXJ
