/-! rule() of the class -/
def ruh1 : sxH := (sxk_X11_rule, sxgX11, sxpX11, sxcX11, (sxkiX11, sxklX11, sxksX11), (2, [], [(([], [], 0, [], [], [], []), some (0, 0, .negSucc 0))], 0), (1, 1, 0), (60, 1500))
def ruS1 : sxS := ([(.ofNat 0, .ofNat 0)], [0], 0, [], [], [], [])
def ruA1 : List sxB := [((19, false), (1, 1, 0), (([(.ofNat 0, .ofNat 5)], [4, 1], 0, [], [], [((0, 0), (0, .ofNat 0), (2, 2, .ofNat 0)), ((0, 0), (0, .ofNat 2), (2, 1, .ofNat 0)), ((0, 0), (0, .ofNat 12), (0, 1, .ofNat 0))], []), [(0, (2, 0, .ofNat 0))], [(2, 2, .ofNat 0), (2, 1, .ofNat 0)], ([], 0)))]
def ruj1 : List sxJ := [((19, 2, 0), ([(1, .ofNat 0)], [1, 2], []), (sxE0, [], [], ([], .ofNat 0))),
  ((10, 11, 0), ([], [], []), (sxE0, [], [], ([], .ofNat 0)))]
theorem ruv1 : (sx_exec sxRT [] [] ruh1 63 0 ruS1 [(0, (2, 0, .ofNat 0))] [] ruA1 ruj1).isSome = true := by decide +kernel
def ruh2 : sxH := (sxk_X11_rule, sxgX11, sxpX11, sxcX11, (sxkiX11, sxklX11, sxksX11), (2, [(1, 1, 2)], [(([(.negSucc 2147483647, .ofNat 2147483647)], [], 0, [], [], [], []), some (0, 1, .ofNat 0))], 0), (1, 1, 0), (60, 1500))
def ruS2 : sxS := ([(.ofNat 0, .ofNat 0), (.ofNat 0, .ofNat 5)], [0, 4, 1], 0, [], [], [((0, 0), (0, .ofNat 0), (2, 2, .ofNat 0)), ((0, 0), (0, .ofNat 2), (2, 1, .ofNat 0)), ((0, 0), (0, .ofNat 12), (0, 1, .ofNat 0))], [])
def ruA2 : List sxB := []
def ruj2 : List sxJ := [((45, 11, 0), ([(3, .ofNat 0)], [], []), (sxE0, [], [], ([], .ofNat 0)))]
theorem ruv2 : (sx_exec sxRT [] [] ruh2 64 22 ruS2 [(0, (2, 0, .ofNat 0))] [(3, 0, .ofNat 0)] ruA2 ruj2).isSome = true := by decide +kernel
def ruh3 : sxH := (sxk_X11_rule, sxgX11, sxpX11, sxcX11, (sxkiX11, sxklX11, sxksX11), (2, [(1, 1, 2)], [], 0), (1, 1, 0), (60, 1500))
def ruS3 : sxS := ([(.ofNat 0, .ofNat 0), (.ofNat 0, .ofNat 5)], [0, 4, 1, 8], 0, [], [], [((0, 0), (0, .ofNat 0), (2, 2, .ofNat 0)), ((0, 0), (0, .ofNat 2), (2, 1, .ofNat 0)), ((0, 0), (0, .ofNat 12), (0, 1, .ofNat 0))], [])
def ruA3 : List sxB := [((55, false), (2, 4, 0), (([], [7], 0, [], [], [((0, 0), (0, .ofNat 12), (0, 1, .ofNat 0))], []), [(0, (2, 0, .ofNat 0))], [(2, 3, .ofNat 0), (0, 1, .ofNat 0), (2, 4, .ofNat 0)], ([], 0)))]
def ruj3 : List sxJ := [((55, 2, 0), ([], [4], []), (sxE0, [], [], ([], .ofNat 0)))]
theorem ruv3 : (sx_exec sxRT [] [] ruh3 64 22 ruS3 [(0, (2, 0, .ofNat 0))] [(2, 3, .ofNat 0)] ruA3 ruj3).isSome = true := by decide +kernel
def ruh4 : sxH := (sxk_X11_rule, sxgX11, sxpX11, sxcX11, (sxkiX11, sxklX11, sxksX11), (2, [(0, 12, 13)], [(([(.ofNat 0, .ofNat 5)], [], 0, [], [], [], []), some (0, 1, .ofNat 0))], 0), (1, 1, 0), (60, 1500))
def ruS4 : sxS := ([(.ofNat 0, .ofNat 0), (.ofNat 0, .ofNat 5)], [0], 0, [], [], [((0, 0), (0, .ofNat 12), (0, 1, .ofNat 0))], [])
def ruA4 : List sxB := []
def ruj4 : List sxJ := [((72, 11, 0), ([(1, .ofNat 0)], [], []), (sxE0, [], [], ([], .ofNat 0)))]
theorem ruv4 : (sx_exec sxRT [] [] ruh4 62 56 ruS4 [(0, (2, 0, .ofNat 0))] [] ruA4 ruj4).isSome = true := by decide +kernel
def ruM : sxK := [(0, 12, 13), (1, 1, 6), (4, 2, 5), (5, 0, 400), (6, 0, 24), (7, 0, 6)]
section RU
variable {PF : Nat → List Int → List (Nat → Int) → Prop} {τ τ' : Nat → Option Nat} {S : sxS} {σ : sxV} {ρ : sxR} {φ : sxF} {ws w1 : va_W} {p : Program} {l : Launch} {e : Env} {R : Room} {s : State} {m : MethodId} {args : Array Value} {below : List Frame} {meth : Method} {c : Code} {H H0 : Heap} {locs : List Loc} {cells slots mc ms : Nat} {Q : State → Prop} {pc : Nat} {ls : Array Slot} {dC : Nat → ClassId} {dI : Nat → Nat → Nat} {kA : Nat → ClassId} {A : Nat → Prop} {rest st0 : List Value} {aa : Array Value}
theorem rd_after {M : sxK} (hD : va_D A ws) (hS : va_S A H0 H locs) (hA : ∀ q, H0.size ≤ q → A q) (hr : va_Run p l e R s m args below meth c H locs cells slots mc ms (F0 m pc ls st0) rest (rdQ dC dI kA τ M ws (va_A ws H.size) aa) (va_A ws H.size))
    (kk : ∀ (v : Value) (τ' : Nat → Option Nat) (w1 : va_W) (H1 : Heap) (locs1 : List Loc), (v = .null ∨ ∃ a, v = .ref a ∧ τ' a = some 8) → rd_ext τ τ' → va_P (dC, dI) vwCl w1 H1 → va_D A w1 → va_S A H0 H1 locs1 → sx_wt sxRT kA τ' w1 → sx_un M τ ws w1 → W p l e R s m args below meth c H1 locs1 (cells + mc) (slots + ms) Q (F0 m (pc + 3) ls (v :: rest))) : W p l e R s m args below meth c H locs cells slots Q (F0 m pc ls st0) := by
  intro T hT X
  obtain ⟨v', st₀, t, T', L, h0, X', hL, e1, -, ⟨⟨v, τ', w1, hv, g1, g2, g3, g4, g5, g6⟩, hz, hk⟩, st⟩ := hr T hT X
  cases hv
  rw [h0] at hz hk
  have hsub := rd_sub hD hS hA
  have hS2 : va_S A H0 t.heap (locs ++ L) := ⟨Nat.le_trans hS.1 hz, fun q h1 h2 => (hk q (Nat.lt_of_lt_of_le h1 hS.1) (fun z => h2 (hsub q z))).trans (hS.2.1 q h1 h2), fun q hq => by
    rcases List.mem_append.mp hq with h | h
    · exact hS.2.2 q h
    · exact hsub _ (hL q h)⟩
  obtain ⟨t2, a1, b1⟩ := kk v τ' w1 t.heap (locs ++ L) g1 g2 g3 (g4.weaken fun k q _ h => hsub q.1 h) hS2 g5 g6 T' e1 X'
  exact ⟨t2, st t2 a1, b1⟩
theorem rd_keep {K : sxK} (hwd : va_D A ws) (h : sx_sat PF τ S σ ρ φ ws) (hu : sx_un K τ ws w1) (hm : ∀ a r, τ a = some r → τ' a = some r) (hk : (S.2.2.2.2.2.1.all (sx_keep S K) && S.2.2.2.2.2.2.all (sx_keepc S K)) = true) : sx_sat PF τ' S σ ρ φ w1 := by
  rw [Bool.and_eq_true] at hk
  exact ⟨h.1, fun i r hi => hm _ _ (h.2.1 i r hi), h.2.2.1, h.2.2.2.1, fun x hx => sx_keep_ok hwd h hu (h.2.2.2.2.1 x hx) (List.all_eq_true.mp hk.1 x hx), fun x hx => sx_keepc_ok h hu (h.2.2.2.2.2 x hx) (List.all_eq_true.mp hk.2 x hx)⟩
theorem rd_tk {U : State} (h : sxTK τ ws U) (he : rd_ext τ τ') : sxTK τ' ws U := by
  refine ⟨fun a r ha hr => ?_, fun q hq => ?_, h.2.2⟩
  · rcases he.2 a r ha with h2 | h2
    · exact h.1 a r h2 hr
    · omega
  · obtain ⟨x, e1, e2⟩ := h.2.1 q hq
    exact ⟨x, e1, he.1 _ _ e2⟩
theorem rd_un {K M : sxK} (hk : K.all (fun q => sx_mods M q.1 (q.2.1 : Int) ((q.2.2 : Int) - 1)) = true) (h : sx_un K τ ws w1) : sx_un M τ ws w1 := by
  refine h.mono ?_
  rintro r kk ⟨q, q1, q2, q3, q4⟩
  have := List.all_eq_true.mp hk q q1
  have := sx_mods_ok this (j := kk) (by omega) (by omega)
  rw [q2] at this
  exact this
theorem rd_unτ {K : sxK} (hm : ∀ a r, τ a = some r → τ' a = some r) (h : sx_un K τ' ws w1) : sx_un K τ ws w1 := fun a r ha e0 he0 => h a r (hm a r ha) e0 he0
end RU
def ruQ (dC : Nat → ClassId) (dI : Nat → Nat → Nat) (kA : Nat → ClassId) (τ : Nat → Option Nat) (ws : va_W) (A : Nat → Prop) : Array Value → State → Outcome → State → Prop := fun _ st o t => (∃ (v : Int32) (τ' : Nat → Option Nat) (w1 : va_W), o = .returned (some (.int v)) ∧ rd_ext τ τ' ∧ va_P (dC, dI) vwCl w1 t.heap ∧ va_D A w1 ∧ sx_wt sxRT kA τ' w1 ∧ sx_un ruM τ ws w1) ∧ va_F A st t
theorem ru_wf {S : sxS} (h : sx_Iok (0, (1, 40), S, [], [], []) = true) : sx_wf S := (sx_Iok_wf (I := (0, (1, 40), S, [], [], [])) h).1
set_option maxHeartbeats 4000000 in
theorem met_rule {PF : Nat → List Int → List (Nat → Int) → Prop} (l : Launch) (dC : Nat → ClassId) (dI : Nat → Nat → Nat) (kA : Nat → ClassId) (τ : Nat → Option Nat) (ws : va_W) (sz : Nat) {x : Nat} (hx0 : τ x = some 0) (hT : sx_wt sxRT kA τ ws) : Met l yX11_rule (wsU yX11_rule cX11_rule 2 (some .int)) { frames := 60, cells := 3, slots := 430, locals := 1500 } (va_Pc [.ref x] (fun U => PW dC dI kA ws sz U ∧ sxTK τ ws U)) (ruQ dC dI kA τ ws (va_A ws sz)) 3 430 (va_A ws sz) := by
  refine Met.ofW (cc := cX11_rule) (maxL := 2) (ret := some .int) (by decide) rfl ?_
  intro p e s m args below meth c s₁ B hml hv
  obtain ⟨rfl, ⟨hsz, hP, hK, hN, hD0⟩, htk⟩ := hv
  subst hsz
  have hl := lv_entry ([.ref x]) (n := 2) (Nat.le_of_ble_eq_true rfl)
  rw [lg_entry_eq]
  have hx := B.exec
  have hb := B.bytes
  have hts : ∀ w ∈ lwG, w.before ([.ref x] : List Value).toArray s = true := fun w h => atoms_spec (ws := wsU yX11_rule cX11_rule 2 (some .int)) B.pre w (List.mem_cons_of_mem _ h)
  have hown : s.vm.findClass RX11 = some m.cls := findClass_of_methodNamed B.named
  have hA : ∀ q, s.heap.size ≤ q → va_A ws s.heap.size q := fun q h => Or.inr h
  have hret := B.returns
  obtain ⟨A, hAe⟩ : ∃ A, A = va_A ws s.heap.size := ⟨_, rfl⟩
  rw [← hAe] at hA ⊢
  have hD : va_D A ws := by rw [hAe]; exact hD0.self
  -- the context, at any larger typing
  have hcx : ∀ (τ' : Nat → Option Nat) (h : sxH), rd_ext τ τ' → sx_tab sxRT sxMy sxMc sxML sxMr sxFW RX11 cX11_rule h → h.2.2.2.2.2.1.1 = 2 → h.2.2.2.2.2.2.2 = (60, 1500) → h.2.2.2.2.1.2.2 = sxksX11 → sx_cx PF sxRT sxTK sxMy sxMc sxML sxMr sxFW [] [] h l p { frames := 60, cells := 3, slots := 430, locals := 1500 } s m ([.ref x] : List Value).toArray c cX11_rule RX11 dC dI kA A τ' s.heap := by
    intro τ' h he htab e1 e2 e3
    obtain ⟨q1, q2⟩ := sxTK2 sxksX11_ok τ' ws s (rd_tk htk he)
    refine ⟨⟨hx, hb, by rw [hml, e1], hown, hts, hK, hN⟩, ⟨sxTK_ok, fun ws' H locs d1 d2 U u1 u2 => ?_, hA⟩, htab, sxFW_ok, sx_nil, sx_nil, ⟨by rw [e2], by rw [e2]⟩, by rw [e3]; exact q2, ?_⟩
    · rw [hAe] at d1 d2
      exact sxTK_ok.2 τ' ws s (rd_tk htk he) ws' H locs d1 d2 U u1 u2
    · rw [hAe]
      exact q1
  -- an end
  have fin : ∀ (cells slots : Nat), cells ≤ 3 → slots ≤ 430 → ∀ (v : Int32) (pc : Nat) (ls : Array Slot) (τ' : Nat → Option Nat) (w2 : va_W) (H2 : Heap) (locs2 : List Loc), rd_ext τ τ' → va_P (dC, dI) vwCl w2 H2 → va_D A w2 → va_S A s.heap H2 locs2 → sx_wt sxRT kA τ' w2 → sx_un ruM τ ws w2 → decode cX11_rule pc = .ok (.ireturn, 1) → W p l e { frames := 60, cells := 3, slots := 430, locals := 1500 } s m ([.ref x] : List Value).toArray below meth c H2 locs2 cells slots (MQ below (ruQ dC dI kA τ ws A) ([.ref x] : List Value).toArray s 3 430 A) (F0 m pc ls [.int v]) := by
    intro cells slots h1 h2 v pc ls τ' w2 H2 locs2 he g1 g2 g3 g4 g5 hdg
    refine W.widen (k := 3) (n := 430) h1 h2 ?_
    exact W.iret hx hb hret (fun t ht _ => ⟨⟨v, τ', w2, rfl, he, by rw [ht]; exact g1, g2, g4, g5⟩, g3.F ht⟩) g3.2.2 hdg B.notSynchronized
  -- a segment's ends
  have ends : ∀ (h : sxH) (τ' : Nat → Option Nat) (w0 : va_W) (σ0 : sxV) (ρ0 : sxR) (φ0 : sxF) (cells slots : Nat), cells ≤ 3 → slots ≤ 430 → rd_ext τ τ' → sx_un ruM τ ws w0 → h.2.2.2.2.2.1.2.1.all (fun q => sx_mods ruM q.1 (q.2.1 : Int) ((q.2.2 : Int) - 1)) = true → h.2.2.2.2.2.1.2.2.2 = 0 → sx_RH PF sxRT h dC dI kA A τ' s.heap w0 σ0 ρ0 φ0 p l e { frames := 60, cells := 3, slots := 430, locals := 1500 } s m ([.ref x] : List Value).toArray below meth c cX11_rule cells slots (MQ below (ruQ dC dI kA τ ws A) ([.ref x] : List Value).toArray s 3 430 A) := by
    intro h τ' w0 σ0 ρ0 φ0 cells slots h1 h2 he hu hmd hrc E hE i pc ls σ' ρ' φ' ws' H' locs' hdg a1 a2 a3 hd hp' hrk
    obtain ⟨p1, p2, p3, p4, p5⟩ := hp'
    rw [hrc] at hrk
    rcases hrk with ⟨rfl, r1, r2⟩ | ⟨rfl, y, r1, r2⟩ | ⟨rfl, r1, y, r2⟩ | ⟨rfl, r1, w, r2, r3⟩
    · exact absurd r1 (by decide)
    · rw [r1]
      exact fin cells slots h1 h2 _ pc ls τ' ws' H' locs' he p1 p2 p3 p4 (hu.trans (rd_unτ he.1 (rd_un hmd p5))) hdg
    · exact absurd r1 (by decide)
    · exact absurd r1 (by decide)
  have ext0 : rd_ext τ τ := ⟨fun _ _ h => h, fun _ _ h => Or.inl h⟩
  have hs1 : sx_sat PF τ ruS1 (fun _ => 0) (fun _ => x) (fun _ _ => 0) ws := ⟨sx_de1 (P := fun _ e => e.1 ≤ 0 ∧ 0 ≤ e.2) ⟨by decide, by decide⟩, (fun i r hr => by
    match i, hr with
    | 0, hr => cases hr; exact hx0
    | i + 1, hr => cases i <;> cases hr), sx_nil, sx_nil, sx_nil, sx_nil⟩
  obtain ⟨its1, hck1⟩ := Option.isSome_iff_exists.mp ruv1
  refine sx_exec_ok (w0 := ws) (σ0 := fun _ => 0) (ρ0 := fun _ => x) (φ0 := fun _ _ => 0) (meth := meth) (below := below) (e := e) (cells := 0) (slots := 0) (hcx τ ruh1 ext0 sxt_X11_rule rfl rfl rfl) (by decide) ⟨by decide, by decide⟩ (ends ruh1 τ ws _ _ _ 0 0 (by decide) (by decide) ext0 sx_un.rfl (by decide +kernel) rfl) _ 0 ruS1 _ _ ruA1 _ its1 hck1 _ _ _ ws s.heap [] _ (ru_wf (by decide +kernel)) ⟨sx_cons (sx_bA_ok (by decide)) sx_nil, sx_nil⟩ ⟨Nat.le_refl _, Nat.le_refl _, Nat.le_refl _⟩ ⟨fun _ _ => rfl, fun _ _ => rfl, fun _ _ => rfl⟩ ?_ hs1 ⟨hP, hD, va_S.rf, hT, sx_un.rfl⟩ hl
  intro a ha
  have ha := List.mem_singleton.mp ha
  subst ha
  refine ⟨Nat.le_refl _, Nat.le_refl _, Nat.le_refl _, (fun h => by cases h), ?_⟩
  intro σ1 ρ1 φ1 ws1 H1 locs1 ls1 g1 g2 g3 g4 g5 g6 _
  obtain ⟨hP1, hD1, hS1, hT1, hU1⟩ := g5
  have hw1 : sx_wf ruS1 := ru_wf (by decide +kernel)
  have hs19 : sx_sat PF τ ruS2 σ1 ρ1 φ1 ws1 := sx_ext_sat (S := ruS1) hw1 hs1 ⟨g1, g2, g3⟩ g4
  have hl1 : lv_has ls1 2 [(0, .ref (ρ1 0))] := g6
  have hsr : sx_sat PF τ sxI296.2.2.1 (fun _ => 0) (fun i => ρ1 (i + 1)) (fun _ _ => 0) ws1 := ⟨sx_de1 (P := fun _ e => e.1 ≤ 0 ∧ 0 ≤ e.2) ⟨by decide, by decide⟩, (fun i r hr => by
    match i, hr with
    | 0, hr => cases hr; exact hs19.2.1 1 _ rfl
    | 1, hr => cases hr; exact hs19.2.1 2 _ rfl
    | i + 2, hr => cases i <;> cases hr), sx_nil, sx_nil, sx_nil, sx_nil⟩
  have hbl : ∀ (av : List Value), FrameBlind (va_Pc av (fun U => PW dC dI kA ws1 H1.size U ∧ sxTK τ ws1 U)) := by
    intro av a U g mk q
    obtain ⟨q0, q1, q2⟩ := q
    exact ⟨q0, (pw_bl (av := av) a U g mk ⟨q0, q1⟩).2, sxTK_ok.1 τ ws1 a U g mk q2⟩
  obtain ⟨qr, fsr, vr, z1, -, -⟩ := rd_fld hT1 (hs19.2.1 1 _ rfl) rfl rfl (k := 0) (by decide) rfl
  have hrcv := va_recv hK hP1 (show vwCl[9]? = some (RX9, TX9, 5) from rfl) z1
  refine rd_after hD1 hS1 hA (va_runV (As := [.ref (ρ1 2)]) (rest := []) (Ts := lwG) ⟨hx, hb, hml, hown, hts⟩ (met_read l dC dI kA τ ws1 H1.size _ _ _ hsr hT1) (cwV 1 hts (gV rk_rl rk_x9i rk_x9s rk_x9n rk_x9c) rfl rfl rfl ⟨rfl, ⟨by decide, by decide, by decide +kernel⟩⟩ ⟨by decide, by decide⟩) ⟨hbl _, hrcv, fun U hU hW => ⟨rfl, ⟨by rw [hU], by rw [hU]; exact hP1, va_K.moved hW.alike hK, nwK.warm hW hN, hD1.weaken (fun _ _ _ _ => trivial)⟩, sxTK_ok.2 τ ws s htk ws1 H1 locs1 (by rw [← hAe]; exact hD1) (by rw [← hAe]; exact hS1) U hU hW⟩⟩ rfl rfl hl1.1 rfl (lv_room (Nat.le_of_ble_eq_true rfl)) dX11_rule_19 ⟨by decide, by decide⟩) (fun v τ2 w2 H2 locs2 hv he hP2 hD2 hS2 hT2 hU2 => ?_)
  have hs22 : sx_sat PF τ2 ruS2 σ1 ρ1 φ1 w2 := rd_keep hD1 hs19 hU2 he.1 (by decide +kernel)
  have hun : sx_un ruM τ ws w2 := (rd_un (by decide +kernel) hU1).trans (rd_un (by decide +kernel) hU2)
  have hw2 : sx_wf ruS2 := ru_wf (by decide +kernel)
  rcases hv with rfl | ⟨a, rfl, ha⟩
  · obtain ⟨its2, hck2⟩ := Option.isSome_iff_exists.mp ruv2
    exact sx_exec_ok (w0 := w2) (σ0 := σ1) (ρ0 := ρ1) (φ0 := φ1) (meth := meth) (below := below) (e := e) (cells := 0 + 3) (slots := 0 + 430) (hcx τ2 ruh2 he sxt_X11_rule rfl rfl rfl) (by decide) ⟨by decide, by decide⟩ (ends ruh2 τ2 w2 _ _ _ (0 + 3) (0 + 430) (by decide) (by decide) he hun (by decide +kernel) rfl) _ 22 ruS2 _ _ ruA2 _ its2 hck2 _ _ _ w2 H2 locs2 _ hw2 ⟨sx_cons (sx_bA_ok (by decide)) sx_nil, sx_cons (sx_bA_ok (by decide)) sx_nil⟩ ⟨by decide, by decide, by decide⟩ ⟨fun _ _ => rfl, fun _ _ => rfl, fun _ _ => rfl⟩ (fun a h => by cases h) hs22 ⟨hP2, hD2, hS2, hT2, sx_un.rfl⟩ hl1
  · obtain ⟨its3, hck3⟩ := Option.isSome_iff_exists.mp ruv3
    have hs3 : sx_sat PF τ2 ruS3 σ1 (sx_upr ρ1 3 a) φ1 w2 := (sx_newr0_ok hw2 hs22 ha).2
    have hw3 : sx_wf ruS3 := ru_wf (by decide +kernel)
    refine sx_exec_ok (w0 := w2) (σ0 := σ1) (ρ0 := sx_upr ρ1 3 a) (φ0 := φ1) (meth := meth) (below := below) (e := e) (cells := 0 + 3) (slots := 0 + 430) (hcx τ2 ruh3 he sxt_X11_rule rfl rfl rfl) (by decide) ⟨by decide, by decide⟩ (ends ruh3 τ2 w2 _ _ _ (0 + 3) (0 + 430) (by decide) (by decide) he hun (by decide +kernel) rfl) _ 22 ruS3 [(0, (2, 0, .ofNat 0))] [(2, 3, .ofNat 0)] ruA3 _ its3 hck3 σ1 (sx_upr ρ1 3 a) φ1 w2 H2 locs2 ls1 hw3 ⟨sx_cons (sx_bA_ok (by decide)) sx_nil, sx_cons (sx_bA_ok (by decide)) sx_nil⟩ ⟨by decide, by decide, by decide⟩ ⟨fun _ _ => rfl, fun _ _ => rfl, fun _ _ => rfl⟩ ?_ hs3 ⟨hP2, hD2, hS2, hT2, sx_un.rfl⟩ hl1
    intro a' ha'
    have ha' := List.mem_singleton.mp ha'
    subst ha'
    refine ⟨by decide, by decide, by decide, (fun h => by cases h), ?_⟩
    intro σ3 ρ3 φ3 ws3 H3 locs3 ls3 k1 k2 k3 k4 k5 k6 _
    obtain ⟨hP3, hD3, hS3, hT3, hU3⟩ := k5
    have hl3 : lv_has ls3 2 [(0, .ref (ρ3 0))] := k6
    have hs55 := sx_ext_sat (S := ruS3) hw3 hs3 ⟨k1, k2, k3⟩ k4
    have tR : τ2 (ρ3 3) = some 8 := hs55.2.1 3 _ rfl
    have tA : τ2 (ρ3 4) = some 7 := hs55.2.1 4 _ rfl
    have bi : 0 ≤ σ3 1 ∧ σ3 1 ≤ 5 := hs55.1 1 _ rfl
    obtain ⟨qk, vs, vk, y1, -, -⟩ := rd_fld hT3 tR rfl rfl (k := 0) (by decide) rfl
    obtain ⟨G, e0, hG, ⟨q0, hq0⟩, hok⟩ := hT3 (ρ3 4) _ tA (by decide)
    cases hG
    obtain ⟨n, d, rfl, n1, n2, ⟨f, rfl⟩, n4⟩ := hok
    have n1 : 6 ≤ n := n1
    have n2 : n ≤ 6 := n2
    have ei : (Int32.ofInt (σ3 1 + 0)).toInt = σ3 1 := by rw [t_of32 (by omega) (by omega)]; omega
    refine W.eq (g2 := F0 m 55 ls3 [.ref (ρ3 3), .int (Int32.ofInt (σ3 1 + 0)), .ref (ρ3 4)]) rfl ?_
    refine va_astq (D := (dC, dI)) (r := (RX8, TX8, 2)) hx hb hK hP3 hD3 hS3 q0 4 qk 8 hq0 rfl y1 rfl (vp_in_iff.mpr ⟨by rw [ei]; omega, by rw [ei]; omega⟩) dX11_rule_55 (fun H4 locs4 hP4 hD4 hS4 => ?_)
    have hT4 : sx_wt sxRT kA τ2 (ws3.set q0 (ρ3 4, .inl (kA 4, n, .inr (.inr (.inr (.inr (va_up f (Int32.ofInt (σ3 1 + 0)).toNatClampNeg (some (ρ3 3))))))))) := by
      refine sx_wt_set hT3 hq0 (fun r G hr hG => ?_)
      rw [tA] at hr
      cases hr
      cases hG
      refine ⟨n, _, rfl, n1, n2, ⟨_, rfl⟩, fun j hj => ?_⟩
      by_cases hji : j = (Int32.ofInt (σ3 1 + 0)).toNatClampNeg
      · refine ⟨_, rd_seg (by omega), ?_⟩
        show sx_fok τ2 (3, 8, 0) (va_rf (va_up f (Int32.ofInt (σ3 1 + 0)).toNatClampNeg (some (ρ3 3)) j))
        rw [show va_up f (Int32.ofInt (σ3 1 + 0)).toNatClampNeg (some (ρ3 3)) j = some (ρ3 3) from if_pos hji]
        exact Or.inr ⟨ρ3 3, rfl, tR⟩
      · obtain ⟨q, w1, w2⟩ := n4 j hj
        refine ⟨q, w1, ?_⟩
        show sx_fok τ2 q (va_rf (va_up f (Int32.ofInt (σ3 1 + 0)).toNatClampNeg (some (ρ3 3)) j))
        rw [show va_up f (Int32.ofInt (σ3 1 + 0)).toNatClampNeg (some (ρ3 3)) j = f j from if_neg hji]
        exact w2
    have hU4 : sx_un [(7, 0, 6)] τ2 ws3 (ws3.set q0 (ρ3 4, .inl (kA 4, n, .inr (.inr (.inr (.inr (va_up f (Int32.ofInt (σ3 1 + 0)).toNatClampNeg (some (ρ3 3))))))))) := sx_un_set hD3 hq0 tA ⟨rfl, rfl, fun j hj hni => absurd ⟨_, List.mem_cons_self, rfl, Nat.zero_le _, Nat.lt_of_lt_of_le hj n2⟩ hni⟩
    have hs4 : sx_sat PF τ2 ruS4 σ3 ρ3 φ3 ws3 := ⟨(fun i e hi => by
      match i, hi with
      | 0, hi => cases hi; exact hs55.1 0 _ rfl
      | 1, hi => cases hi; exact hs55.1 1 _ rfl
      | i + 2, hi => cases i <;> cases hi), (fun i r hi => by
      match i, hi with
      | 0, hi => cases hi; exact hs55.2.1 0 _ rfl
      | i + 1, hi => cases i <;> cases hi), sx_nil, sx_nil, sx_cons (hs55.2.2.2.2.1 _ List.mem_cons_self) sx_nil, sx_nil⟩
    have hs4' : sx_sat PF τ2 ruS4 σ3 ρ3 φ3 _ := rd_keep (τ' := τ2) hD3 hs4 hU4 (fun _ _ h => h) (by decide +kernel)
    have hun4 : sx_un ruM τ ws _ := (hun.trans (rd_unτ he.1 (rd_un (by decide +kernel) hU3))).trans (rd_unτ he.1 (rd_un (by decide +kernel) hU4))
    obtain ⟨its4, hck4⟩ := Option.isSome_iff_exists.mp ruv4
    exact sx_exec_ok (σ0 := σ3) (ρ0 := ρ3) (φ0 := φ3) (meth := meth) (below := below) (e := e) (cells := 0 + 3) (slots := 0 + 430) (hcx τ2 ruh4 he sxt_X11_rule rfl rfl rfl) (by decide) ⟨by decide, by decide⟩ (ends ruh4 τ2 _ _ _ _ (0 + 3) (0 + 430) (by decide) (by decide) he hun4 (by decide +kernel) rfl) _ 56 ruS4 _ _ ruA4 _ its4 hck4 _ _ _ _ H4 locs4 _ (ru_wf (by decide +kernel)) ⟨sx_cons (sx_bA_ok (by decide)) sx_nil, sx_nil⟩ ⟨by decide, by decide, by decide⟩ ⟨fun _ _ => rfl, fun _ _ => rfl, fun _ _ => rfl⟩ (fun a h => by cases h) hs4' ⟨hP4, hD4, hS4, hT4, sx_un.rfl⟩ hl3
