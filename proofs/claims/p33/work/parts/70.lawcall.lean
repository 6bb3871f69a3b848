/-! the law's calls, by contracts -/
def lc_ok (S : sxS) (I : sxI) (ts : List sxT) (rs cs : List Nat) (cq : Nat × Nat × Nat × Nat) : Bool :=
  Nat.beq cq.1 0 && Nat.beq cq.2.1 I.1 && sx_pre S I ts rs cs && Nat.ble (I.2.1.1 + 1) 2048 && Nat.ble (8 + (cq.2.2.2 / 64 + 11) + I.2.1.2) 84000 && I.2.2.2.2.2.all (fun E => sx_bD (I.2.2.1.1.length + E.1.1.length) (I.2.2.1.2.1.length + E.1.2.1.length) (I.2.2.1.2.2.1 + E.1.2.2.1) E.1 && (match E.2 with
    | some a => sx_bA (I.2.2.1.1.length + E.1.1.length) (I.2.2.1.2.1.length + E.1.2.1.length) a
    | none => true)) && sx_rcvb sxRT S (.invokevirtual 0) cq (I.2.2.2.1.map (sb_A (sx_f0 ts) (sx_g0 rs)))
/-- what stands at each of the law's calls -/
def lc_cx (l : Launch) (p : Program) (s : State) (m : MethodId) (args : Array Value) (c : Code) (dC : Nat → ClassId) (dI : Nat → Nat → Nat) (kA : Nat → ClassId) (A : Nat → Prop) (H0 : Heap) : Prop :=
  p.tables.exec = Jvm.exec ∧ c.code = cL_law ∧ c.maxLocals = 4 ∧ s.vm.findClass RL = some m.cls ∧ (∀ w ∈ lwG, w.before args s = true) ∧ va_K (dC, dI) vwCl (tyL kA) s ∧ nwK s ∧ ∀ q, H0.size ≤ q → A q
/-- the heap, as it stands -/
def lc_hp (PF : Nat → List Int → List (Nat → Int) → Prop) (s : State) (dC : Nat → ClassId) (dI : Nat → Nat → Nat) (kA : Nat → ClassId) (A : Nat → Prop) (τ : Nat → Option Nat) (H0 : Heap) (S : sxS) (σ : sxV) (ρ : sxR) (φ : sxF) (ws : va_W) (H : Heap) (locs : List Loc) : Prop :=
  sx_sat PF τ S σ ρ φ ws ∧ va_P (dC, dI) vwCl ws H ∧ va_D A ws ∧ va_S A H0 H locs ∧ sx_wt sxRT kA τ ws ∧ ∀ ws H locs, va_D A ws → va_S A H0 H locs → ∀ U : State, U.heap = H → s.WarmedH U.vm → sxTK τ ws U
theorem law_call {PF : Nat → List Int → List (Nat → Int) → Prop} {τ : Nat → Option Nat} {S : sxS} {σ : sxV} {ρ : sxR} {φ : sxF} {ws : va_W} {p : Program} {l : Launch} {e : Env} {s : State} {m : MethodId} {args : Array Value} {below : List Frame} {meth : Method} {c : Code} {H H0 : Heap} {locs : List Loc} {cells slots : Nat} {Q : State → Prop} {pc : Nat} {ls : Array Slot} {dC : Nat → ClassId} {dI : Nat → Nat → Nat} {kA : Nat → ClassId} {A : Nat → Prop} {rest st0 : List Value}
    (hc : lc_cx l p s m args c dC dI kA A H0) (hls : ls.size = 4) (hp : lc_hp PF s dC dI kA A τ H0 S σ ρ φ ws H locs) (hcs : cells ≤ 600000 ∧ slots ≤ 7302249) {I : sxI} (hM : sx_met PF sxRT sxMy sxMc sxML sxMr sxTK l I) {ix : Nat} {cq : Nat × Nat × Nat × Nat} (hfx : sx_find sxcL ix = some cq) (hw : sx_wf S) {ts : List sxT} {rs cs : List Nat} (hck : lc_ok S I ts rs cs cq = true) (hdg : decode cL_law pc = .ok (.invokevirtual ix, 3)) (hrest : (rest.map fun v => v.category).sum ≤ 8) (hst : st0 = ((I.2.2.2.1.map (sb_A (sx_f0 ts) (sx_g0 rs))).map (sx_val σ ρ)).reverse ++ rest)
    (k : ∀ E ∈ I.2.2.2.2.2, ∀ σ' ρ' φ' w1 H1 locs1, sx_wf (sx_post S I ts rs cs E.1) → sx_ag S σ σ' ρ ρ' φ φ' → lc_hp PF s dC dI kA A τ H0 (sx_post S I ts rs cs E.1) σ' ρ' φ' w1 H1 locs1 → W p l e room_1 s m args below meth c H1 locs1 cells slots Q (F0 m (pc + 3) ls (((sx_postr S I ts rs E.2).toList.map (sx_val σ' ρ')) ++ rest))) : W p l e room_1 s m args below meth c H locs cells slots Q (F0 m pc ls st0) := by
  obtain ⟨hx, hb, hml, hown, hts, hK, hN, hA⟩ := hc
  obtain ⟨hs, hP, hD, hS, hT, hTK⟩ := hp
  obtain ⟨kd, kn, ci, nm⟩ := cq
  unfold lc_ok at hck
  simp only [Bool.and_eq_true] at hck
  obtain ⟨⟨⟨⟨⟨⟨c0, c1⟩, c2⟩, c5⟩, c6⟩, c8⟩, c9⟩ := hck
  have c0 : kd = 0 := Nat.eq_of_beq_eq_true c0
  have c1 : kn = I.1 := Nat.eq_of_beq_eq_true c1
  subst c0
  subst c1
  have c5 := Nat.le_of_ble_eq_true c5
  have c6 := Nat.le_of_ble_eq_true c6
  have hpre := sx_pre_ok hw hs c2
  have c2' := c2
  unfold sx_pre at c2'
  simp only [Bool.and_eq_true] at c2'
  obtain ⟨⟨⟨⟨⟨⟨-, p1⟩, p2⟩, p3⟩, p4⟩, p5⟩, p6⟩ := c2'
  have p1 := Nat.eq_of_beq_eq_true p1
  have p2 := Nat.eq_of_beq_eq_true p2
  have p3 := Nat.eq_of_beq_eq_true p3
  have eargs := sx_map_sb (σ := σ) (ρ := ρ) (sx_f0 ts) (sx_g0 rs) I.2.2.2.1
  have hlk := (sxcL_ok _ (sx_find_mem hfx)).1 (by show (0 : Nat) < 4; decide)
  dsimp only at hlk
  obtain ⟨hml2, hcl⟩ := hlk
  have c9 : (match I.2.2.2.1.map (sb_A (sx_f0 ts) (sx_g0 rs)) with
    | (2, r, _) :: l => (match sx_reg sxRT S r with
      | some G => Nat.beq G.1 0 && Nat.beq G.2.1 ci && Nat.beq l.length (nm % 64)
      | none => false)
    | _ => false) = true := c9
  split at c9
  · rename_i r z as2 has
    split at c9
    · rename_i G hG
      simp only [Bool.and_eq_true] at c9
      obtain ⟨⟨d1, d2⟩, d3⟩ := c9
      have d1 := Nat.eq_of_beq_eq_true d1
      have d2 := Nat.eq_of_beq_eq_true d2
      have d3 := Nat.eq_of_beq_eq_true d3
      obtain ⟨en, b1, b2, b3⟩ := sx_reg_ok hs hT hG
      unfold sx_eok at b2
      rw [d1] at b2
      obtain ⟨fs, rfl, -⟩ := b2
      rw [d2] at b1
      obtain ⟨q0, hq0⟩ := b1
      have hrcv : sx_rcv sxRT τ s H 0 ci (sxMy I.1).cls (ρ r) := by
        obtain ⟨-, -, vq, hv1, hv2⟩ := hcl
        have := va_recv hK hP hv1 hq0
        rw [hv2] at this
        exact this
      refine sx_call_ok (kd := 0) (ci := ci) (n := nm % 64) (rest := rest) (R := room_1) hx hb hml hls hown hts hK hN sxTK_ok hTK hP hD hS hA hT hM hcl ⟨c5, by rw [hml2]; exact c6⟩ hpre hcs (Or.inr ⟨by omega, rfl, ρ r, as2.map (sx_val σ ρ), ?_, ?_, hrcv⟩) hdg hrest (by rw [eargs]; exact hst) ?_
      · rw [eargs, has]
        rfl
      · rw [List.length_map]
        exact d3
      · intro E hE σ1 ρ1 φ1 w1 H1 locs1 g1 g2 g3 g4 g5 g6 g7
        have hbE := List.all_eq_true.mp c8 E hE
        rw [Bool.and_eq_true] at hbE
        obtain ⟨a1, a2, a3, a4⟩ := sx_app_ok (K := I.2.2.2.2.1) hw hD hs p1 p2 p3 p4 p5 p6 hbE.1 g1.1 g1.2.1 g1.2.2 g2 g7
        have a4 := a4 E.2 (fun a ha => by have := hbE.2; rw [ha] at this; exact this)
        have kk := k E hE _ _ _ w1 H1 locs1 a1.1 a2 ⟨a3, g3, g4, g5, g6, hTK⟩
        have er : ((sx_postr S I ts rs E.2).toList).map (sx_val (sx_σ2 I.2.2.1.1.length S.1.length σ σ1) (sx_ρ2 I.2.2.1.2.1.length S.2.1.length ρ ρ1)) = (sx_ret σ1 ρ1 E.2).toList := by
          rw [a4.1]
          unfold sx_ret sx_postr
          cases E.2 <;> rfl
        rw [er] at kk
        exact kk
    · cases c9
  · cases c9
/-- a pattern again, out of what stands -/
def lc_back (S P : sxS) (ts : List sxT) (rs cs : List Nat) : Bool := sx_pre S (0, (0, 0), P, [], [], []) ts rs cs
theorem lc_back_ok {PF : Nat → List Int → List (Nat → Int) → Prop} {τ : Nat → Option Nat} {S P : sxS} {σ : sxV} {ρ : sxR} {φ : sxF} {ws : va_W} {ts : List sxT} {rs cs : List Nat} (hw : sx_wf S) (hs : sx_sat PF τ S σ ρ φ ws) (h : lc_back S P ts rs cs = true) : sx_sat PF τ P (sb_σ (sx_f0 ts) σ) (fun i => ρ (sx_g0 rs i)) (fun i => φ (sx_g0 cs i)) ws := sx_pre_ok (I := (0, (0, 0), P, [], [], [])) hw hs h
theorem lc_dead {PF : Nat → List Int → List (Nat → Int) → Prop} {τ : Nat → Option Nat} {S : sxS} {σ : sxV} {ρ : sxR} {φ : sxF} {ws : va_W} (hs : sx_sat PF τ S σ ρ φ ws) (h : sx_prove S.1 S.2.2.2.1 ([], -1) = true) : False := by
  have := sx_prove_ok hs.1 hs.2.2.1 h
  have e1 : sx_lev σ ([], -1) = -1 := rfl
  omega
/-- an argument's name -/
theorem lc_arg {PF : Nat → List Int → List (Nat → Int) → Prop} {τ : Nat → Option Nat} {S : sxS} {σ : sxV} {ρ : sxR} {φ : sxF} {ws : va_W} (hw : sx_wf S) (hs : sx_sat PF τ S σ ρ φ ws) (e : sxE) (x : Int) (h1 : e.1 ≤ x) (h2 : x ≤ e.2) : sx_wf (sx_new S e [] []) ∧ sx_sat PF τ (sx_new S e [] []) (sx_up σ S.1.length x) ρ φ ws ∧ sx_ag S σ (sx_up σ S.1.length x) ρ ρ φ φ := by
  have ag : sx_ag S σ (sx_up σ S.1.length x) ρ ρ φ φ := ⟨fun i hi => sx_up_lt i hi, fun _ _ => rfl, fun _ _ => rfl⟩
  have hs' := sx_sat_ext PF hw ag hs
  exact ⟨sx_new_wf hw (fun f h => by cases h) (fun f h => by cases h), ⟨sx_I_push hs.1 h1 h2, hs'.2⟩, ag⟩
