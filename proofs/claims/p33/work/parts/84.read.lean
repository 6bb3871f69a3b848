/-! RuleReader.read: up to its new by the checker, then by hand -/
def sxI296 : sxI := (230, (51, 1214), ([(.ofNat 0, .ofNat 0)], [4, 1], 0, [], [], [], []), [(2, 0, .ofNat 0), (2, 1, .ofNat 0)], [(1, 2, 6), (4, 2, 5), (5, 0, 400), (6, 0, 24)], [(([], [], 0, [], [], [], []), some (3, 0, .ofNat 0))])
def sxhI296 : sxH := (sxk_X9_read, sxgX9, sxpX9, sxcX9, (sxkiX9, sxklX9, sxksX9), (3, sxI296.2.2.2.2.1, sxI296.2.2.2.2.2, 3), (1, 2, 0), (51, 1214))
def sxjI296 : List sxJ := [((19, 10, 0), ([(0, .ofNat 0)], [1], []), (sxE0, [], [], ([], .ofNat 0))),
  ((24, 0, 0), ([(0, .ofNat 0), (1, .ofNat 0)], [], []), (([(.ofNat 0, .ofNat 12), (.ofNat 0, .ofNat 400)], [], 0, [], [], [((0, 1), (0, .ofNat 5), (0, 3, .ofNat 0)), ((0, 0), (0, .ofNat 2), (2, 1, .ofNat 0))], []), [(2, (0, 2, .ofNat 0)), (0, (2, 0, .ofNat 0)), (1, (2, 1, .ofNat 0))], [], ([(2, .negSucc 0)], .ofNat 12))),
  ((32, 10, 8), ([(0, .ofNat 0), (2, .ofNat 0), (3, .ofNat 0)], [0, 1], []), (sxE0, [], [], ([], .ofNat 0))),
  ((39, 11, 0), ([], [], []), (sxE0, [], [], ([], .ofNat 0))),
  ((35, 7, 0), ([], [], []), (sxE0, [], [], ([(2, .negSucc 0)], .ofNat 11))),
  ((111, 10, 2), ([(0, .ofNat 0), (4, .ofNat 0)], [1], []), (sxE0, [], [], ([], .ofNat 0))),
  ((24, 2, 0), ([(2, .ofNat 1), (6, .ofNat 0)], [], []), (sxE0, [], [], ([], .ofNat 0))),
  ((101, 10, 3), ([(0, .ofNat 0), (0, .ofNat 0)], [1], []), (sxE0, [], [], ([], .ofNat 0))),
  ((106, 11, 0), ([], [], []), (sxE0, [], [], ([], .ofNat 0))),
  ((53, 2, 1), ([(2, .ofNat 0)], [], []), (sxE0, [], [], ([], .ofNat 0)))]
def rdA : List sxB := [((53, false), (1, 2, 0), (([(.ofNat 0, .ofNat 12)], [], 0, [], [], [], []), [(0, (2, 0, .ofNat 0)), (1, (2, 1, .ofNat 0)), (2, (0, 1, .ofNat 0))], [], ([], 0)))]
theorem rdv : (sx_exec sxRT [sxI65, sxI290, sxI64, sxI78, sxI291, sxI292, sxI293, sxI294, sxI295] [] sxhI296 165 0 sxI296.2.2.1 (sx_argl 0 sxI296.2.2.2.1) [] rdA sxjI296).isSome = true := by decide +kernel
def rdQ (dC : Nat → ClassId) (dI : Nat → Nat → Nat) (kA : Nat → ClassId) (τ : Nat → Option Nat) (M : sxK) (ws : va_W) (A : Nat → Prop) : Array Value → State → Outcome → State → Prop := fun _ st o t => (∃ (v : Value) (τ' : Nat → Option Nat) (w1 : va_W), o = .returned (some v) ∧ (v = .null ∨ ∃ a, v = .ref a ∧ τ' a = some 8) ∧ rd_ext τ τ' ∧ va_P (dC, dI) vwCl w1 t.heap ∧ va_D A w1 ∧ sx_wt sxRT kA τ' w1 ∧ sx_un M τ ws w1) ∧ va_F A st t
theorem rd_seg {u j : Nat} {q : sxQ} {l : List (Nat × sxQ)} (h : j < u) : sx_seg ((u, q) :: l) j = some q := if_pos (Nat.ble_eq_true_of_le h)
theorem rd_at {ws : va_W} {a : Nat} {x : va_E} {x1 x2 x3 y : Nat × va_E} (h : sx_at ws a x) : sx_at ((ws ++ [x1] ++ [x2] ++ [x3]).set ws.length y) a x := by
  obtain ⟨k, hk⟩ := h
  have hlt := (List.getElem?_eq_some_iff.mp hk).1
  refine ⟨k, ?_⟩
  rw [List.getElem?_set_ne (by omega), List.append_assoc, List.append_assoc, List.getElem?_append_left hlt]
  exact hk
set_option maxHeartbeats 4000000 in
theorem met_read {PF : Nat → List Int → List (Nat → Int) → Prop} (l : Launch) (dC : Nat → ClassId) (dI : Nat → Nat → Nat) (kA : Nat → ClassId) (τ : Nat → Option Nat) (ws : va_W) (sz : Nat) (σ : sxV) (ρ : sxR) (φ : sxF) (hs : sx_sat PF τ sxI296.2.2.1 σ ρ φ ws) (hT : sx_wt sxRT kA τ ws) : Met l yX9_read (wsU yX9_read cX9_read 3 (some (.object "LinenName$Rule"))) { frames := 51, cells := 3, slots := 430, locals := 1214 } (va_Pc [.ref (ρ 0), .ref (ρ 1)] (fun U => PW dC dI kA ws sz U ∧ sxTK τ ws U)) (rdQ dC dI kA τ sxI296.2.2.2.2.1 ws (va_A ws sz)) 3 430 (va_A ws sz) := by
  refine Met.ofW (cc := cX9_read) (maxL := 3) (ret := some (.object "LinenName$Rule")) (by decide) rfl ?_
  intro p e s m args below meth c s₁ B hml hv
  obtain ⟨rfl, ⟨hsz, hP, hK, hN, hD0⟩, htk⟩ := hv
  subst hsz
  have hl := lv_entry ([.ref (ρ 0), .ref (ρ 1)]) (n := 3) (Nat.le_of_ble_eq_true rfl)
  rw [lg_entry_eq]
  have hx := B.exec
  have hb := B.bytes
  have hts : ∀ w ∈ lwG, w.before ([.ref (ρ 0), .ref (ρ 1)] : List Value).toArray s = true := fun w h => atoms_spec (ws := wsU yX9_read cX9_read 3 (some (.object "LinenName$Rule"))) B.pre w (List.mem_cons_of_mem _ h)
  have hown : s.vm.findClass RX9 = some m.cls := findClass_of_methodNamed B.named
  have hA : ∀ q, s.heap.size ≤ q → va_A ws s.heap.size q := fun q h => Or.inr h
  obtain ⟨q1, q2⟩ := sxTK2 sxksX9_ok τ ws s htk
  have hcx : sx_cx PF sxRT sxTK sxMy sxMc sxML sxMr sxFW _ [] sxhI296 l p { frames := 51, cells := 3, slots := 430, locals := 1214 } s m ([.ref (ρ 0), .ref (ρ 1)] : List Value).toArray c cX9_read RX9 dC dI kA (va_A ws s.heap.size) τ s.heap := ⟨⟨hx, hb, hml, hown, hts, hK, hN⟩, ⟨sxTK_ok, fun ws' H locs d1 d2 U u1 u2 => sxTK_ok.2 τ ws s htk ws' H locs d1 d2 U u1 u2, hA⟩, sxt_X9_read, sxFW_ok, (sx_cons (sxmI65) (sx_cons (sxmI290) (sx_cons (sxmI64) (sx_cons (sxmI78) (sx_cons (sxmI291) (sx_cons (sxmI292) (sx_cons (sxmI293) (sx_cons (sxmI294) (sx_cons (sxmI295) sx_nil))))))))), sx_nil, ⟨rfl, rfl⟩, q2, q1⟩
  have hhp : sx_hp sxRT sxhI296.2.2.2.2.2.1.2.1 dC dI kA (va_A ws s.heap.size) τ s.heap ws ws s.heap [] := ⟨hP, hD0.self, va_S.rf, hT, sx_un.rfl⟩
  obtain ⟨its2, hck⟩ := Option.isSome_iff_exists.mp rdv
  have hret := B.returns
  have hwf := sx_Iok_wf (I := sxI296) (by decide +kernel)
  refine sx_exec_ok (w0 := ws) (σ0 := σ) (ρ0 := ρ) (φ0 := φ) (Q := MQ below (rdQ dC dI kA τ sxI296.2.2.2.2.1 ws (va_A ws s.heap.size)) ([.ref (ρ 0), .ref (ρ 1)] : List Value).toArray s 3 430 (va_A ws s.heap.size)) (meth := meth) (below := below) (e := e) (cells := 0) (slots := 0) hcx (by decide) ⟨by decide, by decide⟩ ?_ _ 0 sxI296.2.2.1 (sx_argl 0 sxI296.2.2.2.1) [] rdA _ its2 hck σ ρ φ ws s.heap [] _ hwf.1 ⟨sx_argl_wf hwf.2.1, fun a ha => by cases ha⟩ ⟨Nat.le_refl _, Nat.le_refl _, Nat.le_refl _⟩ ⟨fun _ _ => rfl, fun _ _ => rfl, fun _ _ => rfl⟩ ?_ hs hhp hl
  · intro E hE i pc ls σ' ρ' φ' ws' H' locs' hdg a1 a2 a3 hd hp' hrk
    obtain ⟨p1, p2, p3, p4, p5⟩ := hp'
    have hE2 : E.2 = some (3, 0, 0) := by
      have hE : E ∈ sxI296.2.2.2.2.2 := hE
      have := List.all_eq_true.mp (show sxI296.2.2.2.2.2.all (fun E => decide (E.2 = some (3, 0, 0))) = true by decide +kernel) E hE
      exact of_decide_eq_true this
    rw [hE2] at hrk ⊢
    have hr : sx_ret σ' ρ' (some (3, 0, 0)) = some .null := rfl
    rw [hr] at hrk ⊢
    rcases hrk with ⟨rfl, r1, r2⟩ | ⟨rfl, x, r1, r2⟩ | ⟨rfl, r1, x, r2⟩ | ⟨rfl, r1, w, r2, r3⟩
    · cases r2
    · cases r1
    · cases r2
    · refine W.widen (k := 3) (n := 430) (by decide) (by decide) ?_
      exact W.aret hx hb hret (Or.inl ⟨_, rfl⟩) (Or.inl rfl) (fun t ht _ => ⟨⟨.null, τ, ws', rfl, Or.inl rfl, ⟨fun _ _ h => h, fun _ _ h => Or.inl h⟩, by rw [ht]; exact p1, p2, p4, p5⟩, p3.F ht⟩) p3.2.2 hdg B.notSynchronized
  · intro a ha
    have ha := List.mem_singleton.mp ha
    subst ha
    refine ⟨Nat.le_refl _, Nat.le_refl _, Nat.le_refl _, (fun h => by cases h), ?_⟩
    intro σ' ρ' φ' ws' H' locs' ls' g1 g2 g3 g4 g5 g6 _
    obtain ⟨hP, hD, hS, hT', hU⟩ := g5
    have hl : lv_has ls' 3 [(0, .ref (ρ' 0)), (1, .ref (ρ' 1)), (2, .int (Int32.ofInt (σ' 1 + 0)))] := g6
    have hc12 : 0 ≤ σ' 1 ∧ σ' 1 ≤ 12 := g4.1 0 _ rfl
    have ht0 : τ (ρ' 0) = some 4 := by
      rw [g2 0 (by decide)]
      exact hs.2.1 0 _ rfl
    obtain ⟨qc, fsc, vc, c1, c2, c3⟩ := rd_fld hT' ht0 rfl rfl (k := 0) (by decide) rfl
    obtain ⟨ac, rfl, c4⟩ := c3
    obtain ⟨qs, fss, vs, s1, s2, s3⟩ := rd_fld hT' ht0 rfl rfl (k := 3) (by decide) rfl
    obtain ⟨xs, rfl, s4, s5⟩ := s3
    obtain ⟨qe, fse, ve, e1, e2, e3⟩ := rd_fld hT' ht0 rfl rfl (k := 1) (by decide) rfl
    obtain ⟨ae, rfl, e4⟩ := e3
    obtain ⟨q0c, nc, fc, k1, k2, k3, k4⟩ := rd_arr hT' c4 rfl rfl rfl
    obtain ⟨q0e, ne, fe, j1, j2, j3, j4⟩ := rd_arr hT' e4 rfl rfl rfl
    have k3 : nc ≤ 400 := k3
    have j3 : ne ≤ 24 := j3
    have s4 : 0 ≤ xs.toInt := s4
    have s5 : xs.toInt ≤ 400 := s5
    obtain ⟨N, hN1, hN2⟩ : ∃ N : Nat, N ≤ 400 ∧ xs = nI N := ⟨xs.toInt.toNat, by omega, Int32.toInt_inj.mp (by rw [nI_toInt (by omega)]; omega)⟩
    subst hN2
    have lk : ∀ (w : va_W) {k : Nat} {x : Nat × va_E}, ws'[k]? = some x → (ws' ++ w)[k]? = some x := fun w k x h => by
      rw [List.getElem?_append_left (List.getElem?_eq_some_iff.mp h).1]
      exact h
    refine va_new (D := (dC, dI)) (ci := 8) (fs := [.null, .null]) (C := RX8) (T := TX8) (N := 2) hx hb hts uX8 tyX8 tyX8_ok hown (hts _ rk_nc) (hts _ rk_ni) (hts _ rk_n8) hK hP hD hS hA rfl vX8 (by show 0 + 1 ≤ 3; decide) (by show 0 + 2 ≤ 430; decide) dX9_read_53 (fun a1 H2 hP hD hS => ?_)
    refine lv_dup hx hb dX9_read_56 rfl ?_
    refine lv_aload_n hx hb dX9_read_57 rfl (lv_at hl 0 rfl) ?_
    refine va_get (D := (dC, dI)) (ci := 9) (v := .ref ac) (C := RX9) (T := TX9) (N := 5) hx hb hts uX9 hown hK hP qc (lk _ c1) rfl 0 (by decide) (hts _ rk_g9c) (fun _ h9 => h9) c2 dX9_read_58 ?_
    refine lv_aload_n hx hb dX9_read_61 rfl (lv_at hl 0 rfl) ?_
    refine va_get (D := (dC, dI)) (ci := 9) (v := .int (nI N)) (C := RX9) (T := TX9) (N := 5) hx hb hts uX9 hown hK hP qs (lk _ s1) rfl 3 (by decide) (hts _ rk_g9s) (fun _ h9 => h9) s2 dX9_read_62 ?_
    have hbl : ∀ (w : va_W) (z : Nat) (av : List Value), FrameBlind (va_Pc av (fun U => PW dC dI kA w z U ∧ va_Nw (.castable "[I" "java/lang/Cloneable") U)) := by
      intro w z av a U g mk q
      obtain ⟨q0, q1, q2⟩ := q
      exact ⟨q0, (pw_bl (av := av) a U g mk ⟨q0, q1⟩).2, q2.same rfl rfl⟩
    refine cp_after (N := N) (n := nc) (f := fc) hD hS hA (va_runS (As := [.ref ac, .int (nI N)]) (rest := [.ref a1, .ref a1]) (Ts := lwG) ⟨hx, hb, hml, hown, hts⟩ (met_cpy l dC dI kA _ H2.size (lk _ k1) k3 hN1 (Nat.le_refl 400)) (va_cwS 2 hts (gS2 rk_cpl rk_cps rk_cpi rk_cpc) rfl rfl rfl ⟨by decide, by decide, by decide +kernel⟩ ⟨by decide, by decide⟩) ⟨hbl _ _ _, fun U hU hW => ⟨rfl, ⟨by rw [hU], by rw [hU]; exact hP, va_K.moved hW.alike hK, nwK.warm hW hN, hD.weaken (fun _ _ _ _ => trivial)⟩, va_Nw.warmC hW htk.2.2⟩⟩ rfl rfl hl.1 rfl (lv_room (Nat.le_of_ble_eq_true rfl)) dX9_read_65 ⟨by decide, by decide⟩) (fun a2 g H3 locs3 hg hP hD hS => ?_)
    refine lv_aload_n hx hb dX9_read_68 rfl (lv_at hl 0 rfl) ?_
    refine va_get (D := (dC, dI)) (ci := 9) (v := .ref ae) (C := RX9) (T := TX9) (N := 5) hx hb hts uX9 hown hK hP qe (by rw [List.append_assoc]; exact lk _ e1) rfl 1 (by decide) (hts _ rk_g9e) (fun _ h9 => h9) e2 dX9_read_69 ?_
    refine lv_iconst (v := 2) hx hb dX9_read_72 (by decide) ?_
    refine lv_iload_n hx hb dX9_read_73 rfl (lv_at hl 2 rfl) ?_
    refine lv_imul hx hb dX9_read_74 ?_
    refine lv_iconst (v := 2) hx hb dX9_read_75 (by decide) ?_
    refine lv_iadd hx hb dX9_read_76 ?_
    obtain ⟨N2, hN3, hN4⟩ : ∃ N2 : Nat, N2 ≤ 26 ∧ 2 * Int32.ofInt (σ' 1 + 0) + 2 = nI N2 := by
      refine ⟨2 * (σ' 1).toNat + 2, by omega, ?_⟩
      have e1 : Int32.ofInt (σ' 1 + 0) = nI (σ' 1).toNat := Int32.toInt_inj.mp (by rw [nI_toInt (by omega), t_of32 (by omega) (by omega)]; omega)
      rw [e1]
      show nI 2 * nI (σ' 1).toNat + nI 2 = _
      rw [show nI 2 * nI (σ' 1).toNat = nI (2 * (σ' 1).toNat) from (Int32.ofNat_mul _ _).symm, nI_add]
    refine lv_toc hN4 ?_
    refine cp_after (N := N2) (n := ne) (f := fe) hD hS hA (va_runS (As := [.ref ae, .int (nI N2)]) (rest := [.ref a2, .ref a1, .ref a1]) (Ts := lwG) ⟨hx, hb, hml, hown, hts⟩ (met_cpy l dC dI kA _ H3.size (M := 26) (by rw [List.append_assoc]; exact lk _ j1) (by omega) hN3 (by decide)) (va_cwS 2 hts (gS2 rk_cpl rk_cps rk_cpi rk_cpc) rfl rfl rfl ⟨by decide, by decide, by decide +kernel⟩ ⟨by decide, by decide⟩) ⟨hbl _ _ _, fun U hU hW => ⟨rfl, ⟨by rw [hU], by rw [hU]; exact hP, va_K.moved hW.alike hK, nwK.warm hW hN, hD.weaken (fun _ _ _ _ => trivial)⟩, va_Nw.warmC hW htk.2.2⟩⟩ rfl rfl hl.1 rfl (lv_room (Nat.le_of_ble_eq_true rfl)) dX9_read_77 ⟨by decide, by decide⟩) (fun a3 g' H4 locs4 hg' hP hD hS => ?_)
    have hq1 : (ws' ++ [(a1, .inr (8, [.null, .null]))] ++ [(a2, .inl (kA 0, N, .inl g))] ++ [(a3, .inl (kA 0, N2, .inl g'))] : va_W)[ws'.length]? = some (a1, .inr (8, [.null, .null])) := by
      simp
    refine qu_after hD hS hA (va_runI (As := [.ref a2, .ref a3]) (rest := [.ref a1]) ⟨hx, hb, hml, hown, hts⟩ (met_r8 l dC dI kA _ H4.size hq1) (cwI 2 hts (gI rk_x8c) rfl rfl rfl (hts _ rk_n8) (hts _ rk_i8) (hts _ rk_x8i) rfl (by decide +kernel) ⟨by decide, by decide⟩) (pw_s hP hD hK hN) rfl rfl hl.1 rfl (lv_room (Nat.le_of_ble_eq_true rfl)) dX9_read_80 ⟨by decide, by decide⟩) (fun w1 H5 locs5 hw hP hD hS => ?_)
    have dne : ∀ {i j : Nat} {x y : Nat × va_E}, w1[i]? = some x → w1[j]? = some y → i ≠ j → x.1 ≠ y.1 := fun {i j x y} h1 h2 hij h3 => hij (hD.1 i j x y h1 h2 h3)
    have r1 : w1[ws'.length]? = some (a1, .inr (8, [.ref a2, .ref a3])) := by
      rw [hw]
      exact List.getElem?_set_self (by simp)
    have r2 : w1[ws'.length + 1]? = some (a2, .inl (kA 0, N, .inl g)) := by
      rw [hw, List.getElem?_set_ne (by omega)]
      simp
    have r3 : w1[ws'.length + 2]? = some (a3, .inl (kA 0, N2, .inl g')) := by
      rw [hw, List.getElem?_set_ne (by omega)]
      simp
    have n12 : a1 ≠ a2 := dne r1 r2 (by omega)
    have n13 : a1 ≠ a3 := dne r1 r3 (by omega)
    have n23 : a2 ≠ a3 := dne r2 r3 (by omega)
    -- cells that were typed are others
    have old : ∀ a r, τ a = some r → ∀ (k : Nat) (x : Nat × va_E), ws'.length ≤ k → w1[k]? = some x → a ≠ x.1 := by
      intro a r har k x hk hx1 hax
      rcases Nat.lt_or_ge r sxRT.length with hlt | hge
      · obtain ⟨G, e0, -, ⟨k0, hk0⟩, -⟩ := hT' a r har hlt
        have hlt0 := (List.getElem?_eq_some_iff.mp hk0).1
        have h0 : w1[k0]? = some (a, e0) := by
          rw [hw, List.getElem?_set_ne (by omega), List.append_assoc, List.append_assoc]
          exact lk _ hk0
        exact dne h0 hx1 (by omega) hax
      · obtain ⟨v, n, -, hst⟩ := htk.1 a r har hge
        obtain ⟨cell, -, -, -, hno⟩ := hst.1
        exact hno (hax ▸ hD.2 k x hx1)
    obtain ⟨τf, hτ⟩ : ∃ τf : Nat → Option Nat, ∀ a, τf a = if a = a1 then some 8 else if a = a2 then some 9 else if a = a3 then some 10 else τ a := ⟨_, fun _ => rfl⟩
    have hmono : ∀ a r, τ a = some r → τf a = some r := fun a r h => by
      rw [hτ, if_neg (old a r h _ _ (Nat.le_refl _) r1), if_neg (old a r h _ _ (by omega) r2), if_neg (old a r h _ _ (by omega) r3)]
      exact h
    have t1 : τf a1 = some 8 := by rw [hτ, if_pos rfl]
    have t2 : τf a2 = some 9 := by rw [hτ, if_neg n12.symm, if_pos rfl]
    have t3 : τf a3 = some 10 := by rw [hτ, if_neg n13.symm, if_neg n23.symm, if_pos rfl]
    have hinv : ∀ a r, τf a = some r → (a = a1 ∧ r = 8) ∨ (a = a2 ∧ r = 9) ∨ (a = a3 ∧ r = 10) ∨ τ a = some r := fun a r h => by
      rw [hτ] at h
      by_cases h1 : a = a1
      · rw [if_pos h1] at h
        exact Or.inl ⟨h1, (Option.some.inj h).symm⟩
      · rw [if_neg h1] at h
        by_cases h2 : a = a2
        · rw [if_pos h2] at h
          exact Or.inr (Or.inl ⟨h2, (Option.some.inj h).symm⟩)
        · rw [if_neg h2] at h
          by_cases h3 : a = a3
          · rw [if_pos h3] at h
            exact Or.inr (Or.inr (Or.inl ⟨h3, (Option.some.inj h).symm⟩))
          · rw [if_neg h3] at h
            exact Or.inr (Or.inr (Or.inr h))
    refine W.widen (k := 3) (n := 430) (by decide) (by decide) ?_
    refine W.aret hx hb hret (Or.inl ⟨_, rfl⟩) (Or.inr ⟨_, rfl⟩) (fun t ht _ => ⟨⟨.ref a1, τf, _, rfl, Or.inr ⟨a1, rfl, t1⟩, ⟨hmono, fun a r h => ?_⟩, by rw [ht]; exact hP, hD, ?_, ?_⟩, hS.F ht⟩) hS.2.2 dX9_read_83 B.notSynchronized
    · rcases hinv a r h with ⟨-, rfl⟩ | ⟨-, rfl⟩ | ⟨-, rfl⟩ | h
      · exact Or.inr (by decide)
      · exact Or.inr (by decide)
      · exact Or.inr (by decide)
      · exact Or.inl h
    · intro a r har hr0
      rcases hinv a r har with ⟨rfl, rfl⟩ | ⟨rfl, rfl⟩ | ⟨rfl, rfl⟩ | h
      · refine ⟨_, _, rfl, ⟨_, r1⟩, [.ref a2, .ref a3], rfl, rfl, fun k v hv => ?_⟩
        match k, hv with
        | 0, hv => cases hv; exact ⟨_, rfl, a2, rfl, t2⟩
        | 1, hv => cases hv; exact ⟨_, rfl, a3, rfl, t3⟩
        | k + 2, hv => cases hv
      · exact ⟨_, _, rfl, ⟨_, r2⟩, N, _, rfl, Nat.zero_le _, hN1, ⟨g, rfl⟩, fun j hj => ⟨_, rd_seg (by omega), g j, rfl, (t_rng32 (g j)).1, (t_rng32 (g j)).2⟩⟩
      · refine ⟨_, _, rfl, ⟨_, r3⟩, N2, _, rfl, Nat.zero_le _, hN3, ⟨g', rfl⟩, fun j hj => ⟨_, rd_seg (by omega), g' j, rfl, ?_⟩⟩
        rcases hg' j hj with ⟨h1, h2⟩ | h2
        · obtain ⟨q, z1, z2⟩ := j4 j h1
          have z3 : q = (0, 0, 400) := Option.some.inj (z1.symm.trans (rd_seg (by omega)))
          rw [z3] at z2
          obtain ⟨x, z4, z5⟩ := z2
          cases z4
          rw [h2]
          exact z5
        · rw [h2]
          decide
      · obtain ⟨G, e0, z1, z2, z3⟩ := hT' a r h hr0
        exact ⟨G, e0, z1, by rw [hw]; exact rd_at z2, rd_eok hmono z3⟩
    · intro a r har e0 he0
      obtain ⟨e1, h1, h2⟩ := hU a r har e0 he0
      exact ⟨e1, by rw [hw]; exact rd_at h1, h2⟩
