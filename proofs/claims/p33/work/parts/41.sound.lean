/-! a checker of walks: calls and ends are right -/
def sx_rk (rc : Nat) (i : Instr) (v : Option Value) : Prop := (i = .return_ ∧ rc = 4 ∧ v = none) ∨ (i = .ireturn ∧ ∃ x : Int, v = some (.int (Int32.ofInt x)) ∧ (rc = 0 ∨ rc = 1 ∧ 0 ≤ x ∧ x ≤ 1)) ∨ (i = .lreturn ∧ rc = 2 ∧ ∃ x, v = some (.long x)) ∨ (i = .areturn ∧ rc = 3 ∧ ∃ w, v = some w ∧ (w = .null ∨ ∃ a, w = .ref a))
section SXS
variable {PF : Nat → List Int → List (Nat → Int) → Prop} {RT : List sxG} {TK : (Nat → Option Nat) → va_W → State → Prop} {My : Nat → MethodName} {Mc : Nat → ByteArray} {ML : Nat → Nat} {Mr : Nat → Option FieldType} {FW : Nat → Prop} {CT : List sxI} {LT : List (sxS × sxS)} {h : sxH}
variable {τ : Nat → Option Nat} {S S' : sxS} {σ σ' σ0 : sxV} {ρ ρ' ρ0 : sxR} {φ φ' φ0 : sxF} {ws w0 : va_W}
variable {p : Program} {l : Launch} {e : Env} {R : Room} {s : State} {m : MethodId} {args : Array Value} {below : List Frame} {meth : Method} {c : Code} {H H0 : Heap} {locs : List Loc} {cells slots : Nat} {Q : State → Prop}
variable {cc : ByteArray} {pc : Nat} {ls : Array Slot} {i : Instr} {st : List sxA} {loc : List (Nat × sxA)} {dC : Nat → ClassId} {dI : Nat → Nat → Nat} {kA : Nat → ClassId} {A : Nat → Prop} {own : String}
theorem sx_map_sb (f : Nat → sxT) (g : Nat → Nat) (as : List sxA) : as.map (sx_val (sb_σ f σ) (fun i => ρ (g i))) = (as.map (sb_A f g)).map (sx_val σ ρ) := by
  rw [List.map_map]
  exact List.map_congr_left fun a _ => sb_A_ok f g σ ρ a
theorem sx_docall_ok (hc : sx_cx PF RT TK My Mc ML Mr FW CT LT h l p R s m args c cc own dC dI kA A τ H0) (hcs : cells ≤ R.cells ∧ slots ≤ R.slots) {len : Nat} (hf : sx_find h.1 pc = some (i, len)) {O : List (sxS × List sxA)} {j : sxJ} (hk11 : sx_kind i = 11) (ho : sx_docall RT CT h S i st j = some O) (hw : sx_wf S) (hl : sx_wl S loc st) (hs : sx_sat PF τ S σ ρ φ ws) (hp : sx_hp RT h.2.2.2.2.2.1.2.1 dC dI kA A τ H0 w0 ws H locs) (hv : lv_has ls h.2.2.2.2.2.1.1 (sx_loc σ ρ loc))
    (k : ∀ o ∈ O, ∀ σ' ρ' φ' ws' H' locs' ls', sx_gwf S o.1 → sx_wl o.1 loc o.2 → sx_ag S σ σ' ρ ρ' φ φ' → sx_sat PF τ o.1 σ' ρ' φ' ws' → sx_hp RT h.2.2.2.2.2.1.2.1 dC dI kA A τ H0 w0 ws' H' locs' → lv_has ls' h.2.2.2.2.2.1.1 (sx_loc σ' ρ' loc) → W p l e R s m args below meth c H' locs' cells slots Q (F0 m (pc + 3) ls' (o.2.map (sx_val σ' ρ')))) : W p l e R s m args below meth c H locs cells slots Q (F0 m pc ls (st.map (sx_val σ ρ))) := by
  obtain ⟨⟨hx, hb, hml, hown, hts, hK, hN⟩, ⟨hTKo, hTK, hA⟩, htab, hF, hM, hLm, hRoom, hKS, hStr⟩ := hc
  obtain ⟨ht1, ht2, ht3, ht4, ht5, ht6⟩ := htab
  obtain ⟨hP, hD, hS, hT, hU⟩ := hp
  obtain ⟨hl1, hl2⟩ := hl
  obtain ⟨hdg, hlen⟩ := ht1 _ (sx_find_mem hf)
  dsimp only at hdg hlen
  have hlen3 : len = 3 := by
    rcases hlen with q | ⟨d, lo, hi, o, q⟩ | ⟨d, o, q⟩
    · rw [q]
      unfold sx_kind at hk11
      split at hk11 <;> first | (cases hk11; done) | rfl
    · rw [q] at hk11
      cases hk11
    · rw [q] at hk11
      cases hk11
  subst hlen3
  unfold sx_docall at ho
  split at ho
  · rename_i I hI
    have hmet := hM I (List.mem_of_getElem? hI)
    split at ho
    · rename_i cq hcq
      dsimp only at ho
      split at ho
      · rename_i hcc
        cases ho
        simp only [Bool.and_eq_true] at hcc
        obtain ⟨⟨⟨⟨⟨⟨⟨⟨c1, c2⟩, c3⟩, c4⟩, c5⟩, c6⟩, c7⟩, c8⟩, c9⟩ := hcc
        have c1 : cq.2.1 = I.1 := Nat.eq_of_beq_eq_true c1
        have c3 := of_decide_eq_true c3
        have c4 := Nat.le_of_ble_eq_true c4
        have c5 := Nat.le_of_ble_eq_true c5
        have c6 := Nat.le_of_ble_eq_true c6
        have hpre := sx_pre_ok hw hs c2
        have c2' := c2
        unfold sx_pre at c2'
        simp only [Bool.and_eq_true] at c2'
        obtain ⟨⟨⟨⟨⟨⟨-, p1⟩, p2⟩, p3⟩, p4⟩, p5⟩, p6⟩ := c2'
        have p1 := Nat.eq_of_beq_eq_true p1
        have p2 := Nat.eq_of_beq_eq_true p2
        have p3 := Nat.eq_of_beq_eq_true p3
        have eargs := sx_map_sb (σ := σ) (ρ := ρ) (sx_f0 j.2.1.1) (sx_g0 j.2.1.2.1) I.2.2.2.1
        have hix : ∃ ix, (i = .invokevirtual ix ∨ i = .invokestatic ix) ∧ sx_find h.2.2.2.1 ix = some cq := by
          split at hcq
          · exact ⟨_, Or.inl rfl, hcq⟩
          · exact ⟨_, Or.inr rfl, hcq⟩
          · cases hcq
        obtain ⟨ix, hi, hfx⟩ := hix
        have hlk := (ht4 _ (sx_find_mem hfx)).1
        dsimp only at hlk
        have hmods : ∀ r k, sx_inM I.2.2.2.2.1 r k → sx_inM h.2.2.2.2.2.1.2.1 r k := by
          rintro r kk ⟨q, q1, q2, q3, q4⟩
          have := List.all_eq_true.mp c7 q q1
          have := sx_mods_ok this (j := kk) (by omega) (by omega)
          rw [q2] at this
          exact this
        have hdrop : ∀ a ∈ st.drop (I.2.2.2.1.map (sb_A (sx_f0 j.2.1.1) (sx_g0 j.2.1.2.1))).length, sx_wfA S.1.length S.2.1.length a := fun a ha => hl2 a (List.mem_of_mem_drop ha)
        have hsplit : st.map (sx_val σ ρ) = (I.2.2.2.1.map (sx_val (sb_σ (sx_f0 j.2.1.1) σ) (fun i => ρ (sx_g0 j.2.1.2.1 i)))).reverse ++ (st.drop (I.2.2.2.1.map (sb_A (sx_f0 j.2.1.1) (sx_g0 j.2.1.2.1))).length).map (sx_val σ ρ) := by
          rw [eargs, ← List.map_reverse, ← List.map_append, ← c3]
        have main : ∀ kd, kd = cq.1 → kd < 4 → ((kd = 1 ∨ kd = 2) ∧ i = .invokestatic ix ∧ I.2.2.2.1.length = cq.2.2.2 % 64 ∨ ¬ (kd = 1 ∨ kd = 2) ∧ i = .invokevirtual ix ∧ ∃ b As, I.2.2.2.1.map (sx_val (sb_σ (sx_f0 j.2.1.1) σ) (fun i => ρ (sx_g0 j.2.1.2.1 i))) = .ref b :: As ∧ As.length = cq.2.2.2 % 64 ∧ sx_rcv RT τ s H kd cq.2.2.1 (My I.1).cls b) → W p l e R s m args below meth c H locs cells slots Q (F0 m pc ls (st.map (sx_val σ ρ))) := by
          intro kd hkd hk4 hhi
          have hlk := hlk (by rw [← hkd]; exact hk4)
          rw [c1] at hlk
          refine sx_call_ok (kd := kd) (ci := cq.2.2.1) (n := cq.2.2.2 % 64) (rest := (st.drop (I.2.2.2.1.map (sb_A (sx_f0 j.2.1.1) (sx_g0 j.2.1.2.1))).length).map (sx_val σ ρ)) hx hb hml hv.1 hown hts hK hN hTKo hTK hP hD hS hA hT hmet (by rw [hkd]; exact hlk.2) ⟨by rw [hRoom.1]; exact c5, by rw [hRoom.2, hlk.1]; exact c6⟩ hpre hcs hhi hdg (by rw [sx_catsum]; exact c4) hsplit ?_
          intro E hE σ1 ρ1 φ1 w1 H1 locs1 g1 g2 g3 g4 g5 g6 g7
          have hbE := List.all_eq_true.mp c8 E hE
          rw [Bool.and_eq_true] at hbE
          have happ := sx_app_ok (K := I.2.2.2.2.1) hw hD hs p1 p2 p3 p4 p5 p6 hbE.1 g1.1 g1.2.1 g1.2.2 g2 g7
          obtain ⟨a1, a2, a3, a4⟩ := happ
          have a4 := a4 E.2 (fun a ha => by have := hbE.2; rw [ha] at this; exact this)
          have hloc : lv_has ls h.2.2.2.2.2.1.1 (sx_loc (sx_σ2 I.2.2.1.1.length S.1.length σ σ1) (sx_ρ2 I.2.2.1.2.1.length S.2.1.length ρ ρ1) loc) := by
            rw [sx_loc_ext a2.1 a2.2.1 hl1]
            exact hv
          have hl1' : (sx_post S I j.2.1.1 j.2.1.2.1 j.2.1.2.2 E.1).1.length = S.1.length + E.1.1.length := by simp [sx_post, sx_app]
          have hl2' : (sx_post S I j.2.1.1 j.2.1.2.1 j.2.1.2.2 E.1).2.1.length = S.2.1.length + E.1.2.1.length := by simp [sx_post, sx_app]
          have hst' : ∀ a ∈ (sx_postr S I j.2.1.1 j.2.1.2.1 E.2).toList ++ st.drop (I.2.2.2.1.map (sb_A (sx_f0 j.2.1.1) (sx_g0 j.2.1.2.1))).length, sx_wfA (sx_post S I j.2.1.1 j.2.1.2.1 j.2.1.2.2 E.1).1.length (sx_post S I j.2.1.1 j.2.1.2.1 j.2.1.2.2 E.1).2.1.length a := fun a ha => by
            rcases List.mem_append.mp ha with q | q
            · rw [hl1', hl2']
              exact a4.2 a (Option.mem_toList.mp q)
            · exact sx_wfA_mono a1.2.1 a1.2.2.1 (hdrop a q)
          have kk := k _ (List.mem_map.mpr ⟨E, hE, rfl⟩) _ _ _ w1 H1 locs1 ls a1 ⟨sx_wl_mono a1 hl1, hst'⟩ a2 a3 ⟨g3, g4, g5, g6, hU.trans (g7.mono hmods)⟩ hloc
          rw [List.map_append, sx_map_ext a2.1 a2.2.1 hdrop] at kk
          have er : ((sx_postr S I j.2.1.1 j.2.1.2.1 E.2).toList).map (sx_val (sx_σ2 I.2.2.1.1.length S.1.length σ σ1) (sx_ρ2 I.2.2.1.2.1.length S.2.1.length ρ ρ1)) = (sx_ret σ1 ρ1 E.2).toList := by
            rw [a4.1]
            unfold sx_ret sx_postr
            cases E.2 <;> rfl
          rw [er] at kk
          exact kk
        unfold sx_rcvb at c9
        split at c9
        · rename_i hkd
          split at c9
          · rename_i r z as2 has
            split at c9
            · rename_i G hG
              simp only [Bool.and_eq_true] at c9
              obtain ⟨⟨d1, d2⟩, d3⟩ := c9
              have d1 := Nat.eq_of_beq_eq_true d1
              have d2 := Nat.eq_of_beq_eq_true d2
              have d3 := Nat.eq_of_beq_eq_true d3
              obtain ⟨en, b1, b2, b3⟩ := sx_reg_ok hs hT hG
              unfold sx_eok at b2
              rw [d1] at b2
              obtain ⟨fs, rfl, -⟩ := b2
              rw [d2] at b1
              obtain ⟨q0, hq0⟩ := b1
              refine main 0 hkd.symm (by omega) (Or.inr ⟨by omega, ?_, ρ r, as2.map (sx_val σ ρ), ?_, ?_, ?_⟩)
              · rcases hi with q | q
                · exact q
                · cases q
              · rw [eargs, has]
                rfl
              · rw [List.length_map]
                exact d3
              · obtain ⟨-, hcl⟩ := hlk (by rw [hkd]; omega)
                rw [hkd] at hcl
                obtain ⟨-, -, vq, hv1, hv2⟩ := hcl
                have := va_recv hK hP hv1 hq0
                rw [hv2, c1] at this
                exact this
            · cases c9
          · cases c9
        · rename_i hkd
          have d3 := Nat.eq_of_beq_eq_true c9
          refine main 1 hkd.symm (by omega) (Or.inl ⟨Or.inl rfl, ?_, ?_⟩)
          · rcases hi with q | q
            · cases q
            · exact q
          · rw [← d3, List.length_map]
        · rename_i hkd
          have d3 := Nat.eq_of_beq_eq_true c9
          refine main 2 hkd.symm (by omega) (Or.inl ⟨Or.inr rfl, ?_, ?_⟩)
          · rcases hi with q | q
            · cases q
            · exact q
          · rw [← d3, List.length_map]
        · rename_i hkd
          split at c9
          · rename_i r z as2 has
            split at c9
            · rename_i Rg hRg
              rw [Bool.and_eq_true] at c9
              have d1 := Nat.le_of_ble_eq_true c9.1
              have d3 := Nat.eq_of_beq_eq_true c9.2
              refine main 3 hkd.symm (by omega) (Or.inr ⟨by omega, ?_, ρ r, as2.map (sx_val σ ρ), ?_, ?_, ?_⟩)
              · rcases hi with q | q
                · exact q
                · cases q
              · rw [eargs, has]
                rfl
              · rw [List.length_map]
                exact d3
              · obtain ⟨-, hcl⟩ := hlk (by rw [hkd]; omega)
                rw [hkd] at hcl
                obtain ⟨-, -, hst⟩ := hcl
                have := hStr H locs hS _ _ (hs.2.1 r Rg hRg) d1
                rw [← c1]
                show ∃ cell : Cell, _
                rw [hst]
                exact this
            · cases c9
          · cases c9
        · cases c9
      · cases ho
    · cases ho
  · cases ho
/-- where a method ends: what its walk is for -/
def sx_RH (PF : Nat → List Int → List (Nat → Int) → Prop) (RT : List sxG) (h : sxH) (dC : Nat → ClassId) (dI : Nat → Nat → Nat) (kA : Nat → ClassId) (A : Nat → Prop) (τ : Nat → Option Nat) (H0 : Heap) (w0 : va_W) (σ0 : sxV) (ρ0 : sxR) (φ0 : sxF) (p : Program) (l : Launch) (e : Env) (R : Room) (s : State) (m : MethodId) (args : Array Value) (below : List Frame) (meth : Method) (c : Code) (cc : ByteArray) (cells slots : Nat) (Q : State → Prop) : Prop := ∀ E ∈ h.2.2.2.2.2.1.2.2.1, ∀ (i : Instr) (pc : Nat) (ls : Array Slot) (σ' : sxV) (ρ' : sxR) (φ' : sxF) (ws' : va_W) (H' : Heap) (locs' : List Loc), decode cc pc = .ok (i, 1) → (∀ i, i < h.2.2.2.2.2.2.1.1 → σ' i = σ0 i) → (∀ i, i < h.2.2.2.2.2.2.1.2.1 → ρ' i = ρ0 i) → (∀ i, i < h.2.2.2.2.2.2.1.2.2 → φ' i = φ0 i) → sx_dsat PF τ h.2.2.2.2.2.2.1.1 h.2.2.2.2.2.2.1.2.1 E.1 σ' ρ' φ' ws' → sx_hp RT h.2.2.2.2.2.1.2.1 dC dI kA A τ H0 w0 ws' H' locs' → sx_rk h.2.2.2.2.2.1.2.2.2 i (sx_ret σ' ρ' E.2) → W p l e R s m args below meth c H' locs' cells slots Q (F0 m pc ls (sx_ret σ' ρ' E.2).toList)
theorem sx_f1_lt {n : Nat} {ts : List sxT} {σ : sxV} : ∀ i, i < n → sb_σ (sx_f1 n ts) σ i = σ i := fun i hi => by
  show sx_tv σ (sx_f1 n ts i) = σ i
  have e : sx_f1 n ts i = (i, 0) := if_pos (Nat.ble_eq_true_of_le hi)
  rw [e]
  show σ i + 0 = σ i
  omega
theorem sx_g1_lt {n : Nat} {ts : List Nat} : ∀ i, i < n → sx_g1 n ts i = i := fun i hi => if_pos (Nat.ble_eq_true_of_le hi)
theorem sx_retok_ok {rc : Nat} (hs : sx_sat PF τ S σ ρ φ ws) (hr : sx_retok rc S i st = true) : ∃ v, st.map (sx_val σ ρ) = v.toList ∧ sx_rk rc i v ∧ sx_ilen i = 1 := by
  unfold sx_retok at hr
  split at hr
  · exact ⟨none, rfl, Or.inl ⟨rfl, Nat.eq_of_beq_eq_true hr, rfl⟩, rfl⟩
  · rename_i t
    refine ⟨some (.int (Int32.ofInt (sx_tv σ t))), rfl, Or.inr (Or.inl ⟨rfl, sx_tv σ t, rfl, ?_⟩), rfl⟩
    rw [Bool.or_eq_true] at hr
    rcases hr with q | q
    · exact Or.inl (Nat.eq_of_beq_eq_true q)
    · rw [Bool.and_eq_true] at q
      obtain ⟨q1, q2⟩ := q
      split at q2
      · rename_i w hw
        rw [Bool.and_eq_true] at q2
        have b := sx_iv_ok hs.1 (a := w.1) (b := w.2) hw
        have := sx_le_iff.mp q2.1
        have := sx_le_iff.mp q2.2
        exact Or.inr ⟨Nat.eq_of_beq_eq_true q1, by omega, by omega⟩
      · cases q2
  · exact ⟨_, rfl, Or.inr (Or.inr (Or.inl ⟨rfl, Nat.eq_of_beq_eq_true hr, _, rfl⟩)), rfl⟩
  · exact ⟨_, rfl, Or.inr (Or.inr (Or.inr ⟨rfl, Nat.eq_of_beq_eq_true hr, _, rfl, Or.inr ⟨_, rfl⟩⟩)), rfl⟩
  · exact ⟨_, rfl, Or.inr (Or.inr (Or.inr ⟨rfl, Nat.eq_of_beq_eq_true hr, _, rfl, Or.inl rfl⟩)), rfl⟩
  · cases hr
theorem sx_toList_inj {α : Type} : ∀ {a b : Option α}, a.toList = b.toList → a = b
  | none, none, _ => rfl
  | none, some _, h => by cases h
  | some _, none, h => by cases h
  | some _, some _, h => by cases h; rfl
theorem sx_doret_ok (hc : sx_cx PF RT TK My Mc ML Mr FW CT LT h l p R s m args c cc own dC dI kA A τ H0) (hRH : sx_RH PF RT h dC dI kA A τ H0 w0 σ0 ρ0 φ0 p l e R s m args below meth c cc cells slots Q) {len : Nat} (hf : sx_find h.1 pc = some (i, len)) {j : sxJ} (ho : sx_doret h S i st j = true) (hw : sx_wf S) (hs : sx_sat PF τ S σ ρ φ ws) (hp : sx_hp RT h.2.2.2.2.2.1.2.1 dC dI kA A τ H0 w0 ws H locs) (a1 : ∀ i, i < h.2.2.2.2.2.2.1.1 → σ i = σ0 i) (a2 : ∀ i, i < h.2.2.2.2.2.2.1.2.1 → ρ i = ρ0 i) (a3 : ∀ i, i < h.2.2.2.2.2.2.1.2.2 → φ i = φ0 i) : W p l e R s m args below meth c H locs cells slots Q (F0 m pc ls (st.map (sx_val σ ρ))) := by
  obtain ⟨-, -, htab, -⟩ := hc
  obtain ⟨hdg, hlen⟩ := htab.1 _ (sx_find_mem hf)
  dsimp only at hdg hlen
  unfold sx_doret at ho
  split at ho
  · rename_i E hE
    simp only [Bool.and_eq_true] at ho
    obtain ⟨⟨c1, c2⟩, c3⟩ := ho
    have c2 := of_decide_eq_true c2
    obtain ⟨v, v1, v2, v3⟩ := sx_retok_ok (σ := σ) (ρ := ρ) hs c3
    have hl1 : len = 1 := by
      rcases hlen with q | ⟨d, lo, hi, o, q⟩ | ⟨d, o, q⟩
      · rw [q]
        exact v3
      · rw [q] at v2
        unfold sx_rk at v2
        rcases v2 with ⟨q, -⟩ | ⟨q, -⟩ | ⟨q, -⟩ | ⟨q, -⟩ <;> cases q
      · rw [q] at v2
        unfold sx_rk at v2
        rcases v2 with ⟨q, -⟩ | ⟨q, -⟩ | ⟨q, -⟩ | ⟨q, -⟩ <;> cases q
    subst hl1
    have hd := sx_ent_ok hw hs c1
    have er : st.map (sx_val σ ρ) = (sx_ret (sb_σ (sx_f1 h.2.2.2.2.2.2.1.1 j.2.1.1) σ) (fun i => ρ (sx_g1 h.2.2.2.2.2.2.1.2.1 j.2.1.2.1 i)) E.2).toList := by
      rw [c2]
      unfold sx_ret
      cases E.2 with
      | none => rfl
      | some a =>
        show [sx_val σ ρ (sb_A _ _ a)] = [sx_val _ _ a]
        rw [← sb_A_ok]
    have hvv : sx_ret (sb_σ (sx_f1 h.2.2.2.2.2.2.1.1 j.2.1.1) σ) (fun i => ρ (sx_g1 h.2.2.2.2.2.2.1.2.1 j.2.1.2.1 i)) E.2 = v := sx_toList_inj (er.symm.trans v1)
    rw [er]
    refine hRH E (List.mem_of_getElem? hE) i pc ls _ _ (fun i => φ (sx_g1 h.2.2.2.2.2.2.1.2.2 j.2.1.2.2 i)) ws H locs hdg (fun q hq => ?_) (fun q hq => ?_) (fun q hq => ?_) hd hp (by rw [hvv]; exact v2)
    · rw [sx_f1_lt q hq]
      exact a1 q hq
    · show ρ (sx_g1 _ _ q) = _
      rw [sx_g1_lt q hq]
      exact a2 q hq
    · show φ (sx_g1 _ _ q) = _
      rw [sx_g1_lt q hq]
      exact a3 q hq
  · cases ho
end SXS
