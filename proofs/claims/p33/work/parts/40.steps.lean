/-! a checker of walks: every step is right -/
section SXS
variable {PF : Nat → List Int → List (Nat → Int) → Prop} {RT : List sxG} {TK : (Nat → Option Nat) → va_W → State → Prop} {My : Nat → MethodName} {Mc : Nat → ByteArray} {ML : Nat → Nat} {Mr : Nat → Option FieldType} {FW : Nat → Prop} {CT : List sxI} {LT : List (sxS × sxS)} {h : sxH}
variable {τ : Nat → Option Nat} {S S' : sxS} {σ σ' : sxV} {ρ ρ' : sxR} {φ : sxF} {ws w0 : va_W}
variable {p : Program} {l : Launch} {e : Env} {R : Room} {s : State} {m : MethodId} {args : Array Value} {below : List Frame} {meth : Method} {c : Code} {H H0 : Heap} {locs : List Loc} {cells slots : Nat} {Q : State → Prop}
variable {cc : ByteArray} {pc : Nat} {ls : Array Slot} {i : Instr} {st : List sxA} {loc : List (Nat × sxA)} {dC : Nat → ClassId} {dI : Nat → Nat → Nat} {kA : Nat → ClassId} {A : Nat → Prop} {own : String}
theorem sx_newr0_ok (hw : sx_wf S) (hs : sx_sat PF τ S σ ρ φ ws) {r a : Nat} (hr : τ a = some r) : sx_gwf S (sx_newr0 S r) ∧ sx_sat PF τ (sx_newr0 S r) σ (sx_upr ρ S.2.1.length a) φ ws := by
  have hs' := sx_sat_ext PF (σ' := σ) (ρ' := sx_upr ρ S.2.1.length a) (φ' := φ) hw ⟨fun _ _ => rfl, sx_upr_lt, fun _ _ => rfl⟩ hs
  obtain ⟨g1, g2, g3, g4, g5, g6⟩ := hs'
  obtain ⟨w0, w00, w1, w2, w3, w4⟩ := hw
  have hl : (sx_newr0 S r).2.1.length = S.2.1.length + 1 := by simp [sx_newr0]
  refine ⟨⟨⟨w0, w00, w1, w2, fun x hx => ?_, fun x hx => ?_⟩, Nat.le_refl _, by omega, Nat.le_refl _⟩, g1, fun i q hq => ?_, g3, g4, g5, g6⟩
  · rw [hl]
    exact sx_wfM_mono (Nat.le_refl _) (by omega) (w3 x hx)
  · rw [hl]
    exact sx_wfC_mono (by omega) (Nat.le_refl _) (w4 x hx)
  · have hq : (S.2.1 ++ [r])[i]? = some q := hq
    by_cases hl : i < S.2.1.length
    · rw [List.getElem?_append_left hl] at hq
      exact g2 i q hq
    · rw [List.getElem?_append_right (by omega)] at hq
      have hz : i - S.2.1.length < 1 := (List.getElem?_eq_some_iff.mp hq).1
      have hk : i = S.2.1.length := by omega
      subst hk
      rw [Nat.sub_self] at hq
      cases hq
      rw [sx_upr_n]
      exact hr
theorem sx_step_ok (hc : sx_cx PF RT TK My Mc ML Mr FW CT LT h l p R s m args c cc own dC dI kA A τ H0) (hR : 1 ≤ R.frames) (hcs : cells ≤ R.cells ∧ slots ≤ R.slots) {len : Nat} (hf : sx_find h.1 pc = some (i, len)) {O : List (sxS × List (Nat × sxA) × List sxA × Nat)} (ho : sx_step RT h pc i len S loc st = some O) (hw : sx_wf S) (hl : sx_wl S loc st) (hs : sx_sat PF τ S σ ρ φ ws) (hp : sx_hp RT h.2.2.2.2.2.1.2.1 dC dI kA A τ H0 w0 ws H locs) (hv : lv_has ls h.2.2.2.2.2.1.1 (sx_loc σ ρ loc))
    (k : ∀ o ∈ O, ∀ σ' ρ' φ' ws' H' locs' ls', sx_gwf S o.1 → sx_wl o.1 o.2.1 o.2.2.1 → sx_ag S σ σ' ρ ρ' φ φ' → sx_sat PF τ o.1 σ' ρ' φ' ws' → sx_hp RT h.2.2.2.2.2.1.2.1 dC dI kA A τ H0 w0 ws' H' locs' → lv_has ls' h.2.2.2.2.2.1.1 (sx_loc σ' ρ' o.2.1) → W p l e R s m args below meth c H' locs' cells slots Q (F0 m o.2.2.2 ls' (o.2.2.1.map (sx_val σ' ρ')))) : W p l e R s m args below meth c H locs cells slots Q (F0 m pc ls (st.map (sx_val σ ρ))) := by
  obtain ⟨⟨hx, hb, hml, hown, hts, hK, hN⟩, ⟨hTKo, hTK, hA⟩, htab, hF, hM, hLm, hRoom, hKS, hStr⟩ := hc
  obtain ⟨ht1, ht2, ht3, ht4, ht5, ht6⟩ := htab
  obtain ⟨hP, hD, hS, hT, hU⟩ := hp
  obtain ⟨hl1, hl2⟩ := hl
  obtain ⟨hdg, hlen⟩ := ht1 _ (sx_find_mem hf)
  dsimp only at hdg hlen
  have hlocR : ∀ {S' : sxS} {σ' : sxV} {ρ' : sxR} {φ' : sxF}, sx_ag S σ σ' ρ ρ' φ φ' → lv_has ls h.2.2.2.2.2.1.1 (sx_loc σ' ρ' loc) := fun ha => by
    rw [sx_loc_ext ha.1 ha.2.1 hl1]
    exact hv
  have nosw : ∀ {j : Instr}, i = j → (∀ d lo hi o, j ≠ .tableswitch d lo hi o) → (∀ d o, j ≠ .lookupswitch d o) → len = sx_ilen i := fun hj h1 h2 => by
    rcases hlen with q | ⟨d, lo, hi, o, q⟩ | ⟨d, o, q⟩
    · exact q
    · exact absurd (hj.symm.trans q) (h1 d lo hi o)
    · exact absurd (hj.symm.trans q) (h2 d o)
  have len0 : sx_kind i ≠ 9 → len = sx_ilen i := fun hk => by
    rcases hlen with q | ⟨d, lo, hi, o, q⟩ | ⟨d, o, q⟩
    · exact q
    · rw [q] at hk
      exact absurd rfl hk
    · rw [q] at hk
      exact absurd rfl hk
  unfold sx_step at ho
  split at ho
  · rename_i hk
    have hln := len0 (by rw [hk]; decide)
    subst hln
    split at ho
    · rename_i o hpu
      cases ho
      refine sx_pure_ok (S' := o.1) (st' := o.2) hx hb hdg hw hl2 hs hpu (fun σ' ha hsw hs' => ?_)
      obtain ⟨q1, q2, q3, q4, q5⟩ := hsw
      have gw : sx_gwf S o.1 := ⟨q1, q3, by rw [q4]; exact Nat.le_refl _, by rw [q5]; exact Nat.le_refl _⟩
      have hag : sx_ag S σ σ' ρ ρ φ φ := ⟨ha, fun _ _ => rfl, fun _ _ => rfl⟩
      exact k _ (List.mem_singleton.mpr rfl) σ' ρ φ ws H locs ls gw ⟨sx_wl_mono gw hl1, q2⟩ hag hs' ⟨hP, hD, hS, hT, hU⟩ (hlocR (S' := S) hag)
    · cases ho
  · rename_i hk
    have hln := len0 (by rw [hk]; decide)
    subst hln
    split at ho
    · rename_i a hlo
      cases ho
      exact sx_load_ok hx hb hdg hv hlo (k _ (List.mem_singleton.mpr rfl) σ ρ φ ws H locs ls (sx_gwf_refl hw) ⟨hl1, sx_wfc (sx_load_wf hl1 hlo) hl2⟩ sx_ag_refl hs ⟨hP, hD, hS, hT, hU⟩ hv)
    · cases ho
  · rename_i hk
    have hln := len0 (by rw [hk]; decide)
    subst hln
    split at ho
    · rename_i a r
      have hr' := sx_wft hl2
      split at ho
      · rename_i loc' hst
        cases ho
        exact sx_store_ok hx hb hdg hv hst (fun ls' hv' => k _ (List.mem_singleton.mpr rfl) σ ρ φ ws H locs ls' (sx_gwf_refl hw) ⟨sx_store_wf hl1 hr'.1 hst, hr'.2⟩ sx_ag_refl hs ⟨hP, hD, hS, hT, hU⟩ hv')
      · cases ho
    · cases ho
  · rename_i hk
    have hln := len0 (by rw [hk]; decide)
    subst hln
    split at ho
    · split at ho
      · rename_i loc' hst
        cases ho
        exact sx_iinc_ok hx hb hdg hv hst (fun ls' hv' => k _ (List.mem_singleton.mpr rfl) σ ρ φ ws H locs ls' (sx_gwf_refl hw) ⟨sx_iinc_wf hl1 hst, hl2⟩ sx_ag_refl hs ⟨hP, hD, hS, hT, hU⟩ hv')
      · cases ho
    · cases ho
  · rename_i hk
    have hln := len0 (by rw [hk]; decide)
    subst hln
    split at ho
    · rename_i ix
      split at ho
      · rename_i q hq
        split at ho
        · rename_i O' hO
          cases ho
          obtain ⟨hfw, v, v1, v2, v3⟩ := ht2 _ (sx_find_mem hq)
          refine sx_getf_ok hx hb hown hts hK hP hD hT hF hw hl2 hs hfw v1 v2 v3 hdg hO (fun o hom σ' ρ' gw ws' ha hs' => ?_)
          exact k _ (List.mem_map.mpr ⟨o, hom, rfl⟩) σ' ρ' φ ws H locs ls gw ⟨sx_wl_mono gw hl1, ws'⟩ ha hs' ⟨hP, hD, hS, hT, hU⟩ (hlocR (S' := S) ha)
        · cases ho
      · cases ho
    · cases ho
  · rename_i hk
    have hln := len0 (by rw [hk]; decide)
    subst hln
    split at ho
    · rename_i ix
      split at ho
      · rename_i q hq
        split at ho
        · rename_i o hO
          cases ho
          obtain ⟨hfw, v, v1, v2, v3, v4, ty, v5, v6⟩ := ht3 _ (sx_find_mem hq)
          refine sx_putf_ok (S' := o.1) (st' := o.2) hx hb hown hts hK hP hD hS hT hF hw hl2 hs hfw v1 v2 v3 v4 v5 v6 hdg hO (fun ws' H' locs' p1 p2 p3 p4 p5 gw wst hs' => ?_)
          exact k _ (List.mem_singleton.mpr rfl) σ ρ φ ws' H' locs' ls gw ⟨sx_wl_mono gw hl1, wst⟩ sx_ag_refl hs' ⟨p1, p2, p3, p4, hU.trans p5⟩ hv
        · cases ho
      · cases ho
    · cases ho
  · rename_i hk
    have hln := len0 (by rw [hk]; decide)
    subst hln
    split at ho
    · rename_i O' hO
      cases ho
      refine sx_ald_ok hx hb hK hP hD hT hw hl2 hs hdg hO (fun o hom σ' ρ' gw ws' ha hs' => ?_)
      exact k _ (List.mem_map.mpr ⟨o, hom, rfl⟩) σ' ρ' φ ws H locs ls gw ⟨sx_wl_mono gw hl1, ws'⟩ ha hs' ⟨hP, hD, hS, hT, hU⟩ (hlocR (S' := S) ha)
    · cases ho
  · rename_i hk
    have hln := len0 (by rw [hk]; decide)
    subst hln
    split at ho
    · rename_i o hO
      cases ho
      refine sx_ast_ok (S' := o.1) (st' := o.2) hx hb hK hP hD hS hT hw hl2 hs hdg hO (fun φ' ws' H' locs' p1 p2 p3 p4 p5 gw wst ha hs' => ?_)
      exact k _ (List.mem_singleton.mpr rfl) σ ρ φ' ws' H' locs' ls gw ⟨sx_wl_mono gw hl1, wst⟩ ha hs' ⟨p1, p2, p3, p4, hU.trans p5⟩ hv
    · cases ho
  · rename_i hk
    have hln := len0 (by rw [hk]; decide)
    subst hln
    split at ho
    · rename_i O' hO
      cases ho
      have hi : i = .arraylength := by
        unfold sx_kind at hk
        split at hk <;> first | rfl | (cases hk)
      subst hi
      refine sx_alen_ok hx hb hK hP hD hT hw hl2 hs hdg hO (fun o hom σ' ρ' gw ws' ha hs' => ?_)
      exact k _ (List.mem_map.mpr ⟨o, hom, rfl⟩) σ' ρ' φ ws H locs ls gw ⟨sx_wl_mono gw hl1, ws'⟩ ha hs' ⟨hP, hD, hS, hT, hU⟩ (hlocR (S' := S) ha)
    · cases ho
  · split at ho
    · rename_i O' hO
      cases ho
      refine sx_br_ok hx hb hdg hlen hw hl2 hs hO (fun o hom hmo hst' => ?_)
      have gw : sx_gwf S o.1 := ⟨hmo.1, by rw [hmo.2.1]; exact Nat.le_refl _, by rw [hmo.2.2.1]; exact Nat.le_refl _, by rw [hmo.2.2.2.1]; exact Nat.le_refl _⟩
      exact k _ (List.mem_map.mpr ⟨o, hom, rfl⟩) σ ρ φ ws H locs ls gw ⟨sx_wl_mono gw hl1, fun a ha => sx_wfA_mono gw.2.1 gw.2.2.1 (hst' a ha)⟩ sx_ag_refl hmo.2.2.2.2 ⟨hP, hD, hS, hT, hU⟩ hv
    · cases ho
  · rename_i hk
    have hln := len0 (by rw [hk]; decide)
    subst hln
    split at ho
    · rename_i o hO
      cases ho
      have hz := sx_zero hw hs
      unfold sx_const at hO
      split at hO
      · rename_i ix
        split at hO
        · rename_i v hv5
          cases hO
          have kk := k _ (List.mem_singleton.mpr rfl) σ ρ φ ws H locs ls (sx_gwf_refl hw) ⟨hl1, sx_wfc (sx_wf0 hw (by omega)) hl2⟩ sx_ag_refl hs ⟨hP, hD, hS, hT, hU⟩ hv
          dsimp only at kk
          rw [List.map_cons, sx_val0 hz] at kk
          exact lv_ldc hx hb hown (hts _ (ht5 _ (sx_find_mem hv5))) hdg kk
        · split at hO
          · rename_i kn hkn
            cases hO
            obtain ⟨a, tx, r1, r2⟩ := hKS _ (sx_find_mem hkn)
            have hn := sx_newr0_ok hw hs r2
            have hag : sx_ag S σ σ ρ (sx_upr ρ S.2.1.length a) φ φ := ⟨fun _ _ => rfl, sx_upr_lt, fun _ _ => rfl⟩
            have hnew : sx_wfA (sx_newr0 S (RT.length + kn)).1.length (sx_newr0 S (RT.length + kn)).2.1.length (2, S.2.1.length, 0) := Or.inr (Or.inr (Or.inl ⟨rfl, by show S.2.1.length < (S.2.1 ++ [_]).length; simp⟩))
            have kk := k _ (List.mem_singleton.mpr rfl) σ (sx_upr ρ S.2.1.length a) φ ws H locs ls hn.1 ⟨sx_wl_mono hn.1 hl1, sx_wfc hnew (fun b hb => sx_wfA_mono hn.1.2.1 hn.1.2.2.1 (hl2 b hb))⟩ hag hn.2 ⟨hP, hD, hS, hT, hU⟩ (hlocR (S' := S) hag)
            dsimp only at kk
            have ev : sx_val σ (sx_upr ρ S.2.1.length a) (2, S.2.1.length, 0) = .ref a := by
              show Value.ref (sx_upr ρ S.2.1.length a S.2.1.length) = _
              rw [sx_upr_n]
            rw [List.map_cons, ev, sx_map_ext hag.1 hag.2.1 hl2] at kk
            exact va_ldcS hx hb hown r1 hdg kk
          · cases hO
      · rename_i ix
        split at hO
        · rename_i v hv5
          cases hO
          have kk := k _ (List.mem_singleton.mpr rfl) σ ρ φ ws H locs ls (sx_gwf_refl hw) ⟨hl1, sx_wfc (sx_wf0 hw (by omega)) hl2⟩ sx_ag_refl hs ⟨hP, hD, hS, hT, hU⟩ hv
          dsimp only at kk
          rw [List.map_cons, sx_val0 hz] at kk
          exact lv_ldcw hx hb hown (hts _ (ht5 _ (sx_find_mem hv5))) hdg kk
        · cases hO
      · rename_i ix
        split at hO
        · rename_i v hv5
          cases hO
          have kk := k _ (List.mem_singleton.mpr rfl) σ ρ φ ws H locs ls (sx_gwf_refl hw) ⟨hl1, sx_wfc (sx_wf0 hw (by omega)) hl2⟩ sx_ag_refl hs ⟨hP, hD, hS, hT, hU⟩ hv
          dsimp only at kk
          rw [List.map_cons, sx_val1 hz] at kk
          exact lv_ldc2 hx hb hown (hts _ (ht6 _ (sx_find_mem hv5))) hdg kk
        · cases hO
      · cases hO
    · cases ho
  · rename_i hk
    have hln := len0 (by rw [hk]; decide)
    subst hln
    split at ho
    · rename_i hac
      split at ho
      · rename_i o hO
        cases ho
        unfold sx_isac at hac
        split at hac
        · rename_i ix
          split at hac
          · rename_i cq hcq
            have h9 := (ht4 _ (sx_find_mem hcq)).2.1 (Nat.eq_of_beq_eq_true hac)
            refine sx_acp_ok (S' := o.1) (st' := o.2) hx hb (by rw [hml]; exact hv.1.symm) hown hts hK hP hD hS hT h9 hR (Nat.le_of_eq hRoom.2.symm) hw hl2 hs hdg hO (fun ws' H' locs' p1 p2 p3 p4 p5 gw wst hs' => ?_)
            exact k _ (List.mem_singleton.mpr rfl) σ ρ φ ws' H' locs' ls gw ⟨sx_wl_mono gw hl1, fun a ha => sx_wfA_mono gw.2.1 gw.2.2.1 (wst a ha)⟩ sx_ag_refl hs' ⟨p1, p2, p3, p4, hU.trans p5⟩ hv
          · cases hac
        · cases hac
      · cases ho
    · split at ho
      · rename_i qm hqm
        split at ho
        · rename_i O' hO
          cases ho
          have key : i = .invokestatic qm.1 ∧ sx_mmw own qm.1 qm.2 := by
            unfold sx_ismm at hqm
            split at hqm
            · rename_i ix
              split at hqm
              · rename_i cq hcq
                have h4 := (ht4 _ (sx_find_mem hcq)).2.2
                split at hqm
                · rename_i h7
                  cases hqm
                  exact ⟨rfl, h4.1 (Nat.eq_of_beq_eq_true h7)⟩
                · split at hqm
                  · rename_i h8
                    cases hqm
                    exact ⟨rfl, h4.2 (Nat.eq_of_beq_eq_true h8)⟩
                  · cases hqm
              · cases hqm
            · cases hqm
          obtain ⟨hi, hmw⟩ := key
          subst hi
          refine sx_mm_ok hx hb (by rw [hml]; exact hv.1.symm) hown hts hmw hR (Nat.le_of_eq hRoom.2.symm) hcs hw hl2 hs hdg hO (fun o hom hmo hst' => ?_)
          have gw : sx_gwf S o.1 := ⟨hmo.1, by rw [hmo.2.1]; exact Nat.le_refl _, by rw [hmo.2.2.1]; exact Nat.le_refl _, by rw [hmo.2.2.2.1]; exact Nat.le_refl _⟩
          exact k _ (List.mem_map.mpr ⟨o, hom, rfl⟩) σ ρ φ ws H locs ls gw ⟨sx_wl_mono gw hl1, fun a ha => sx_wfA_mono gw.2.1 gw.2.2.1 (hst' a ha)⟩ sx_ag_refl hmo.2.2.2.2 ⟨hP, hD, hS, hT, hU⟩ hv
        · cases ho
      · cases ho
  · cases ho
end SXS
