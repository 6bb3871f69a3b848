/-! a checker of walks: places of arrays, read -/
section SXH
variable {PF : Nat → List Int → List (Nat → Int) → Prop} {RT : List sxG} {τ : Nat → Option Nat} {S S' : sxS} {σ : sxV} {ρ : sxR} {φ : sxF} {ws : va_W}
variable {p : Program} {l : Launch} {e : Env} {R : Room} {s : State} {m : MethodId} {args : Array Value} {below : List Frame} {meth : Method} {c : Code} {H : Heap} {locs : List Loc} {cells slots : Nat} {Q : State → Prop}
variable {cc : ByteArray} {pc : Nat} {ls : Array Slot} {i : Instr} {st : List sxA} {dC : Nat → ClassId} {dI : Nat → Nat → Nat} {kA : Nat → ClassId} {A : Nat → Prop} {own : String} {rest : List Value}
theorem sx_rowa (hx : p.tables.exec = Jvm.exec) (hb : c.code = cc) (hK : va_K (dC, dI) vwCl (tyL kA) s) (hP : va_P (dC, dI) vwCl ws H) {a t n q0 : Nat} {d} (hty : sx_ty i t = true) (hdk : sx_dk t d) (ha : ws[q0]? = some (a, .inl (kA t, n, d))) {x : Int32} (hin : vp_in x n) (hdg : decode cc pc = .ok (i, sx_ilen i))
    (kk : W p l e R s m args below meth c H locs cells slots Q (F0 m (pc + sx_ilen i) ls (sx_el d x.toNatClampNeg :: rest))) : W p l e R s m args below meth c H locs cells slots Q (F0 m pc ls (.int x :: .ref a :: rest)) := by
  unfold sx_ty at hty
  split at hty
  · have ht : t = 0 := Nat.eq_of_beq_eq_true hty
    subst ht
    obtain ⟨f, rfl⟩ := hdk
    exact va_iald hx hb hK hP q0 0 ha rfl hin hdg kk
  · rw [Bool.or_eq_true] at hty
    rcases hty with ht | ht
    · have ht : t = 1 := Nat.eq_of_beq_eq_true ht
      subst ht
      obtain ⟨f, rfl⟩ := hdk
      exact va_bald hx hb hK hP q0 1 ha rfl hin hdg kk
    · have ht : t = 3 := Nat.eq_of_beq_eq_true ht
      subst ht
      obtain ⟨f, rfl⟩ := hdk
      exact va_zald hx hb hK hP q0 3 ha rfl hin hdg kk
  · have ht : t = 2 := Nat.eq_of_beq_eq_true hty
    subst ht
    obtain ⟨f, rfl⟩ := hdk
    exact va_lald hx hb hK hP q0 2 ha rfl hin hdg kk
  · rw [Bool.and_eq_true] at hty
    have t1 := Nat.le_of_ble_eq_true hty.1
    have t2 := Nat.le_of_ble_eq_true hty.2
    obtain ⟨ty, h1, -, -, -, -, h2⟩ := sx_tyL kA t t2
    have hd : ∃ f, d = .inr (.inr (.inr (.inr f))) := by
      match t, t1, hdk with
      | n + 4, _, hdk => exact hdk
    obtain ⟨f, rfl⟩ := hd
    exact sx_aldq hx hb hK hP q0 t (h2 t1) ha h1 hin hdg kk
  · cases hty
theorem sx_num_of {d} {j : Nat} {x : Int} (h : (sx_el d j = .int (Int32.ofInt x) ∧ -2147483648 ≤ x ∧ x ≤ 2147483647) ∨ (sx_el d j = .long (Int64.ofInt x) ∧ -9223372036854775808 ≤ x ∧ x ≤ 9223372036854775807)) : sx_num d j = x := by
  match d with
  | .inl f =>
    rcases h with ⟨h, h1, h2⟩ | ⟨h, -⟩
    · have h : Value.int (f j) = .int (Int32.ofInt x) := h
      show (f j).toInt = x
      rw [Value.int.inj h, t_of32 h1 h2]
    · cases h
  | .inr (.inl f) =>
    rcases h with ⟨h, -⟩ | ⟨h, h1, h2⟩
    · cases h
    · have h : Value.long (f j) = .long (Int64.ofInt x) := h
      show (f j).toInt = x
      rw [Value.long.inj h, t_of64 h1 h2]
  | .inr (.inr (.inl f)) => rcases h with ⟨h, -⟩ | ⟨h, -⟩ <;> cases h
  | .inr (.inr (.inr (.inl f))) => rcases h with ⟨h, -⟩ | ⟨h, -⟩ <;> cases h
  | .inr (.inr (.inr (.inr f))) =>
    rcases h with ⟨h, -⟩ | ⟨h, -⟩
    · have h : va_rf (f j) = _ := h
      cases hf : f j <;> rw [hf] at h <;> cases h
    · have h : va_rf (f j) = _ := h
      cases hf : f j <;> rw [hf] at h <;> cases h
theorem sx_ald_ok (hx : p.tables.exec = Jvm.exec) (hb : c.code = cc) (hK : va_K (dC, dI) vwCl (tyL kA) s) (hP : va_P (dC, dI) vwCl ws H) (hD : va_D A ws) (hT : sx_wt RT kA τ ws)
    (hw : sx_wf S) (hr : ∀ a ∈ st, sx_wfA S.1.length S.2.1.length a) (h : sx_sat PF τ S σ ρ φ ws) (hdg : decode cc pc = .ok (i, sx_ilen i)) {O : sxO} (ho : sx_ald RT i S st = some O)
    (k : ∀ o ∈ O, ∀ σ' ρ', sx_gwf S o.1 → (∀ a ∈ o.2, sx_wfA o.1.1.length o.1.2.1.length a) → sx_ag S σ σ' ρ ρ' φ φ → sx_sat PF τ o.1 σ' ρ' φ ws → W p l e R s m args below meth c H locs cells slots Q (F0 m (pc + sx_ilen i) ls (o.2.map (sx_val σ' ρ')))) : W p l e R s m args below meth c H locs cells slots Q (F0 m pc ls (st.map (sx_val σ ρ))) := by
  unfold sx_ald at ho
  split at ho
  · rename_i t r z rest
    split at ho
    · rename_i G w hG hv
      split at ho
      · rename_i hc
        rw [Bool.and_eq_true, Bool.and_eq_true, Bool.and_eq_true] at hc
        obtain ⟨⟨⟨c1, c2⟩, c3⟩, c4⟩ := hc
        have c1 : G.1 = 1 := Nat.eq_of_beq_eq_true c1
        have c3 := Nat.le_of_ble_eq_true c3
        obtain ⟨en, a1, a2, a3⟩ := sx_reg_ok h hT hG
        unfold sx_eok at a2
        rw [c1] at a2
        obtain ⟨n, d, rfl, n1, n2, hdk, hel⟩ := a2
        obtain ⟨q0, hq0⟩ := a1
        obtain ⟨i1, i2, i3, i4, i5, i6⟩ := sx_inb_ok hw hD h (a := w.1) (b := w.2) hv c4 ⟨q0, hq0⟩ n1 (by omega)
        have hr1 := sx_wft hr
        have hr2 := sx_wft hr1.2
        have htl := sx_iv_lt hv
        have row : ∀ v, sx_el d (sx_tv σ t).toNat = v → W p l e R s m args below meth c H locs cells slots Q (F0 m (pc + sx_ilen i) ls (v :: rest.map (sx_val σ ρ))) → W p l e R s m args below meth c H locs cells slots Q (F0 m pc ls (((0, t) :: (2, r, z) :: rest).map (sx_val σ ρ))) := fun v hv kk =>
          sx_rowa (x := Int32.ofInt (sx_tv σ t)) hx hb hK hP c2 hdk hq0 i3 hdg (by rw [i4, hv]; exact kk)
        split at ho
        · rename_i a hm
          cases ho
          have hmm := h.2.2.2.2.1 _ (sx_mget_mem hm)
          obtain ⟨cA', n', d', b1, b2, b3, b4⟩ := hmm
          have := sx_at_inj hD b1 ⟨q0, hq0⟩
          cases this
          refine row _ b4 ?_
          have wa : sx_wfA S.1.length S.2.1.length a := (hw.2.2.2.2.1 _ (sx_mget_mem hm)).2.2
          exact k _ (List.mem_singleton.mpr rfl) σ ρ ⟨hw, Nat.le_refl _, Nat.le_refl _, Nat.le_refl _⟩ (sx_wfc wa hr2.2) ⟨fun _ _ => rfl, fun _ _ => rfl, fun _ _ => rfl⟩ h
        · split at ho
          · rename_i qq hh
            cases ho
            obtain ⟨q', f1, f2⟩ := hel _ i2
            have f3 := sx_hull_ok (τ := τ) (j := (sx_tv σ t).toNat) (by omega) (by omega) hh q' f1 _ f2
            refine row _ rfl (sx_outs hw h hr2.2 (sx_rd_ok hw h f3 a3 htl (fun p hp => ?_) ?_ (fun x hxv p hp => ?_)) k)
            · split at hp
              · unfold sx_cmp5 at hp
                obtain ⟨cm, hcm, rfl⟩ := List.mem_map.mp hp
                have hcm := (List.mem_filter.mp hcm).1
                refine ⟨fun t' ht' => ?_, fun i' hi' => ?_⟩
                · simp only [List.mem_cons, List.not_mem_nil, or_false] at ht'
                  rcases ht' with rfl | rfl
                  · omega
                  · exact Nat.lt_succ_self _
                · cases List.mem_singleton.mp hi'
                  exact (hw.2.2.2.2.2 _ hcm).2
              · cases hp
            · intro σ' ρ' a' g1 g2 g3
              refine ⟨kA G.2.1, n, d, ?_, ?_, ?_, ?_⟩
              · show sx_at ws (ρ' r) _
                rw [g1]
                exact ⟨q0, hq0⟩
              · show 0 ≤ sx_tv σ' t
                rw [g2]
                exact i1
              · show (sx_tv σ' t).toNat < n
                rw [g2]
                exact i2
              · show sx_el d (sx_tv σ' t).toNat = sx_val σ' ρ' a'
                rw [g2, g3]
            · split at hp
              · unfold sx_cmp5 at hp
                obtain ⟨cm, hcm, rfl⟩ := List.mem_map.mp hp
                have hcm := List.mem_filter.mp hcm
                have hcc := hcm.2
                rw [Bool.and_eq_true, Bool.and_eq_true] at hcc
                obtain ⟨⟨d1, d2⟩, d3⟩ := hcc
                have d1 : cm.1 = r := Nat.eq_of_beq_eq_true d1
                have d2 := sx_le_iff.mp d2
                have d3 := sx_le_iff.mp d3
                obtain ⟨cA', n', d', g1, g2⟩ := h.2.2.2.2.2 _ hcm.1
                rw [d1] at g1
                have := sx_at_inj hD g1 ⟨q0, hq0⟩
                cases this
                have e1 := sx_num_of hxv
                have e2 := g2 (sx_tv σ t).toNat (by omega) (by omega) i2
                show 0 ≤ sx_tv (sx_up σ S.1.length x) t ∧ φ cm.2.2 (sx_tv (sx_up σ S.1.length x) t).toNat = sx_tv (sx_up σ S.1.length x) (S.1.length, 0)
                rw [sx_tv_ext sx_up_lt htl, ← e2, e1]
                refine ⟨i1, ?_⟩
                show x = sx_up σ S.1.length x S.1.length + 0
                rw [sx_up_n, Int.add_zero]
              · cases hp
          · cases ho
      · cases ho
    · cases ho
  · cases ho
theorem sx_alen_ok (hx : p.tables.exec = Jvm.exec) (hb : c.code = cc) (hK : va_K (dC, dI) vwCl (tyL kA) s) (hP : va_P (dC, dI) vwCl ws H) (hD : va_D A ws) (hT : sx_wt RT kA τ ws)
    (hw : sx_wf S) (hr : ∀ a ∈ st, sx_wfA S.1.length S.2.1.length a) (h : sx_sat PF τ S σ ρ φ ws) (hdg : decode cc pc = .ok (.arraylength, 1)) {O : sxO} (ho : sx_alen RT S st = some O)
    (k : ∀ o ∈ O, ∀ σ' ρ', sx_gwf S o.1 → (∀ a ∈ o.2, sx_wfA o.1.1.length o.1.2.1.length a) → sx_ag S σ σ' ρ ρ' φ φ → sx_sat PF τ o.1 σ' ρ' φ ws → W p l e R s m args below meth c H locs cells slots Q (F0 m (pc + 1) ls (o.2.map (sx_val σ' ρ')))) : W p l e R s m args below meth c H locs cells slots Q (F0 m pc ls (st.map (sx_val σ ρ))) := by
  unfold sx_alen at ho
  split at ho
  · rename_i r z rest
    split at ho
    · rename_i G hG
      split at ho
      · rename_i hc
        rw [Bool.and_eq_true, Bool.and_eq_true] at hc
        obtain ⟨⟨c1, c2⟩, c3⟩ := hc
        have c1 : G.1 = 1 := Nat.eq_of_beq_eq_true c1
        have c2 := Nat.le_of_ble_eq_true c2
        have c3 := Nat.le_of_ble_eq_true c3
        obtain ⟨en, a1, a2, a3⟩ := sx_reg_ok h hT hG
        unfold sx_eok at a2
        rw [c1] at a2
        obtain ⟨n, d, rfl, n1, n2, hdk, hel⟩ := a2
        obtain ⟨q0, hq0⟩ := a1
        obtain ⟨ty, hty, -⟩ := sx_tyL kA G.2.1 c2
        have hr' := sx_wft hr
        have row : W p l e R s m args below meth c H locs cells slots Q (F0 m (pc + 1) ls (.int (Int32.ofNat n) :: rest.map (sx_val σ ρ))) → W p l e R s m args below meth c H locs cells slots Q (F0 m pc ls (((2, r, z) :: rest).map (sx_val σ ρ))) := fun kk =>
          va_alen hx hb hK hP q0 G.2.1 hq0 hty rfl hdg kk
        have e5 : (Int32.ofNat n).toInt = n := nI_toInt (by omega)
        split at ho
        · rename_i a hm
          cases ho
          have hmm := h.2.2.2.2.1 _ (sx_mget_mem hm)
          obtain ⟨cA', n', d', b1, b2⟩ := hmm
          have := sx_at_inj hD b1 ⟨q0, hq0⟩
          cases this
          have wa : sx_wfA S.1.length S.2.1.length a := (hw.2.2.2.2.1 _ (sx_mget_mem hm)).2.2
          have k := k _ (List.mem_singleton.mpr rfl) σ ρ ⟨hw, Nat.le_refl _, Nat.le_refl _, Nat.le_refl _⟩ (sx_wfc wa hr'.2) ⟨fun _ _ => rfl, fun _ _ => rfl, fun _ _ => rfl⟩ h
          have b2 : sx_val σ ρ a = .int (Int32.ofNat n) := b2
          rw [List.map_cons, b2] at k
          exact row k
        · cases ho
          have hfk : sx_fok τ (0, (G.2.2.1 : Int), (G.2.2.2.1 : Int)) (.int (Int32.ofNat n)) := ⟨Int32.ofNat n, rfl, by show (G.2.2.1 : Int) ≤ (Int32.ofNat n).toInt; omega, by show (Int32.ofNat n).toInt ≤ (G.2.2.2.1 : Int); omega⟩
          refine row (sx_outs hw h hr'.2 (sx_rd_ok hw h hfk a3 hw.1 (fun p hp => by cases hp) ?_ (fun x _ p hp => by cases hp)) k)
          · intro σ' ρ' a' g1 g2 g3
            refine ⟨kA G.2.1, n, d, ?_, g3⟩
            show sx_at ws (ρ' r) _
            rw [g1]
            exact ⟨q0, hq0⟩
      · cases ho
    · cases ho
  · cases ho
end SXH
