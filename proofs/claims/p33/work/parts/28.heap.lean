/-! a checker of walks: fields and places, read -/
abbrev sxO : Type := List (sxS × List sxA)
def sx_out (l : List (sxS × sxA)) (rest : List sxA) : sxO := l.map (fun o => (o.1, o.2 :: rest))
def sx_reg (RT : List sxG) (S : sxS) (r : Nat) : Option sxG := match S.2.1[r]? with
  | some R => RT[R]?
  | none => none
def sx_getf (RT : List sxG) (ci k : Nat) (S : sxS) (st : List sxA) : Option sxO := match st with
  | (2, r, _) :: rest => match sx_reg RT S r with
    | some G => if Nat.beq G.1 0 && Nat.beq G.2.1 ci && Nat.blt k G.2.2.1 then (match sx_mget S.2.2.2.2.2.1 0 r (0, (k : Int)) with
        | some a => some [(S, a :: rest)]
        | none => match sx_seg G.2.2.2.2 k with
          | some q => some (sx_out (sx_rd S 0 r (0, (k : Int)) q []) rest)
          | none => none) else none
    | none => none
  | _ => none
/-- a place's number lies within the array -/
def sx_inb (S : sxS) (G : sxG) (r : Nat) (t : sxT) (a b : Int) : Bool := sx_le 0 a && sx_in32 a b && (sx_le (b + 1) (G.2.2.1 : Int) || (match sx_mget S.2.2.2.2.2.1 2 r (0, 0) with
  | some (0, x) => (match sx_iv S.1 x with
    | some w => sx_in32 w.1 w.2 && sx_prove S.1 S.2.2.2.1 (sx_dif x t (-1))
    | none => false)
  | _ => false))
def sx_cmp5 (S : sxS) (r : Nat) (t : sxT) (a b : Int) : List sxP := (S.2.2.2.2.2.2.filter (fun c => Nat.beq c.1 r && sx_le (c.2.1.1 : Int) a && sx_le (b + 1) (c.2.1.2 : Int))).map (fun c => (5, [t, (S.1.length, 0)], [c.2.2]))
def sx_ty (i : Instr) (t : Nat) : Bool := match i with
  | .iaload => Nat.beq t 0
  | .baload => Nat.beq t 1 || Nat.beq t 3
  | .laload => Nat.beq t 2
  | .aaload => Nat.ble 4 t && Nat.ble t 7
  | _ => false
def sx_ald (RT : List sxG) (i : Instr) (S : sxS) (st : List sxA) : Option sxO := match st with
  | (0, t) :: (2, r, _) :: rest => match sx_reg RT S r, sx_iv S.1 t with
    | some G, some w => if Nat.beq G.1 1 && sx_ty i G.2.1 && Nat.ble G.2.2.2.1 2147483647 && sx_inb S G r t w.1 w.2 then (match sx_mget S.2.2.2.2.2.1 1 r t with
        | some a => some [(S, a :: rest)]
        | none => match sx_hull G.2.2.2.2 w.1 w.2 with
          | some q => some (sx_out (sx_rd S 1 r t q (if Nat.beq q.1 0 then sx_cmp5 S r t w.1 w.2 else [])) rest)
          | none => none) else none
    | _, _ => none
  | _ => none
def sx_alen (RT : List sxG) (S : sxS) (st : List sxA) : Option sxO := match st with
  | (2, r, _) :: rest => match sx_reg RT S r with
    | some G => if Nat.beq G.1 1 && Nat.ble G.2.1 7 && Nat.ble G.2.2.2.1 2147483647 then (match sx_mget S.2.2.2.2.2.1 2 r (0, 0) with
        | some a => some [(S, a :: rest)]
        | none => some (sx_out (sx_rd S 2 r (0, 0) (0, (G.2.2.1 : Int), (G.2.2.2.1 : Int)) []) rest)) else none
    | none => none
  | _ => none
theorem sx_at_inj {A : Nat → Prop} {ws : va_W} (hD : va_D A ws) {a : Nat} {e1 e2 : va_E} (h1 : sx_at ws a e1) (h2 : sx_at ws a e2) : e1 = e2 := by
  obtain ⟨i, h1⟩ := h1
  obtain ⟨j, h2⟩ := h2
  have := hD.1 i j _ _ h1 h2 rfl
  subst this
  rw [h1] at h2
  cases h2
  rfl
/-- the types of arrays, by their numbers -/
theorem sx_tyL (kA : Nat → ClassId) : ∀ t, t ≤ 7 → ∃ ty, (tyL kA)[t]? = some (kA t, ty) ∧ (t = 0 → ty = .int) ∧ (t = 1 → ty = .byte) ∧ (t = 2 → ty = .long) ∧ (t = 3 → ty = .boolean) ∧ (4 ≤ t → ty.isReference = true)
  | 0, _ => ⟨_, rfl, fun _ => rfl, by omega, by omega, by omega, by omega⟩
  | 1, _ => ⟨_, rfl, by omega, fun _ => rfl, by omega, by omega, by omega⟩
  | 2, _ => ⟨_, rfl, by omega, by omega, fun _ => rfl, by omega, by omega⟩
  | 3, _ => ⟨_, rfl, by omega, by omega, by omega, fun _ => rfl, by omega⟩
  | 4, _ => ⟨_, rfl, by omega, by omega, by omega, by omega, fun _ => rfl⟩
  | 5, _ => ⟨_, rfl, by omega, by omega, by omega, by omega, fun _ => rfl⟩
  | 6, _ => ⟨_, rfl, by omega, by omega, by omega, by omega, fun _ => rfl⟩
  | 7, _ => ⟨_, rfl, by omega, by omega, by omega, by omega, fun _ => rfl⟩
  | n + 8, h => by omega
/-- what the words say of a class's fields -/
def sx_Fw (FW : Nat → Prop) : Prop := ∀ ci, FW ci → ∀ q, vwCl[ci]? = some q → (∀ w ∈ u_ws q.1 q.2.1 q.2.2, w ∈ lwG) ∧ ∃ ty0 : Nat → FieldType, (∀ k, k < q.2.2 → parseFieldDescriptor (q.2.1 k).2.2.1 = some (ty0 k)) ∧ ∀ a, a < q.2.2 → ∀ b, b < q.2.2 → a ≠ b → (q.2.1 a).2.1 ≠ (q.2.1 b).2.1
section SXH
variable {PF : Nat → List Int → List (Nat → Int) → Prop} {RT : List sxG} {τ : Nat → Option Nat} {S S' : sxS} {σ : sxV} {ρ : sxR} {φ : sxF} {ws : va_W}
variable {p : Program} {l : Launch} {e : Env} {R : Room} {s : State} {m : MethodId} {args : Array Value} {below : List Frame} {meth : Method} {c : Code} {H : Heap} {locs : List Loc} {cells slots : Nat} {Q : State → Prop}
variable {cc : ByteArray} {pc : Nat} {ls : Array Slot} {i : Instr} {st : List sxA} {dC : Nat → ClassId} {dI : Nat → Nat → Nat} {kA : Nat → ClassId} {A : Nat → Prop} {own : String} {rest : List Value}
theorem sx_aldq {a : Nat} (hexec : p.tables.exec = Jvm.exec) (hb : c.code = cc) (hK : va_K (dC, dI) vwCl (tyL kA) s) (hP : va_P (dC, dI) vwCl ws H) (q0 t0 : Nat) {cA : ClassId} {ty : FieldType} (hty : ty.isReference = true) {n : Nat} {f : Nat → Option Nat} (ha : ws[q0]? = some (a, .inl (cA, n, .inr (.inr (.inr (.inr f)))))) (ht : (tyL kA)[t0]? = some (cA, ty)) {i : Int32} (hin : vp_in i n) (hdg : decode cc pc = .ok (.aaload, 1))
    (kk : W p l e R s m args below meth c H locs cells slots Q (F0 m (pc + 1) ls (va_rf (f i.toNatClampNeg) :: rest))) : W p l e R s m args below meth c H locs cells slots Q (F0 m pc ls (.int i :: .ref a :: rest)) := by
  have hlt : i.toNatClampNeg < n := Nat.not_le.mp fun q => hin (Or.inr q)
  exact W.aald (v := va_rf (f i.toNatClampNeg)) (ty := ty) hexec hb (hP q0 _ ha) ((hK.2 t0 _ ht).1 n (fun j => va_rf (f j))) hty (fun q => by cases q) (by show ¬ (i < 0 ∨ (arrV _ _ _).slots.size ≤ _); rw [arrV_size]; exact hin) (by show (arrV _ _ _).slots[_]? = _; rw [arrV_read _ _ hlt]) rfl rfl hdg kk
theorem sx_reg_ok (h : sx_sat PF τ S σ ρ φ ws) (hT : sx_wt RT kA τ ws) {r : Nat} {G : sxG} (hr : sx_reg RT S r = some G) : ∃ e, sx_at ws (ρ r) e ∧ sx_eok kA τ G e ∧ r < S.2.1.length := by
  unfold sx_reg at hr
  split at hr
  · rename_i x hx
    obtain ⟨G', e, h1, h2, h3⟩ := hT _ _ (h.2.1 r x hx) (List.getElem?_eq_some_iff.mp hr).1
    rw [hr] at h1
    cases h1
    exact ⟨e, h2, h3, (List.getElem?_eq_some_iff.mp hx).1⟩
  · cases hr
/-- the outcomes of a reading, from a value -/
theorem sx_outs (hw : sx_wf S) (h : sx_sat PF τ S σ ρ φ ws) {r : List sxA} (hr : ∀ a ∈ r, sx_wfA S.1.length S.2.1.length a) {l' : List (sxS × sxA)} {v : Value}
    (ho : ∃ o ∈ l', sx_gwf S o.1 ∧ sx_wfA o.1.1.length o.1.2.1.length o.2 ∧ ∃ σ' ρ', sx_ag S σ σ' ρ ρ' φ φ ∧ sx_sat PF τ o.1 σ' ρ' φ ws ∧ sx_val σ' ρ' o.2 = v)
    (k : ∀ o ∈ sx_out l' r, ∀ σ' ρ', sx_gwf S o.1 → (∀ a ∈ o.2, sx_wfA o.1.1.length o.1.2.1.length a) → sx_ag S σ σ' ρ ρ' φ φ → sx_sat PF τ o.1 σ' ρ' φ ws → W p l e R s m args below meth c H locs cells slots Q (F0 m pc ls (o.2.map (sx_val σ' ρ')))) : W p l e R s m args below meth c H locs cells slots Q (F0 m pc ls (v :: r.map (sx_val σ ρ))) := by
  obtain ⟨o, hm, g1, g2, σ', ρ', ag, hs, ev⟩ := ho
  have hk := k (o.1, o.2 :: r) (List.mem_map.mpr ⟨o, hm, rfl⟩) σ' ρ' g1 (sx_wfc g2 fun a ha => sx_wfA_mono g1.2.1 g1.2.2.1 (hr a ha)) ag hs
  rw [List.map_cons, ev, sx_map_ext ag.1 ag.2.1 hr] at hk
  exact hk
theorem sx_getf_ok (hx : p.tables.exec = Jvm.exec) (hb : c.code = cc) (hown : s.vm.findClass own = some m.cls) (hts : ∀ w ∈ lwG, w.before args s = true) (hK : va_K (dC, dI) vwCl (tyL kA) s) (hP : va_P (dC, dI) vwCl ws H) (hD : va_D A ws) (hT : sx_wt RT kA τ ws) {FW : Nat → Prop} (hF : sx_Fw FW)
    (hw : sx_wf S) (hr : ∀ a ∈ st, sx_wfA S.1.length S.2.1.length a) (h : sx_sat PF τ S σ ρ φ ws) {ix ci k0 : Nat} {q : vw_C} (hfw : FW ci) (hq : vwCl[ci]? = some q) (hk0 : k0 < q.2.2) (hlink : Cond.fieldLink own ix (q.2.1 k0).1 (q.2.1 k0).2.1 (q.2.1 k0).2.2.1 ∈ lwG) (hdg : decode cc pc = .ok (.getfield ix, 3)) {O : sxO} (ho : sx_getf RT ci k0 S st = some O)
    (k : ∀ o ∈ O, ∀ σ' ρ', sx_gwf S o.1 → (∀ a ∈ o.2, sx_wfA o.1.1.length o.1.2.1.length a) → sx_ag S σ σ' ρ ρ' φ φ → sx_sat PF τ o.1 σ' ρ' φ ws → W p l e R s m args below meth c H locs cells slots Q (F0 m (pc + 3) ls (o.2.map (sx_val σ' ρ')))) : W p l e R s m args below meth c H locs cells slots Q (F0 m pc ls (st.map (sx_val σ ρ))) := by
  unfold sx_getf at ho
  split at ho
  · rename_i r z rest
    split at ho
    · rename_i G hG
      split at ho
      · rename_i hc
        rw [Bool.and_eq_true, Bool.and_eq_true] at hc
        have c1 : G.1 = 0 := Nat.eq_of_beq_eq_true hc.1.1
        have c2 : G.2.1 = ci := Nat.eq_of_beq_eq_true hc.1.2
        have c3 := sx_blt hc.2
        obtain ⟨en, a1, a2, a3⟩ := sx_reg_ok h hT hG
        unfold sx_eok at a2
        rw [c1] at a2
        obtain ⟨fs, rfl, e2, e3⟩ := a2
        rw [c2] at a1
        obtain ⟨q0, hq0⟩ := a1
        have hr' := sx_wft hr
        have row : ∀ v, fs[k0]? = some v → W p l e R s m args below meth c H locs cells slots Q (F0 m (pc + 3) ls (v :: rest.map (sx_val σ ρ))) → W p l e R s m args below meth c H locs cells slots Q (F0 m pc ls (((2, r, z) :: rest).map (sx_val σ ρ))) := fun v hv kk =>
          va_get (D := (dC, dI)) (ci := ci) (v := v) (C := q.1) (T := q.2.1) (N := q.2.2) hx hb hts (hF ci hfw q hq).1 hown hK hP q0 hq0 hq k0 hk0 (hts _ hlink) (fun _ h9 => h9) hv hdg kk
        split at ho
        · rename_i a hm
          cases ho
          have hmm := h.2.2.2.2.1 _ (sx_mget_mem hm)
          obtain ⟨ci', fs', b1, b2, b3⟩ := hmm
          have := sx_at_inj hD b1 ⟨q0, hq0⟩
          cases this
          have b3 : fs[((σ 0 + (k0 : Int))).toNat]? = some (sx_val σ ρ a) := b3
          rw [sx_zero hw h, Int.zero_add, Int.toNat_natCast] at b3
          refine row _ b3 ?_
          have wa : sx_wfA S.1.length S.2.1.length a := (hw.2.2.2.2.1 _ (sx_mget_mem hm)).2.2
          exact k _ (List.mem_singleton.mpr rfl) σ ρ ⟨hw, Nat.le_refl _, Nat.le_refl _, Nat.le_refl _⟩ (sx_wfc wa hr'.2) ⟨fun _ _ => rfl, fun _ _ => rfl, fun _ _ => rfl⟩ h
        · split at ho
          · rename_i qq hseg
            cases ho
            obtain ⟨v, hv⟩ : ∃ v, fs[k0]? = some v := ⟨_, List.getElem?_eq_getElem (by omega)⟩
            obtain ⟨q', f1, f2⟩ := e3 k0 v hv
            rw [hseg] at f1
            cases f1
            refine row v hv (sx_outs hw h hr'.2 (sx_rd_ok hw h f2 a3 hw.1 (fun p hp => by cases hp) ?_ (fun x _ p hp => by cases hp)) k)
            intro σ' ρ' a' g1 g2 g3
            have hz := sx_zero hw h
            have g2' : sx_tv σ' (0, (k0 : Int)) = (k0 : Int) := by rw [g2]; show σ 0 + (k0 : Int) = _; omega
            refine ⟨ci, fs, ?_, ?_, ?_⟩
            · show sx_at ws (ρ' r) _
              rw [g1]
              exact ⟨q0, hq0⟩
            · show 0 ≤ sx_tv σ' (0, (k0 : Int))
              rw [g2']
              omega
            · show fs[(sx_tv σ' (0, (k0 : Int))).toNat]? = some (sx_val σ' ρ' a')
              rw [g2', g3, Int.toNat_natCast]
              exact hv
          · cases ho
      · cases ho
    · cases ho
  · cases ho
theorem sx_inb_ok (hw : sx_wf S) (hD : va_D A ws) (h : sx_sat PF τ S σ ρ φ ws) {G : sxG} {r : Nat} {t : sxT} {a b : Int} (hi : sx_iv S.1 t = some (a, b)) (hb : sx_inb S G r t a b = true) {cA : ClassId} {n : Nat} {d} (hat : sx_at ws (ρ r) (.inl (cA, n, d))) (hn : G.2.2.1 ≤ n) (hn2 : n ≤ 2147483647) : 0 ≤ sx_tv σ t ∧ (sx_tv σ t).toNat < n ∧ vp_in (Int32.ofInt (sx_tv σ t)) n ∧ (Int32.ofInt (sx_tv σ t)).toNatClampNeg = (sx_tv σ t).toNat ∧ a ≤ sx_tv σ t ∧ sx_tv σ t ≤ b := by
  unfold sx_inb at hb
  rw [Bool.and_eq_true, Bool.and_eq_true] at hb
  obtain ⟨⟨b1, b2⟩, b3⟩ := hb
  have b1 := sx_le_iff.mp b1
  obtain ⟨ex, i1, i2⟩ := sx_at32 (S := S) h.1 hi b2
  have lt : (sx_tv σ t).toNat < n := by
    rw [Bool.or_eq_true] at b3
    rcases b3 with b3 | b3
    · have := sx_le_iff.mp b3
      omega
    · split at b3
      · rename_i x hx
        have hmm := h.2.2.2.2.1 _ (sx_mget_mem hx)
        obtain ⟨cA', n', d', g1, g2⟩ := hmm
        have := sx_at_inj hD g1 hat
        cases this
        split at b3
        · rename_i w hw'
          rw [Bool.and_eq_true] at b3
          obtain ⟨ex', j1, j2⟩ := sx_at32 (S := S) h.1 (a := w.1) (b := w.2) hw' b3.1
          have g3 := sx_prove_ok h.1 h.2.2.1 b3.2
          rw [sx_dif_ev] at g3
          have g2 : Value.int (Int32.ofInt (σ x.1 + x.2)) = .int (Int32.ofNat n) := g2
          have g4 : Int32.ofInt (sx_tv σ x) = Int32.ofNat n := Value.int.inj g2
          have g5 : (Int32.ofNat n).toInt = n := nI_toInt (by omega)
          rw [g4, g5] at ex'
          omega
        · cases b3
      · cases b3
  have cl : (Int32.ofInt (sx_tv σ t)).toNatClampNeg = (sx_tv σ t).toNat := by
    show (Int32.ofInt (sx_tv σ t)).toInt.toNat = _
    rw [ex]
  refine ⟨by omega, lt, ?_, cl, i1, i2⟩
  rintro (q | q)
  · have := Int32.lt_iff_toInt_lt.mp q
    rw [ex] at this
    have e0 : (0 : Int32).toInt = 0 := rfl
    omega
  · rw [cl] at q
    omega
end SXH
