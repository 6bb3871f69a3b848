/-! a checker of walks: a step is right -/
def sx_lemok (PF : Nat → List Int → List (Nat → Int) → Prop) (L : sxS × sxS) : Prop := ∀ (σ : sxV) (φ : sxF), sx_dsat PF (fun _ => none) 0 0 L.1 σ (fun _ => 0) φ [] → ∃ σ' φ', (∀ i, i < L.1.1.length → σ' i = σ i) ∧ (∀ i, i < L.1.2.2.1 → φ' i = φ i) ∧ sx_dsat PF (fun _ => none) L.1.1.length 0 L.2 σ' (fun _ => 0) φ' []
def sx_mmw (own : String) (ix : Nat) (mx : Bool) : Prop := match mx with
  | true => Cond.methodLink own ix Lib.Math.max.name ∈ lwG ∧ Cond.static Lib.Math.max.name ∈ lwG ∧ Cond.initialized "java/lang/Math" ∈ lwG ∧ Cond.code Lib.Math.max.name Lib.Math.max.code 2 (some .int) ∈ lwG
  | false => Cond.methodLink own ix Lib.Math.min.name ∈ lwG ∧ Cond.static Lib.Math.min.name ∈ lwG ∧ Cond.initialized "java/lang/Math" ∈ lwG ∧ Cond.code Lib.Math.min.name Lib.Math.min.code 2 (some .int) ∈ lwG
/-- a method's tables are right -/
def sx_tab (RT : List sxG) (My : Nat → MethodName) (Mc : Nat → ByteArray) (ML : Nat → Nat) (Mr : Nat → Option FieldType) (FW : Nat → Prop) (own : String) (cc : ByteArray) (h : sxH) : Prop :=
  (∀ q ∈ h.1, decode cc q.1 = .ok q.2 ∧ (q.2.2 = sx_ilen q.2.1 ∨ (∃ d lo hi o, q.2.1 = .tableswitch d lo hi o) ∨ ∃ d o, q.2.1 = .lookupswitch d o)) ∧
  (∀ q ∈ h.2.1, FW q.2.1 ∧ ∃ v, vwCl[q.2.1]? = some v ∧ q.2.2 < v.2.2 ∧ Cond.fieldLink own q.1 (v.2.1 q.2.2).1 (v.2.1 q.2.2).2.1 (v.2.1 q.2.2).2.2.1 ∈ lwG) ∧
  (∀ q ∈ h.2.2.1, FW q.2.1 ∧ ∃ v, vwCl[q.2.1]? = some v ∧ q.2.2.1 < v.2.2 ∧ Cond.fieldLink own q.1 (v.2.1 q.2.2.1).1 (v.2.1 q.2.2.1).2.1 (v.2.1 q.2.2.1).2.2.1 ∈ lwG ∧ (v.2.1 q.2.2.1).2.2.2 = false ∧ ∃ ty, parseFieldDescriptor (v.2.1 q.2.2.1).2.2.1 = some ty ∧ sx_tcP q.2.2.2 ty) ∧
  (∀ q ∈ h.2.2.2.1, (q.2.1 < 4 → ML q.2.2.1 = q.2.2.2.2 / 64 ∧ sx_cl My Mc ML Mr own q.1 q.2.1 q.2.2.1 q.2.2.2.1 (q.2.2.2.2 % 64)) ∧ (q.2.1 = 9 → Cond.methodLink own q.1 arraycopyName ∈ lwG ∧ Cond.native arraycopyName ∈ lwG ∧ Cond.static arraycopyName ∈ lwG ∧ Cond.initialized "java/lang/System" ∈ lwG) ∧ (q.2.1 = 7 → sx_mmw own q.1 true) ∧ (q.2.1 = 8 → sx_mmw own q.1 false)) ∧
  (∀ q ∈ h.2.2.2.2.1.1, Cond.constant own q.1 (Int32.ofInt q.2) ∈ lwG) ∧ (∀ q ∈ h.2.2.2.2.1.2.1, Cond.constantLong own q.1 (Int64.ofInt q.2) ∈ lwG)
/-- where a method is walked -/
def sx_cx (PF : Nat → List Int → List (Nat → Int) → Prop) (RT : List sxG) (TK : (Nat → Option Nat) → va_W → State → Prop) (My : Nat → MethodName) (Mc : Nat → ByteArray) (ML : Nat → Nat) (Mr : Nat → Option FieldType) (FW : Nat → Prop) (CT : List sxI) (LT : List (sxS × sxS)) (h : sxH) (l : Launch) (p : Program) (R : Room) (s : State) (m : MethodId) (args : Array Value) (c : Code) (cc : ByteArray) (own : String) (dC : Nat → ClassId) (dI : Nat → Nat → Nat) (kA : Nat → ClassId) (A : Nat → Prop) (τ : Nat → Option Nat) (H0 : Heap) : Prop :=
  (p.tables.exec = Jvm.exec ∧ c.code = cc ∧ c.maxLocals = h.2.2.2.2.2.1.1 ∧ s.vm.findClass own = some m.cls ∧ (∀ w ∈ lwG, w.before args s = true) ∧ va_K (dC, dI) vwCl (tyL kA) s ∧ nwK s) ∧
  (sx_TKok TK ∧ (∀ ws H locs, va_D A ws → va_S A H0 H locs → ∀ U : State, U.heap = H → s.WarmedH U.vm → TK τ ws U) ∧ ∀ q, H0.size ≤ q → A q) ∧
  sx_tab RT My Mc ML Mr FW own cc h ∧ sx_Fw FW ∧ (∀ I ∈ CT, sx_met PF RT My Mc ML Mr TK l I) ∧ (∀ L ∈ LT, sx_lemok PF L) ∧ (R.frames = h.2.2.2.2.2.2.2.1 ∧ R.locals = h.2.2.2.2.2.2.2.2) ∧
  (∀ q ∈ h.2.2.2.2.1.2.2, ∃ a tx, vk_R own q.1 tx a s ∧ τ a = some (RT.length + q.2)) ∧ ∀ H locs, va_S A H0 H locs → ∀ a r, τ a = some r → RT.length ≤ r → ∃ cell : Cell, H[a]? = some cell ∧ cell.vm.isStatics = false ∧ s.vm.findClass "java/lang/String" = some cell.cls
/-- the heap as it stands -/
def sx_hp (RT : List sxG) (M : sxK) (dC : Nat → ClassId) (dI : Nat → Nat → Nat) (kA : Nat → ClassId) (A : Nat → Prop) (τ : Nat → Option Nat) (H0 : Heap) (w0 ws : va_W) (H : Heap) (locs : List Loc) : Prop := va_P (dC, dI) vwCl ws H ∧ va_D A ws ∧ va_S A H0 H locs ∧ sx_wt RT kA τ ws ∧ sx_un M τ w0 ws
def sx_wl (S : sxS) (loc : List (Nat × sxA)) (st : List sxA) : Prop := (∀ q ∈ loc, sx_wfA S.1.length S.2.1.length q.2) ∧ ∀ a ∈ st, sx_wfA S.1.length S.2.1.length a
section SXS
variable {PF : Nat → List Int → List (Nat → Int) → Prop} {RT : List sxG} {TK : (Nat → Option Nat) → va_W → State → Prop} {My : Nat → MethodName} {Mc : Nat → ByteArray} {ML : Nat → Nat} {Mr : Nat → Option FieldType} {FW : Nat → Prop} {CT : List sxI} {LT : List (sxS × sxS)} {h : sxH}
variable {τ : Nat → Option Nat} {S S' : sxS} {σ σ' : sxV} {ρ ρ' : sxR} {φ : sxF} {ws w0 : va_W}
variable {p : Program} {l : Launch} {e : Env} {R : Room} {s : State} {m : MethodId} {args : Array Value} {below : List Frame} {meth : Method} {c : Code} {H H0 : Heap} {locs : List Loc} {cells slots : Nat} {Q : State → Prop}
variable {cc : ByteArray} {pc : Nat} {ls : Array Slot} {i : Instr} {st : List sxA} {loc : List (Nat × sxA)} {dC : Nat → ClassId} {dI : Nat → Nat → Nat} {kA : Nat → ClassId} {A : Nat → Prop} {own : String}
theorem sx_loc_ext {n k : Nat} (h1 : ∀ i, i < n → σ' i = σ i) (h2 : ∀ i, i < k → ρ' i = ρ i) (hl : ∀ q ∈ loc, sx_wfA n k q.2) : sx_loc σ' ρ' loc = sx_loc σ ρ loc := List.map_congr_left fun q hq => by rw [sx_val_ext h1 h2 (hl q hq)]
theorem sx_wl_mono (h : sx_gwf S S') (hl : ∀ q ∈ loc, sx_wfA S.1.length S.2.1.length q.2) : ∀ q ∈ loc, sx_wfA S'.1.length S'.2.1.length q.2 := fun q hq => sx_wfA_mono h.2.1 h.2.2.1 (hl q hq)
theorem sx_ag_refl : sx_ag S σ σ ρ ρ φ φ := ⟨fun _ _ => rfl, fun _ _ => rfl, fun _ _ => rfl⟩
theorem sx_gwf_refl (hw : sx_wf S) : sx_gwf S S := ⟨hw, Nat.le_refl _, Nat.le_refl _, Nat.le_refl _⟩
theorem sx_catsum (σ : sxV) (ρ : sxR) : ∀ st : List sxA, ((st.map (sx_val σ ρ)).map fun v => v.category).sum = (st.map fun v => if Nat.beq v.1 1 then 2 else 1).sum
  | [] => rfl
  | a :: st => by
    have e1 : (sx_val σ ρ a).category = if Nat.beq a.1 1 then 2 else 1 := by
      cases hb : Nat.beq a.1 1 with
      | true => exact sx_cat2 hb
      | false => exact sx_cat1 hb
    show (sx_val σ ρ a).category + ((st.map (sx_val σ ρ)).map fun v => v.category).sum = (if Nat.beq a.1 1 then 2 else 1) + (st.map fun v => if Nat.beq v.1 1 then 2 else 1).sum
    rw [e1, sx_catsum σ ρ st]
theorem sx_forget_ok (hw : sx_wf S) (hwd : va_D A ws) (hs : sx_sat PF τ S σ ρ φ ws) {K : sxK} {w1 : va_W} (hu : sx_un K τ ws w1) : sx_gwf S (sx_forget S K) ∧ sx_sat PF τ (sx_forget S K) σ ρ φ w1 := by
  obtain ⟨w0, w00, w1', w2', w3', w4'⟩ := hw
  refine ⟨⟨⟨w0, w00, w1', w2', fun x hx => w3' x (List.mem_filter.mp hx).1, fun x hx => w4' x (List.mem_filter.mp hx).1⟩, Nat.le_refl _, Nat.le_refl _, Nat.le_refl _⟩, hs.1, hs.2.1, hs.2.2.1, hs.2.2.2.1, fun x hx => ?_, fun x hx => ?_⟩
  · have hf := List.mem_filter.mp hx
    exact sx_keep_ok hwd hs hu (hs.2.2.2.2.1 x hf.1) hf.2
  · have hf := List.mem_filter.mp hx
    exact sx_keepc_ok hs hu (hs.2.2.2.2.2 x hf.1) hf.2
theorem sx_mm_ok (hx : p.tables.exec = Jvm.exec) (hb : c.code = cc) (hml : c.maxLocals = ls.size) (hown : s.vm.findClass own = some m.cls) (hts : ∀ w ∈ lwG, w.before args s = true) {ix : Nat} {mx : Bool} (hl : sx_mmw own ix mx) (hR : 1 ≤ R.frames) {lo : Nat} (hlo : lo ≤ R.locals) (hcs : cells ≤ R.cells ∧ slots ≤ R.slots)
    (hw : sx_wf S) (hr : ∀ a ∈ st, sx_wfA S.1.length S.2.1.length a) (h : sx_sat PF τ S σ ρ φ ws) (hdg : decode cc pc = .ok (.invokestatic ix, 3)) {O : List (sxS × List sxA)} (ho : sx_mm lo mx S st = some O)
    (k : ∀ o ∈ O, sx_more PF τ S o.1 σ ρ φ ws → (∀ a ∈ o.2, sx_wfA S.1.length S.2.1.length a) → W p l e R s m args below meth c H locs cells slots Q (F0 m (pc + 3) ls (o.2.map (sx_val σ ρ)))) : W p l e R s m args below meth c H locs cells slots Q (F0 m pc ls (st.map (sx_val σ ρ))) := by
  unfold sx_mm at ho
  split at ho
  · rename_i y x r
    have hr0 := sx_wft hr
    have hr1 := sx_wft hr0.2
    split at ho
    · rename_i w v hv hv2
      split at ho
      · rename_i hc
        rw [Bool.and_eq_true, Bool.and_eq_true] at hc
        cases ho
        obtain ⟨ex, b1, b2⟩ := sx_at32 (S := S) h.1 (a := w.1) (b := w.2) hv hc.1.1
        obtain ⟨ey, b3, b4⟩ := sx_at32 (S := S) h.1 (a := v.1) (b := v.2) hv2 hc.1.2
        have hroom : ((r.map (sx_val σ ρ)).map fun v => v.category).sum + 13 ≤ R.locals := by
          rw [sx_catsum]
          exact Nat.le_trans (Nat.le_of_ble_eq_true hc.2) hlo
        obtain ⟨q1, q2, q3⟩ := sx_i32eq ex ey
        obtain ⟨-, q5, -⟩ := sx_i32eq ey ex
        have kl : sx_tv σ x < sx_tv σ y → W p l e R s m args below meth c H locs cells slots Q (F0 m (pc + 3) ls (sx_val σ ρ (0, if mx then y else x) :: r.map (sx_val σ ρ))) := fun hh => by
          obtain ⟨S1, e1, m1⟩ := sx_brf_ok (c := .lt) hw h (sx_iv_lt hv) (sx_iv_lt hv2) hh
          refine k (S1, (0, if mx then y else x) :: r) (List.mem_append_left _ (by rw [e1]; exact List.mem_singleton.mpr rfl)) m1 (fun a ha => ?_)
          rcases List.mem_cons.mp ha with rfl | ha
          · cases mx
            · exact hr (0, x) (List.mem_cons_of_mem _ List.mem_cons_self)
            · exact hr (0, y) List.mem_cons_self
          · exact hr1.2 a ha
        have kg : sx_tv σ y ≤ sx_tv σ x → W p l e R s m args below meth c H locs cells slots Q (F0 m (pc + 3) ls (sx_val σ ρ (0, if mx then x else y) :: r.map (sx_val σ ρ))) := fun hh => by
          obtain ⟨S1, e1, m1⟩ := sx_brf_ok (c := .ge) hw h (sx_iv_lt hv) (sx_iv_lt hv2) hh
          refine k (S1, (0, if mx then x else y) :: r) (List.mem_append_right _ (by rw [e1]; exact List.mem_singleton.mpr rfl)) m1 (fun a ha => ?_)
          rcases List.mem_cons.mp ha with rfl | ha
          · cases mx
            · exact hr (0, y) List.mem_cons_self
            · exact hr (0, x) (List.mem_cons_of_mem _ List.mem_cons_self)
          · exact hr1.2 a ha
        cases mx with
        | true =>
          obtain ⟨c1, c2, c3, c4⟩ := hl
          refine va_mmax (x := Int32.ofInt (sx_tv σ x)) (y := Int32.ofInt (sx_tv σ y)) hx hb hml hown (hts _ c1) (hts _ c2) (hts _ c3) (hts _ c4) hR hroom hcs.1 hcs.2 hdg ?_
          by_cases hlt : Int32.ofInt (sx_tv σ x) < Int32.ofInt (sx_tv σ y)
          · rw [if_pos hlt]
            exact kl (q2.mp hlt)
          · rw [if_neg hlt]
            exact kg (by have := mt q2.mpr hlt; omega)
        | false =>
          obtain ⟨c1, c2, c3, c4⟩ := hl
          refine va_mmin (x := Int32.ofInt (sx_tv σ x)) (y := Int32.ofInt (sx_tv σ y)) hx hb hml hown (hts _ c1) (hts _ c2) (hts _ c3) (hts _ c4) hR hroom hcs.1 hcs.2 hdg ?_
          by_cases hlt : Int32.ofInt (sx_tv σ y) < Int32.ofInt (sx_tv σ x)
          · rw [if_pos hlt]
            exact kg (Int.le_of_lt (q5.mp hlt))
          · rw [if_neg hlt]
            by_cases hl2 : sx_tv σ x < sx_tv σ y
            · exact kl hl2
            · have e9 : sx_tv σ x = sx_tv σ y := by have := mt q5.mpr hlt; omega
              rw [e9]
              exact kg (Int.le_of_eq e9.symm)
      · cases ho
    · cases ho
  · cases ho
theorem sx_acp_ok (hx : p.tables.exec = Jvm.exec) (hb : c.code = cc) (hml : c.maxLocals = ls.size) (hown : s.vm.findClass own = some m.cls) (hts : ∀ w ∈ lwG, w.before args s = true) (hK : va_K (dC, dI) vwCl (tyL kA) s) (hP : va_P (dC, dI) vwCl ws H) (hD : va_D A ws) (hS : va_S A H0 H locs) (hT : sx_wt RT kA τ ws) {ix : Nat} (hl : Cond.methodLink own ix arraycopyName ∈ lwG ∧ Cond.native arraycopyName ∈ lwG ∧ Cond.static arraycopyName ∈ lwG ∧ Cond.initialized "java/lang/System" ∈ lwG) (hR : 1 ≤ R.frames) {lo : Nat} (hlo : lo ≤ R.locals)
    (hw : sx_wf S) (hr : ∀ a ∈ st, sx_wfA S.1.length S.2.1.length a) (hs : sx_sat PF τ S σ ρ φ ws) (hdg : decode cc pc = .ok (.invokestatic ix, 3)) {M : sxK} {st' : List sxA} (ho : sx_acp RT M lo S st = some (S', st'))
    (k : ∀ ws' H' locs', va_P (dC, dI) vwCl ws' H' → va_D A ws' → va_S A H0 H' locs' → sx_wt RT kA τ ws' → sx_un M τ ws ws' → sx_gwf S S' → (∀ a ∈ st', sx_wfA S.1.length S.2.1.length a) → sx_sat PF τ S' σ ρ φ ws' → W p l e R s m args below meth c H' locs' cells slots Q (F0 m (pc + 3) ls (st'.map (sx_val σ ρ)))) : W p l e R s m args below meth c H locs cells slots Q (F0 m pc ls (st.map (sx_val σ ρ))) := by
  unfold sx_acp at ho
  split at ho
  · rename_i n dp r1 z1 sp r0 z0 rest
    split at ho
    · rename_i R0 R1 hR0 hR1
      split at ho
      · rename_i G0 G1 hG0 hG1
        split at ho
        · rename_i q hq
          split at ho
          · rename_i hc
            cases ho
            simp only [Bool.and_eq_true] at hc
            obtain ⟨⟨⟨⟨⟨⟨⟨⟨⟨⟨⟨⟨⟨⟨⟨⟨⟨⟨c1, c2⟩, c3⟩, c4⟩, c5⟩, c6⟩, c7⟩, c8⟩, c9⟩, c10⟩, c11⟩, c12⟩, c13⟩, c14⟩, c15⟩, c16⟩, c17⟩, c18⟩, c19⟩ := hc
            have c1 := Nat.eq_of_beq_eq_true c1
            have c2 := Nat.eq_of_beq_eq_true c2
            have c3 := Nat.eq_of_beq_eq_true c3
            have c4 := sx_le_iff.mp c4
            have c5 := sx_le_iff.mp c5
            have c6 := sx_le_iff.mp c6
            have c7 := sx_le_iff.mp c7
            have c8 := sx_le_iff.mp c8
            have c9 := sx_le_iff.mp c9
            have c10 := Nat.eq_of_beq_eq_true c10
            have c11 := Nat.eq_of_beq_eq_true c11
            have c12 := Nat.eq_of_beq_eq_true c12
            have c13 := Nat.eq_of_beq_eq_true c13
            have c14 := sx_le_iff.mp c14
            have c15 := sx_le_iff.mp c15
            have c16 := Nat.eq_of_beq_eq_true c16
            have c19 := Nat.le_of_ble_eq_true c19
            have hz := sx_zero hw hs
            have en : sx_tv σ n = n.2 := by unfold sx_tv; rw [c1, hz]; omega
            have ed : sx_tv σ dp = 0 := by unfold sx_tv; rw [c2, hz]; omega
            have es : sx_tv σ sp = 0 := by unfold sx_tv; rw [c3, hz]; omega
            have hreg0 : sx_reg RT S r0 = some G0 := by unfold sx_reg; rw [hR0]; exact hG0
            have hreg1 : sx_reg RT S r1 = some G1 := by unfold sx_reg; rw [hR1]; exact hG1
            obtain ⟨e0, a1, a2, a3⟩ := sx_reg_ok hs hT hreg0
            obtain ⟨e1, b1, b2, b3⟩ := sx_reg_ok hs hT hreg1
            unfold sx_eok at a2 b2
            rw [c10] at a2
            rw [c11] at b2
            obtain ⟨n0, d0, rfl, n1, n2, hdk0, hel0⟩ := a2
            obtain ⟨m0, d1, rfl, m1, m2, hdk1, hel1⟩ := b2
            rw [c12] at hdk0 a1
            rw [c13] at hdk1 b1
            obtain ⟨f, rfl⟩ := hdk0
            obtain ⟨g, rfl⟩ := hdk1
            obtain ⟨q0, hq0⟩ := a1
            obtain ⟨q1, hq1⟩ := b1
            have t0 : (Int32.ofInt 0).toNatClampNeg = 0 := rfl
            have nn : (Int32.ofInt n.2).toInt = n.2 := t_of32 (by omega) (by omega)
            have tn : (Int32.ofInt n.2).toNatClampNeg = n.2.toNat := by show (Int32.ofInt n.2).toInt.toNat = _; rw [nn]
            have z0' : ¬ Int32.ofInt 0 < 0 := by decide
            have zn : ¬ Int32.ofInt n.2 < 0 := fun hh => by
              have := Int32.lt_iff_toInt_lt.mp hh
              rw [nn] at this
              have e00 : (0 : Int32).toInt = 0 := rfl
              omega
            have hr5 := sx_wft (sx_wft (sx_wft (sx_wft (sx_wft hr).2).2).2).2
            have goal : W p l e R s m args below meth c H locs cells slots Q (F0 m pc ls (.int (Int32.ofInt n.2) :: .int (Int32.ofInt 0) :: .ref (ρ r1) :: .int (Int32.ofInt 0) :: .ref (ρ r0) :: st'.map (sx_val σ ρ))) := by
              refine va_copyi (D := (dC, dI)) (ty := .int) hx hb hml hown (hts _ hl.1) (hts _ hl.2.1) (hts _ hl.2.2.1) (hts _ hl.2.2.2) hK hP hD hS q0 q1 0 0 hq0 hq1 rfl rfl rfl z0' z0' zn (by rw [t0, tn]; omega) (by rw [t0, tn]; omega) (fun _ _ => rfl) hR ?_ hdg (fun H1 locs1 p1 p2 p3 => ?_)
              · rw [sx_catsum]
                omega
              · rw [t0, tn] at p1 p2
                have hτ1 := hs.2.1 r1 R1 hR1
                have hlt : R1 < RT.length := (List.getElem?_eq_some_iff.mp hG1).1
                have hin : ∀ j : Nat, j < n.2.toNat → sx_inM M R1 j := fun j hj => sx_mods_ok c18 (by omega) (by omega)
                have hlike : ∀ K : sxK, (∀ j, j < n.2.toNat → sx_inM K R1 j) → sx_like K R1 (.inl (kA 0, m0, .inl g)) (.inl (kA 0, m0, .inl (va_cpy f g 0 0 n.2.toNat))) := fun K hKK => by
                  refine ⟨rfl, rfl, fun j hj hnj => ?_⟩
                  have hout : va_cpy f g 0 0 n.2.toNat j = g j := pk_cpy_out (Or.inr (by
                    rcases Nat.lt_or_ge j n.2.toNat with z | z
                    · exact absurd (hKK j z) hnj
                    · omega))
                  exact ⟨by show Value.int _ = Value.int _; rw [hout], by show (va_cpy f g 0 0 n.2.toNat j).toInt = _; rw [hout]; rfl⟩
                have hfg := sx_forget_ok (K := [(R1, 0, n.2.toNat)]) hw hD hs (sx_un_set hD hq1 hτ1 (hlike _ (fun j hj => ⟨_, List.mem_singleton.mpr rfl, rfl, Nat.zero_le _, hj⟩)))
                refine k _ H1 locs1 p1 p2 p3 (sx_wt_set hT hq1 ?_) (sx_un_set hD hq1 hτ1 (hlike M hin)) hfg.1 hr5.2 hfg.2
                intro r' G' hr' hG'
                rw [hτ1] at hr'
                cases hr'
                rw [hG1] at hG'
                cases hG'
                unfold sx_eok
                rw [c11]
                refine ⟨m0, .inl (va_cpy f g 0 0 n.2.toNat), by rw [c13], m1, m2, by rw [c13]; exact ⟨_, rfl⟩, fun j hj => ?_⟩
                obtain ⟨q', g1, g2⟩ := hel1 j hj
                refine ⟨q', g1, ?_⟩
                rcases Nat.lt_or_ge j n.2.toNat with z | z
                · have hcp : va_cpy f g 0 0 n.2.toNat j = f j := sb_cpy0 z
                  have hsg := sx_segall_ok (j := j) (by omega) (by omega) c17 q' g1
                  simp only [Bool.and_eq_true] at hsg
                  have s1 := Nat.eq_of_beq_eq_true hsg.1.1
                  have s2 := sx_le_iff.mp hsg.1.2
                  have s3 := sx_le_iff.mp hsg.2
                  obtain ⟨q'', g3, g4⟩ := hel0 j (by omega)
                  have g5 := sx_hull_ok (τ := τ) (j := j) (by omega) (by omega) hq q'' g3 _ g4
                  obtain ⟨qa, qb, qc⟩ := q
                  obtain ⟨qa', qb', qc'⟩ := q'
                  dsimp only at c16 s1 s2 s3
                  subst c16 s1
                  obtain ⟨x, x1, x2, x3⟩ := g5
                  have x1 : Value.int (f j) = .int x := x1
                  refine ⟨x, ?_, Int.le_trans s2 x2, Int.le_trans x3 s3⟩
                  show Value.int (va_cpy f g 0 0 n.2.toNat j) = _
                  rw [hcp, x1]
                · have hout : va_cpy f g 0 0 n.2.toNat j = g j := pk_cpy_out (Or.inr (by omega))
                  have : sx_el (.inl (va_cpy f g 0 0 n.2.toNat)) j = sx_el (.inl g) j := by
                    show Value.int _ = Value.int _
                    rw [hout]
                  rw [this]
                  exact g2
            have e1 : ((0, n) :: (0, dp) :: (2, r1, z1) :: (0, sp) :: (2, r0, z0) :: st' : List sxA).map (sx_val σ ρ) = .int (Int32.ofInt n.2) :: .int (Int32.ofInt 0) :: .ref (ρ r1) :: .int (Int32.ofInt 0) :: .ref (ρ r0) :: st'.map (sx_val σ ρ) := by
              show Value.int (Int32.ofInt (sx_tv σ n)) :: Value.int (Int32.ofInt (sx_tv σ dp)) :: Value.ref (ρ r1) :: Value.int (Int32.ofInt (sx_tv σ sp)) :: Value.ref (ρ r0) :: _ = _
              rw [en, ed, es]
            rw [e1]
            exact goal
          · cases ho
        · cases ho
      · cases ho
    · cases ho
  · cases ho
end SXS
