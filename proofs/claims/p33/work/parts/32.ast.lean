/-! a checker of walks: a place of an array is written -/
def sx_sty (S : sxS) (i : Instr) (t : Nat) (v : sxA) : Bool := match i, v.1 with
  | .iastore, 0 => Nat.beq t 0
  | .bastore, 0 => (match sx_iv S.1 v.2 with
    | some w => (Nat.beq t 1 && sx_le (-128) w.1 && sx_le w.2 127) || (Nat.beq t 3 && sx_le 0 w.1 && sx_le w.2 1)
    | none => false)
  | .lastore, 1 => Nat.beq t 2
  | _, _ => false
def sx_n64 (S : sxS) (v : sxA) : Bool := match sx_iv S.1 v.2 with
  | some w => if Nat.beq v.1 0 then sx_in32 w.1 w.2 else sx_in64 w.1 w.2
  | none => false
def sx_cup (S : sxS) (R r : Nat) (t vt : sxT) (a b : Int) : Nat → List sxC → List sxC × List sxP × Nat
  | nc, [] => ([], [], nc)
  | nc, c :: l => if sx_regne S R c.1 || sx_le (b + 1) (c.2.1.1 : Int) || sx_le (c.2.1.2 : Int) a then
      (match sx_cup S R r t vt a b nc l with
      | o => (c :: o.1, o.2.1, o.2.2))
    else if Nat.beq c.1 r then
      (match sx_cup S R r t vt a b (nc + 1) l with
      | o => ((c.1, c.2.1, nc) :: o.1, (6, [t, vt], [c.2.2, nc]) :: o.2.1, o.2.2))
    else sx_cup S R r t vt a b nc l
def sx_segall (f : sxQ → Bool) : List (Nat × sxQ) → Int → Int → Bool
  | [], _, _ => true
  | q :: l, a, b => if sx_le (q.1 : Int) a then sx_segall f l a b else if sx_le (q.1 : Int) b then f q.2 && sx_segall f l a b else f q.2
theorem sx_segall_ok {f : sxQ → Bool} {a b : Int} {j : Nat} (h1 : a ≤ j) (h2 : (j : Int) ≤ b) : ∀ {l : List (Nat × sxQ)}, sx_segall f l a b = true → ∀ q, sx_seg l j = some q → f q = true
  | x :: l, h, q, hq => by
    unfold sx_segall at h
    unfold sx_seg at hq
    split at h
    · rename_i hc
      have hc := sx_le_iff.mp hc
      rw [if_neg (fun z => by have := sx_blt z; omega)] at hq
      exact sx_segall_ok h1 h2 h q hq
    · split at h
      · rw [Bool.and_eq_true] at h
        split at hq
        · cases hq
          exact h.1
        · exact sx_segall_ok h1 h2 h.2 q hq
      · rename_i hc
        have hc := sx_le_not (sx_bf hc)
        have hb : j.blt x.1 = true := Nat.ble_eq_true_of_le (by omega)
        rw [if_pos hb] at hq
        cases hq
        exact h
def sx_apart (S : sxS) (t t' : sxT) : Bool := sx_prove S.1 S.2.2.2.1 (sx_dif t t' (-1)) || sx_prove S.1 S.2.2.2.1 (sx_dif t' t (-1))
def sx_seta (S : sxS) (R r : Nat) (t : sxT) (v : sxA) (a b : Int) : sxS := match sx_cup S R r t v.2 a b S.2.2.1 S.2.2.2.2.2.2 with
  | o => (S.1, S.2.1, o.2.2, S.2.2.2.1, o.2.1 ++ S.2.2.2.2.1, ((1, r), t, v) :: S.2.2.2.2.2.1.filter (fun m => sx_regne S R m.1.2 || (!(Nat.beq m.1.1 0) && (!(Nat.beq m.1.1 1) || sx_apart S t m.2.1))), o.1)
def sx_ast (RT : List sxG) (M : sxK) (i : Instr) (S : sxS) (st : List sxA) : Option (sxS × List sxA) := match st with
  | v :: (0, t) :: (2, r, _) :: rest => match S.2.1[r]?, sx_iv S.1 t with
    | some R, some w => (match RT[R]? with
      | some G => if Nat.beq G.1 1 && sx_sty S i G.2.1 v && Nat.ble G.2.2.2.1 2147483647 && sx_inb S G r t w.1 w.2 && sx_mods M R w.1 w.2 && sx_segall (sx_vok S v) G.2.2.2.2 w.1 w.2 && sx_n64 S v then some (sx_seta S R r t v w.1 w.2, rest) else none
      | none => none)
    | _, _ => none
  | _ => none
section SXH
variable {PF : Nat → List Int → List (Nat → Int) → Prop} {RT : List sxG} {τ : Nat → Option Nat} {S S' : sxS} {σ : sxV} {ρ : sxR} {φ : sxF} {ws ws' : va_W}
variable {p : Program} {l : Launch} {e : Env} {R : Room} {s : State} {m : MethodId} {args : Array Value} {below : List Frame} {meth : Method} {c : Code} {H H0 : Heap} {locs : List Loc} {cells slots : Nat} {Q : State → Prop}
variable {cc : ByteArray} {pc : Nat} {ls : Array Slot} {i : Instr} {st st' : List sxA} {dC : Nat → ClassId} {dI : Nat → Nat → Nat} {kA : Nat → ClassId} {A : Nat → Prop} {own : String} {M : sxK} {rest : List Value}
/-- what a store does to an array's places -/
def sx_dup (d d' : (Nat → Int32) ⊕ (Nat → Int64) ⊕ (Nat → UInt32) ⊕ (Nat → UInt64) ⊕ (Nat → Option Nat)) (j : Nat) (v : Value) (x : Int) : Prop := (∀ k, k ≠ j → sx_el d' k = sx_el d k ∧ sx_num d' k = sx_num d k) ∧ sx_el d' j = v ∧ sx_num d' j = x
theorem sx_bytev {x : Int} (h1 : -128 ≤ x) (h2 : x ≤ 127) : vp_nar .byte (Int32.ofInt x) = Int32.ofInt x := by
  rw [vp_nar_byte]
  apply Int32.toInt_inj.mp
  rw [Int8.toInt_toInt32, Int32.toInt_toInt8, t_of32 (by omega) (by omega), Int.bmod_eq_of_le (by omega) (by omega)]
theorem sx_updi {f : Nat → Int32} {j : Nat} {x : Int} (h1 : -2147483648 ≤ x) (h2 : x ≤ 2147483647) : sx_dup (.inl f) (.inl (upd f j (Int32.ofInt x))) j (.int (Int32.ofInt x)) x := by
  refine ⟨fun k hk => ⟨?_, ?_⟩, ?_, ?_⟩
  · show Value.int (upd f j (Int32.ofInt x) k) = .int (f k)
    rw [pk_un hk]
  · show (upd f j (Int32.ofInt x) k).toInt = (f k).toInt
    rw [pk_un hk]
  · show Value.int (upd f j (Int32.ofInt x) j) = _
    rw [pk_us]
  · show (upd f j (Int32.ofInt x) j).toInt = _
    rw [pk_us, t_of32 h1 h2]
theorem sx_updl {f : Nat → Int64} {j : Nat} {x : Int} (h1 : -9223372036854775808 ≤ x) (h2 : x ≤ 9223372036854775807) : sx_dup (.inr (.inl f)) (.inr (.inl (vp_updL f j (Int64.ofInt x)))) j (.long (Int64.ofInt x)) x := by
  refine ⟨fun k hk => ⟨?_, ?_⟩, ?_, ?_⟩
  · show Value.long (vp_updL f j (Int64.ofInt x) k) = .long (f k)
    rw [pk_uLn hk]
  · show (vp_updL f j (Int64.ofInt x) k).toInt = (f k).toInt
    rw [pk_uLn hk]
  · show Value.long (vp_updL f j (Int64.ofInt x) j) = _
    rw [pk_uLs]
  · show (vp_updL f j (Int64.ofInt x) j).toInt = _
    rw [pk_uLs, t_of64 h1 h2]
theorem sx_rows (hx : p.tables.exec = Jvm.exec) (hb : c.code = cc) (hK : va_K (dC, dI) vwCl (tyL kA) s) (hP : va_P (dC, dI) vwCl ws H) (hD : va_D A ws) (hS : va_S A H0 H locs) (h : sx_sat PF τ S σ ρ φ ws) {a t n q0 : Nat} {d} {v : sxA} (hty : sx_sty S i t v = true) (hn : sx_n64 S v = true) (hdk : sx_dk t d) (ha : ws[q0]? = some (a, .inl (kA t, n, d))) {x : Int32} (hin : vp_in x n) (hdg : decode cc pc = .ok (i, sx_ilen i))
    (kk : ∀ d', sx_dk t d' → sx_dup d d' x.toNatClampNeg (sx_val σ ρ v) (sx_tv σ v.2) → ∀ (H1 : Heap) (locs1 : List Loc), va_P (dC, dI) vwCl (ws.set q0 (a, .inl (kA t, n, d'))) H1 → va_D A (ws.set q0 (a, .inl (kA t, n, d'))) → va_S A H0 H1 locs1 → W p l e R s m args below meth c H1 locs1 cells slots Q (F0 m (pc + sx_ilen i) ls rest)) : W p l e R s m args below meth c H locs cells slots Q (F0 m pc ls (sx_val σ ρ v :: .int x :: .ref a :: rest)) := by
  obtain ⟨tv, v⟩ := v
  unfold sx_n64 at hn
  split at hn
  · rename_i w hw
    unfold sx_sty at hty
    split at hty
    · rename_i e2
      dsimp only at e2
      subst e2
      have ht : t = 0 := Nat.eq_of_beq_eq_true hty
      subst ht
      obtain ⟨f, rfl⟩ := hdk
      have hw : sx_iv S.1 v = some w := hw
      have hn : sx_in32 w.1 w.2 = true := hn
      obtain ⟨ex, b1, b2⟩ := sx_at32 (S := S) h.1 (a := w.1) (b := w.2) hw hn
      have b3 := sx_in32_ok hn
      refine va_iast (D := (dC, dI)) (x := Int32.ofInt (sx_tv σ v)) hx hb hK hP hD hS q0 0 ha rfl hin hdg (fun H1 locs1 p1 p2 p3 => ?_)
      exact kk _ ⟨_, rfl⟩ (sx_updi (x := sx_tv σ v) (by omega) (by omega)) H1 locs1 p1 p2 p3
    · rename_i e2
      dsimp only at e2
      subst e2
      have hw : sx_iv S.1 v = some w := hw
      have hn : sx_in32 w.1 w.2 = true := hn
      dsimp only at hty
      rw [hw] at hty
      obtain ⟨ex, b1, b2⟩ := sx_at32 (S := S) h.1 (a := w.1) (b := w.2) hw hn
      have b3 := sx_in32_ok hn
      dsimp only at hty
      rw [Bool.or_eq_true, Bool.and_eq_true, Bool.and_eq_true, Bool.and_eq_true, Bool.and_eq_true] at hty
      rcases hty with ⟨⟨ht, c1⟩, c2⟩ | ⟨⟨ht, c1⟩, c2⟩
      · have ht : t = 1 := Nat.eq_of_beq_eq_true ht
        subst ht
        obtain ⟨f, rfl⟩ := hdk
        have c1 := sx_le_iff.mp c1
        have c2 := sx_le_iff.mp c2
        refine va_bast (D := (dC, dI)) (x := Int32.ofInt (sx_tv σ v)) hx hb hK hP hD hS q0 1 ha rfl hin hdg (fun H1 locs1 p1 p2 p3 => ?_)
        rw [sx_bytev (by omega) (by omega)] at p1 p2
        exact kk _ ⟨_, rfl⟩ (sx_updi (x := sx_tv σ v) (by omega) (by omega)) H1 locs1 p1 p2 p3
      · have ht : t = 3 := Nat.eq_of_beq_eq_true ht
        subst ht
        obtain ⟨f, rfl⟩ := hdk
        have c1 := sx_le_iff.mp c1
        have c2 := sx_le_iff.mp c2
        refine va_zast (D := (dC, dI)) (x := Int32.ofInt (sx_tv σ v)) hx hb hK hP hD hS q0 3 ha rfl hin hdg (fun H1 locs1 p1 p2 p3 => ?_)
        rw [(sx_bool (x := sx_tv σ v) (by omega) (by omega)).2.2] at p1 p2
        exact kk _ ⟨_, rfl⟩ (sx_updi (x := sx_tv σ v) (by omega) (by omega)) H1 locs1 p1 p2 p3
    · rename_i e2
      dsimp only at e2
      subst e2
      have ht : t = 2 := Nat.eq_of_beq_eq_true hty
      subst ht
      obtain ⟨f, rfl⟩ := hdk
      have hw : sx_iv S.1 v = some w := hw
      have hn : sx_in64 w.1 w.2 = true := hn
      obtain ⟨ex, b1, b2⟩ := sx_at64 (S := S) h.1 (a := w.1) (b := w.2) hw hn
      have b3 := sx_in64_ok hn
      refine va_last (D := (dC, dI)) (x := Int64.ofInt (sx_tv σ v)) hx hb hK hP hD hS q0 2 ha rfl hin hdg (fun H1 locs1 p1 p2 p3 => ?_)
      exact kk _ ⟨_, rfl⟩ (sx_updl (x := sx_tv σ v) (by omega) (by omega)) H1 locs1 p1 p2 p3
    · cases hty
  · cases hn
def sx_upf (φ : sxF) (n : Nat) (f : Nat → Int) : sxF := fun i => if i = n then f else φ i
theorem sx_cup_ok (h : sx_sat PF τ S σ ρ φ ws) {Rg r : Nat} (hR : S.2.1[r]? = some Rg) {t vt : sxT} {a b : Int} {q0 n : Nat} {cA : ClassId} {d d'} (hD : va_D A ws) (hq0 : ws[q0]? = some (ρ r, .inl (cA, n, d))) {j : Nat} (hj : (sx_tv σ t).toNat = j) (hj0 : 0 ≤ sx_tv σ t) (h1 : a ≤ sx_tv σ t) (h2 : sx_tv σ t ≤ b) {v : Value} (hd : sx_dup d d' j v (sx_tv σ vt)) (ht : t.1 < S.1.length) (hv : vt.1 < S.1.length) :
    ∀ (l : List sxC) (nc : Nat) (φ1 : sxF), (∀ x ∈ l, sx_wfC S.2.1.length nc x) → (∀ x ∈ l, sx_cok ρ φ1 ws x) → ∃ φ', (∀ i, i < nc → φ' i = φ1 i) ∧ nc ≤ (sx_cup S Rg r t vt a b nc l).2.2 ∧ (∀ x ∈ (sx_cup S Rg r t vt a b nc l).1, sx_wfC S.2.1.length (sx_cup S Rg r t vt a b nc l).2.2 x ∧ sx_cok ρ φ' (ws.set q0 (ρ r, .inl (cA, n, d'))) x) ∧ ∀ p ∈ (sx_cup S Rg r t vt a b nc l).2.1, sx_wfP S.1.length (sx_cup S Rg r t vt a b nc l).2.2 p ∧ sx_pok PF σ φ' p
  | [], nc, φ1, _, _ => ⟨φ1, fun _ _ => rfl, Nat.le_refl _, fun x hx => (by cases hx), fun p hp => (by cases hp)⟩
  | x :: l, nc, φ1, hwf, hok => by
    unfold sx_cup
    split
    · rename_i hc
      obtain ⟨φ', f1, f2, f3, f4⟩ := sx_cup_ok h hR hD hq0 hj hj0 h1 h2 hd ht hv l nc φ1 (fun y hy => hwf y (List.mem_cons_of_mem _ hy)) (fun y hy => hok y (List.mem_cons_of_mem _ hy))
      refine ⟨φ', f1, f2, fun y hy => ?_, f4⟩
      rcases List.mem_cons.mp hy with rfl | hy
      · refine ⟨sx_wfC_mono (Nat.le_refl _) f2 (hwf _ List.mem_cons_self), ?_⟩
        have hx := hok y List.mem_cons_self
        have hx : sx_cok ρ φ' ws y := by
          obtain ⟨cA', n', d'', g1, g2⟩ := hx
          exact ⟨cA', n', d'', g1, by rw [f1 _ (hwf _ List.mem_cons_self).2]; exact g2⟩
        by_cases hne : ρ y.1 = ρ r
        · obtain ⟨cA', n', d'', g1, g2⟩ := hx
          rw [hne] at g1
          have := sx_at_inj hD g1 ⟨q0, hq0⟩
          cases this
          refine ⟨cA, n, d', by rw [hne]; exact sx_at_set hq0, fun k k1 k2 k3 => ?_⟩
          have hkj : k ≠ j := by
            intro hkj
            subst hkj
            rw [Bool.or_eq_true, Bool.or_eq_true] at hc
            rcases hc with (hc | hc) | hc
            · exact sx_regne_ok h hR hc hne
            · have := sx_le_iff.mp hc
              omega
            · have := sx_le_iff.mp hc
              omega
          rw [(hd.1 k hkj).2]
          exact g2 k k1 k2 k3
        · exact sx_cok_ne hq0 hne hx
      · exact f3 y hy
    · split
      · rename_i hr
        have hr : x.1 = r := Nat.eq_of_beq_eq_true hr
        have wx := hwf x List.mem_cons_self
        have hx := hok x List.mem_cons_self
        obtain ⟨φ', f1, f2, f3, f4⟩ := sx_cup_ok h hR hD hq0 hj hj0 h1 h2 hd ht hv l (nc + 1) (sx_upf φ1 nc (fun k => if k = j then sx_tv σ vt else φ1 x.2.2 k)) (fun y hy => sx_wfC_mono (Nat.le_refl _) (by omega) (hwf y (List.mem_cons_of_mem _ hy))) (fun y hy => by
          obtain ⟨cA', n', d'', g1, g2⟩ := hok y (List.mem_cons_of_mem _ hy)
          have wy := hwf y (List.mem_cons_of_mem _ hy)
          refine ⟨cA', n', d'', g1, ?_⟩
          have : sx_upf φ1 nc (fun k => if k = j then sx_tv σ vt else φ1 x.2.2 k) y.2.2 = φ1 y.2.2 := if_neg (by have := wy.2; omega)
          rw [this]
          exact g2)
        have e1 : φ' nc = fun k => if k = j then sx_tv σ vt else φ1 x.2.2 k := by
          rw [f1 nc (by omega)]
          exact if_pos rfl
        have e2 : φ' x.2.2 = φ1 x.2.2 := by
          rw [f1 _ (by have := wx.2; omega)]
          exact if_neg (by have := wx.2; omega)
        refine ⟨φ', fun i hi => ?_, Nat.le_trans (Nat.le_succ nc) f2, fun y hy => ?_, fun p hp => ?_⟩
        · rw [f1 i (by omega)]
          exact if_neg (by omega)
        · rcases List.mem_cons.mp hy with rfl | hy
          · refine ⟨⟨wx.1, Nat.lt_of_succ_le f2⟩, ?_⟩
            obtain ⟨cA', n', d'', g1, g2⟩ := hx
            rw [hr] at g1
            have := sx_at_inj hD g1 ⟨q0, hq0⟩
            cases this
            refine ⟨cA, n, d', by show sx_at _ (ρ x.1) _; rw [hr]; exact sx_at_set hq0, fun k k1 k2 k3 => ?_⟩
            show sx_num d' k = φ' nc k
            rw [e1]
            by_cases hkj : k = j
            · subst hkj
              rw [hd.2.2]
              exact (if_pos rfl).symm
            · rw [(hd.1 k hkj).2, g2 k k1 k2 k3]
              exact (if_neg hkj).symm
          · exact f3 y hy
        · rcases List.mem_cons.mp hp with rfl | hp
          · refine ⟨⟨fun y hy => ?_, fun y hy => ?_⟩, ?_⟩
            · simp only [List.mem_cons, List.not_mem_nil, or_false] at hy
              rcases hy with rfl | rfl
              · exact ht
              · exact hv
            · have := wx.2
              simp only [List.mem_cons, List.not_mem_nil, or_false] at hy
              have f2 : nc + 1 ≤ _ := f2
              show y < (sx_cup S Rg r t vt a b (nc + 1) l).2.2
              rcases hy with rfl | rfl <;> omega
            · refine ⟨hj0, fun k => ?_⟩
              show φ' nc k = if k = (sx_tv σ t).toNat then sx_tv σ vt else φ' x.2.2 k
              rw [e1, e2, hj]
          · exact f4 p hp
      · exact sx_cup_ok h hR hD hq0 hj hj0 h1 h2 hd ht hv l nc φ1 (fun y hy => hwf y (List.mem_cons_of_mem _ hy)) (fun y hy => hok y (List.mem_cons_of_mem _ hy))
theorem sx_ast_ok (hx : p.tables.exec = Jvm.exec) (hb : c.code = cc) (hK : va_K (dC, dI) vwCl (tyL kA) s) (hP : va_P (dC, dI) vwCl ws H) (hD : va_D A ws) (hS : va_S A H0 H locs) (hT : sx_wt RT kA τ ws)
    (hw : sx_wf S) (hr : ∀ a ∈ st, sx_wfA S.1.length S.2.1.length a) (h : sx_sat PF τ S σ ρ φ ws) (hdg : decode cc pc = .ok (i, sx_ilen i)) (ho : sx_ast RT M i S st = some (S', st'))
    (k : ∀ φ' ws' H' locs', va_P (dC, dI) vwCl ws' H' → va_D A ws' → va_S A H0 H' locs' → sx_wt RT kA τ ws' → sx_un M τ ws ws' → sx_gwf S S' → (∀ a ∈ st', sx_wfA S'.1.length S'.2.1.length a) → sx_ag S σ σ ρ ρ φ φ' → sx_sat PF τ S' σ ρ φ' ws' → W p l e R s m args below meth c H' locs' cells slots Q (F0 m (pc + sx_ilen i) ls (st'.map (sx_val σ ρ)))) : W p l e R s m args below meth c H locs cells slots Q (F0 m pc ls (st.map (sx_val σ ρ))) := by
  unfold sx_ast at ho
  split at ho
  · rename_i v t r z rest
    split at ho
    · rename_i Rg w hR hv
      split at ho
      · rename_i G hG
        split at ho
        · rename_i hc
          cases ho
          simp only [Bool.and_eq_true] at hc
          obtain ⟨⟨⟨⟨⟨⟨c1, c2⟩, c3⟩, c4⟩, c5⟩, c6⟩, c7⟩ := hc
          have c1 : G.1 = 1 := Nat.eq_of_beq_eq_true c1
          have c3 := Nat.le_of_ble_eq_true c3
          have hτ := h.2.1 r Rg hR
          have hreg : sx_reg RT S r = some G := by unfold sx_reg; rw [hR]; exact hG
          obtain ⟨en, a1, a2, a3⟩ := sx_reg_ok h hT hreg
          unfold sx_eok at a2
          rw [c1] at a2
          obtain ⟨n, d, rfl, n1, n2, hdk, hel⟩ := a2
          obtain ⟨q0, hq0⟩ := a1
          obtain ⟨i1, i2, i3, i4, i5, i6⟩ := sx_inb_ok hw hD h (a := w.1) (b := w.2) hv c4 ⟨q0, hq0⟩ n1 (by omega)
          have hr1 := sx_wft hr
          have hr2 := sx_wft hr1.2
          have hr3 := sx_wft hr2.2
          have htl := sx_iv_lt hv
          have hvl : v.2.1 < S.1.length := by
            unfold sx_n64 at c7
            split at c7
            · rename_i w' hw'
              exact sx_iv_lt hw'
            · cases c7
          refine sx_rows (x := Int32.ofInt (sx_tv σ t)) hx hb hK hP hD hS h c2 c7 hdk hq0 i3 hdg (fun d' hdk' hdd H1 locs1 p1 p2 p3 => ?_)
          rw [i4] at hdd
          obtain ⟨φ', f1, f2, f3, f4⟩ := sx_cup_ok (PF := PF) h hR hD hq0 rfl i1 i5 i6 hdd htl hvl S.2.2.2.2.2.2 S.2.2.1 φ hw.2.2.2.2.2 h.2.2.2.2.2
          have hin : sx_inM M Rg (sx_tv σ t).toNat := sx_mods_ok c5 (by omega) (by omega)
          have hz := sx_zero hw h
          have hag : sx_ag S σ σ ρ ρ φ φ' := ⟨fun _ _ => rfl, fun _ _ => rfl, f1⟩
          refine k φ' _ H1 locs1 p1 p2 p3 (sx_wt_set hT hq0 ?_) (sx_un_set hD hq0 hτ ?_) ?_ hr3.2 hag ?_
          · intro r' G' hr' hG'
            rw [hτ] at hr'
            cases hr'
            rw [hG] at hG'
            cases hG'
            unfold sx_eok
            rw [c1]
            refine ⟨n, d', rfl, n1, n2, hdk', fun j hj => ?_⟩
            obtain ⟨q', g1, g2⟩ := hel j hj
            refine ⟨q', g1, ?_⟩
            by_cases hjj : j = (sx_tv σ t).toNat
            · rw [hjj, hdd.2.1]
              exact sx_vok_ok h (sx_segall_ok (j := j) (by omega) (by omega) c6 q' g1)
            · rw [(hdd.1 j hjj).1]
              exact g2
          · refine ⟨rfl, rfl, fun j hj hk' => ?_⟩
            exact hdd.1 j (fun hjj => hk' (by rw [hjj]; exact hin))
          · obtain ⟨w0, w00, w1, w2, w3, w4⟩ := hw
            refine ⟨⟨w0, w00, w1, fun x hx => ?_, fun x hx => ?_, fun x hx => (f3 x hx).1⟩, Nat.le_refl _, Nat.le_refl _, f2⟩
            · rcases List.mem_append.mp hx with hx | hx
              · exact (f4 x hx).1
              · exact sx_wfP_mono (Nat.le_refl _) f2 (w2 x hx)
            · rcases List.mem_cons.mp hx with rfl | hx
              · exact ⟨a3, htl, hr1.1⟩
              · exact w3 x (List.mem_filter.mp hx).1
          · have h' := sx_sat_ext PF hw hag h
            obtain ⟨g1, g2, g3, g4, g5, g6⟩ := h'
            refine ⟨g1, g2, g3, fun x hx => ?_, fun x hx => ?_, fun x hx => (f3 x hx).2⟩
            · rcases List.mem_append.mp hx with hx | hx
              · exact (f4 x hx).2
              · exact g4 x hx
            · rcases List.mem_cons.mp hx with rfl | hx
              · exact ⟨_, n, d', sx_at_set hq0, i1, i2, hdd.2.1⟩
              · have hf := List.mem_filter.mp hx
                have hm := g5 x hf.1
                have hf2 := hf.2
                rw [Bool.or_eq_true] at hf2
                rcases hf2 with hf2 | hf2
                · exact sx_mok_ne hq0 (sx_regne_ok h hR hf2) hm
                · by_cases hne : ρ x.1.2 = ρ r
                  · rw [Bool.and_eq_true] at hf2
                    obtain ⟨k1, k2⟩ := hf2
                    have k1 : x.1.1 ≠ 0 := fun q => by rw [q] at k1; cases k1
                    unfold sx_mok at hm ⊢
                    split
                    · rename_i hk
                      exact absurd hk k1
                    · rename_i hk
                      simp only [hk] at hm
                      obtain ⟨cA', n', d'', m1, m2, m3, m4⟩ := hm
                      rw [hne] at m1
                      have := sx_at_inj hD m1 ⟨q0, hq0⟩
                      cases this
                      refine ⟨_, n, d', by rw [hne]; exact sx_at_set hq0, m2, m3, ?_⟩
                      have hnn : (sx_tv σ x.2.1).toNat ≠ (sx_tv σ t).toNat := by
                        rw [Bool.or_eq_true] at k2
                        rcases k2 with k2 | k2
                        · rw [hk] at k2
                          cases k2
                        · unfold sx_apart at k2
                          rw [Bool.or_eq_true] at k2
                          rcases k2 with k2 | k2
                          · have := sx_prove_ok h.1 h.2.2.1 k2
                            rw [sx_dif_ev] at this
                            omega
                          · have := sx_prove_ok h.1 h.2.2.1 k2
                            rw [sx_dif_ev] at this
                            omega
                      rw [(hdd.1 _ hnn).1]
                      exact m4
                    · rename_i k3 k4
                      have hm : ∃ cA n d, sx_at ws (ρ x.1.2) (.inl (cA, n, d)) ∧ sx_val σ ρ x.2.2 = .int (Int32.ofNat n) := by
                        split at hm
                        · rename_i hk
                          exact absurd hk k1
                        · rename_i hk
                          exact absurd hk k4
                        · exact hm
                      obtain ⟨cA', n', d'', m1, m2⟩ := hm
                      rw [hne] at m1
                      have := sx_at_inj hD m1 ⟨q0, hq0⟩
                      cases this
                      exact ⟨_, n, d', by rw [hne]; exact sx_at_set hq0, m2⟩
                  · exact sx_mok_ne hq0 hne hm
        · cases ho
      · cases ho
    · cases ho
  · cases ho
end SXH
