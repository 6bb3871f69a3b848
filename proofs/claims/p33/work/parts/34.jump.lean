/-! a checker of walks: branches, their steps -/
def sx_lsw (S : sxS) (pc : Nat) (x : sxT) (r : List sxA) : List (Int × Int) → List (Option (sxS × List sxA × Nat))
  | [] => []
  | o :: l => (match sx_brf S .eq x (0, o.1) with
    | some S' => some (S', r, ((pc : Int) + o.2).toNat)
    | none => none) :: sx_lsw S pc x r l
def sx_br (pc : Nat) (i : Instr) (S : sxS) (st : List sxA) : Option (List (sxS × List sxA × Nat)) := match i with
  | .goto off => if sx_le 0 ((pc : Int) + off) then some [(S, st, ((pc : Int) + off).toNat)] else none
  | .ifCond c off => (match st with
    | (0, t) :: r => (match sx_iv S.1 t with
      | some w => if sx_in32 w.1 w.2 && sx_le 0 ((pc : Int) + off) then some (sx_opt (sx_brf S c (sx_what S t).1 (sx_what S t).2) r ((pc : Int) + off).toNat ++ sx_opt (sx_brf S (sx_neg c) (sx_what S t).1 (sx_what S t).2) r (pc + 3)) else none
      | none => none)
    | _ => none)
  | .if_icmp c off => (match st with
    | (0, y) :: (0, x) :: r => (match sx_iv S.1 x, sx_iv S.1 y with
      | some w, some v => if sx_in32 w.1 w.2 && sx_in32 v.1 v.2 && sx_le 0 ((pc : Int) + off) then some (sx_opt (sx_brf S c x y) r ((pc : Int) + off).toNat ++ sx_opt (sx_brf S (sx_neg c) x y) r (pc + 3)) else none
      | _, _ => none)
    | _ => none)
  | .ifnull off => (match st with
    | (2, _) :: r => some [(S, r, pc + 3)]
    | (3, _) :: r => if sx_le 0 ((pc : Int) + off) then some [(S, r, ((pc : Int) + off).toNat)] else none
    | _ => none)
  | .ifnonnull off => (match st with
    | (3, _) :: r => some [(S, r, pc + 3)]
    | (2, _) :: r => if sx_le 0 ((pc : Int) + off) then some [(S, r, ((pc : Int) + off).toNat)] else none
    | _ => none)
  | .tableswitch d lo hi offs => (match st with
    | (0, t) :: r => (match sx_iv S.1 t with
      | some w => if sx_in32 w.1 w.2 && sx_le 0 ((pc : Int) + d) && offs.toList.all (fun o => sx_le 0 ((pc : Int) + o)) && decide ((offs.toList.length : Int) = hi - lo + 1) then
          some (sx_opt (sx_brf S .lt t (0, lo)) r ((pc : Int) + d).toNat ++ sx_opt (sx_brf S .gt t (0, hi)) r ((pc : Int) + d).toNat ++ (sx_swt S pc t r lo offs.toList).filterMap id) else none
      | none => none)
    | _ => none)
  | .lookupswitch d ps => (match st with
    | (0, t) :: r => (match sx_iv S.1 t with
      | some w => if sx_in32 w.1 w.2 && sx_le 0 ((pc : Int) + d) && ps.toList.all (fun o => sx_le 0 ((pc : Int) + o.2)) && (ps.toList.zip (ps.toList.drop 1)).all (fun (a, next) => a.1 < next.1) then
          some ((S, r, ((pc : Int) + d).toNat) :: (sx_lsw S pc t r ps.toList).filterMap id) else none
      | none => none)
    | _ => none)
  | _ => none
section SXB
variable {PF : Nat → List Int → List (Nat → Int) → Prop} {τ : Nat → Option Nat} {S S' : sxS} {σ : sxV} {ρ : sxR} {φ : sxF} {ws : va_W}
variable {p : Program} {l : Launch} {e : Env} {R : Room} {s : State} {m : MethodId} {args : Array Value} {below : List Frame} {meth : Method} {c : Code} {H : Heap} {locs : List Loc} {cells slots : Nat} {Q : State → Prop}
variable {cc : ByteArray} {pc : Nat} {ls : Array Slot} {i : Instr} {st : List sxA} {rest : List Value}
theorem sx_tgt {pc : Nat} {off : Int} (h : sx_le 0 ((pc : Int) + off) = true) : (pc : Int) + off = (((pc : Int) + off).toNat : Int) := by
  have := sx_le_iff.mp h
  omega
theorem sx_i32eq {x y : Int} (hx : (Int32.ofInt x).toInt = x) (hy : (Int32.ofInt y).toInt = y) : (Int32.ofInt x = Int32.ofInt y ↔ x = y) ∧ (Int32.ofInt x < Int32.ofInt y ↔ x < y) ∧ (Int32.ofInt x ≤ Int32.ofInt y ↔ x ≤ y) := by
  rw [← Int32.toInt_inj, Int32.lt_iff_toInt_lt, Int32.le_iff_toInt_le, hx, hy]
  exact ⟨Iff.rfl, Iff.rfl, Iff.rfl⟩
theorem sx_rowc (hx : p.tables.exec = Jvm.exec) (hb : c.code = cc) {cd : ClassFile.Cond} {off : Int} (hdg : decode cc pc = .ok (.if_icmp cd off, 3)) (ht : sx_le 0 ((pc : Int) + off) = true) {x y : Int} (ex : (Int32.ofInt x).toInt = x) (ey : (Int32.ofInt y).toInt = y)
    (k1 : sx_hold cd x y → W p l e R s m args below meth c H locs cells slots Q (F0 m ((pc : Int) + off).toNat ls rest)) (k2 : sx_hold (sx_neg cd) x y → W p l e R s m args below meth c H locs cells slots Q (F0 m (pc + 3) ls rest)) : W p l e R s m args below meth c H locs cells slots Q (F0 m pc ls (.int (Int32.ofInt y) :: .int (Int32.ofInt x) :: rest)) := by
  obtain ⟨q1, q2, q3⟩ := sx_i32eq ex ey
  obtain ⟨-, q5, q6⟩ := sx_i32eq ey ex
  cases cd with
  | eq => exact lv_icmp_eq hx hb hdg (sx_tgt ht) (fun h => k1 (q1.mp h)) (fun h => k2 (fun z => h (q1.mpr z)))
  | ne => exact lv_icmp_ne hx hb hdg (sx_tgt ht) (fun h => k1 (fun z => h (q1.mpr z))) (fun h => k2 (q1.mp h))
  | lt => exact lv_icmp_lt hx hb hdg (sx_tgt ht) (fun h => k1 (q2.mp h)) (fun h => k2 (by show y ≤ x; have := mt q2.mpr h; omega))
  | ge => exact lv_icmp_ge hx hb hdg (sx_tgt ht) (fun h => k1 (q6.mp h)) (fun h => k2 (by show x < y; have := mt q6.mpr h; omega))
  | gt => exact lv_icmp_gt hx hb hdg (sx_tgt ht) (fun h => k1 (q5.mp h)) (fun h => k2 (by show x ≤ y; have := mt q5.mpr h; omega))
  | le => exact lv_icmp_le hx hb hdg (sx_tgt ht) (fun h => k1 (q3.mp h)) (fun h => k2 (by show y < x; have := mt q3.mpr h; omega))
theorem sx_row1 (hx : p.tables.exec = Jvm.exec) (hb : c.code = cc) {cd : ClassFile.Cond} {off : Int} (hdg : decode cc pc = .ok (.ifCond cd off, 3)) (ht : sx_le 0 ((pc : Int) + off) = true) {x : Int} (ex : (Int32.ofInt x).toInt = x)
    (k1 : sx_hold cd x 0 → W p l e R s m args below meth c H locs cells slots Q (F0 m ((pc : Int) + off).toNat ls rest)) (k2 : sx_hold (sx_neg cd) x 0 → W p l e R s m args below meth c H locs cells slots Q (F0 m (pc + 3) ls rest)) : W p l e R s m args below meth c H locs cells slots Q (F0 m pc ls (.int (Int32.ofInt x) :: rest)) := by
  have e0 : (Int32.ofInt 0).toInt = 0 := rfl
  obtain ⟨q1, q2, q3⟩ := sx_i32eq ex e0
  obtain ⟨-, q5, q6⟩ := sx_i32eq e0 ex
  cases cd with
  | eq => exact lv_if_eq hx hb hdg (sx_tgt ht) (fun h => k1 (q1.mp h)) (fun h => k2 (fun z => h (q1.mpr z)))
  | ne => exact lv_if_ne hx hb hdg (sx_tgt ht) (fun h => k1 (fun z => h (q1.mpr z))) (fun h => k2 (q1.mp h))
  | lt => exact lv_if_lt hx hb hdg (sx_tgt ht) (fun h => k1 (q2.mp h)) (fun h => k2 (by show 0 ≤ x; have := mt q2.mpr h; omega))
  | ge => exact lv_if_ge hx hb hdg (sx_tgt ht) (fun h => k1 (q6.mp h)) (fun h => k2 (by show x < 0; have := mt q6.mpr h; omega))
  | gt => exact lv_if_gt hx hb hdg (sx_tgt ht) (fun h => k1 (q5.mp h)) (fun h => k2 (by show x ≤ 0; have := mt q5.mpr h; omega))
  | le => exact lv_if_le hx hb hdg (sx_tgt ht) (fun h => k1 (q3.mp h)) (fun h => k2 (by show 0 < x; have := mt q3.mpr h; omega))
theorem sx_swt_mem {x : sxT} {r : List sxA} : ∀ {l : List Int} {j : Int} {n : Nat} {o : Int}, l[n]? = some o → sx_brf S .eq x (0, j + n) = some S' → (S', r, ((pc : Int) + o).toNat) ∈ (sx_swt S pc x r j l).filterMap id
  | a :: l, j, 0, o, h, hS => by
    simp at h
    subst h
    unfold sx_swt
    have e1 : j + ((0 : Nat) : Int) = j := by omega
    rw [e1] at hS
    rw [hS]
    simp
  | a :: l, j, n + 1, o, h, hS => by
    rw [List.getElem?_cons_succ] at h
    unfold sx_swt
    have e1 : j + ((n + 1 : Nat) : Int) = j + 1 + (n : Int) := by omega
    rw [e1] at hS
    have ih := sx_swt_mem (r := r) h hS
    rw [List.filterMap_cons]
    split
    · exact ih
    · exact List.mem_cons_of_mem _ ih
theorem sx_lsw_mem {x : sxT} {r : List sxA} {v : Int} (hS : sx_brf S .eq x (0, v) = some S') : ∀ {l : List (Int × Int)} {d : Int}, (S', r, ((pc : Int) + Op.lookupswitch.offset l d v).toNat) ∈ (S', r, ((pc : Int) + d).toNat) :: (sx_lsw S pc x r l).filterMap id
  | [], d => by
    rw [Op.lookupswitch.offset_nil]
    exact List.mem_cons_self
  | (a, o) :: l, d => by
    rw [Op.lookupswitch.offset_cons]
    by_cases ha : a = v
    · rw [if_pos ha]
      subst ha
      refine List.mem_cons_of_mem _ ?_
      unfold sx_lsw
      rw [hS]
      simp
    · rw [if_neg ha]
      have ih := sx_lsw_mem (r := r) (l := l) (d := d) hS
      rcases List.mem_cons.mp ih with q | q
      · rw [q]
        exact List.mem_cons_self
      · refine List.mem_cons_of_mem _ ?_
        unfold sx_lsw
        rw [List.filterMap_cons]
        split
        · exact q
        · exact List.mem_cons_of_mem _ q
/-- the offset of a lookupswitch is a pair's, or the default -/
theorem sx_off {l : List (Int × Int)} {d v : Int} : Op.lookupswitch.offset l d v = d ∨ ∃ o ∈ l, o.1 = v ∧ o.2 = Op.lookupswitch.offset l d v := by
  induction l with
  | nil => exact Or.inl rfl
  | cons q l ih =>
    obtain ⟨a, o⟩ := q
    rw [Op.lookupswitch.offset_cons]
    by_cases ha : a = v
    · rw [if_pos ha]
      exact Or.inr ⟨(a, o), List.mem_cons_self, ha, rfl⟩
    · rw [if_neg ha]
      rcases ih with h | ⟨q, h1, h2⟩
      · exact Or.inl h
      · exact Or.inr ⟨q, List.mem_cons_of_mem _ h1, h2⟩
theorem sx_br_ok (hx : p.tables.exec = Jvm.exec) (hb : c.code = cc) {len : Nat} (hdg : decode cc pc = .ok (i, len)) (hlen : len = sx_ilen i ∨ (∃ d lo hi o, i = .tableswitch d lo hi o) ∨ ∃ d q, i = .lookupswitch d q) (hw : sx_wf S) (hr : ∀ a ∈ st, sx_wfA S.1.length S.2.1.length a) (h : sx_sat PF τ S σ ρ φ ws) {O : List (sxS × List sxA × Nat)} (ho : sx_br pc i S st = some O)
    (k : ∀ o ∈ O, sx_more PF τ S o.1 σ ρ φ ws → (∀ a ∈ o.2.1, sx_wfA S.1.length S.2.1.length a) → W p l e R s m args below meth c H locs cells slots Q (F0 m o.2.2 ls (o.2.1.map (sx_val σ ρ)))) : W p l e R s m args below meth c H locs cells slots Q (F0 m pc ls (st.map (sx_val σ ρ))) := by
  have hself : sx_more PF τ S S σ ρ φ ws := ⟨hw, rfl, rfl, rfl, h⟩
  unfold sx_br at ho
  split at ho
  · -- goto
    have hl : len = 3 := by
      rcases hlen with q | ⟨_, _, _, _, q⟩ | ⟨_, _, q⟩
      · exact q
      · cases q
      · cases q
    subst hl
    split at ho
    · rename_i ht
      cases ho
      exact lv_goto hx hb hdg (sx_tgt ht) (k _ (List.mem_singleton.mpr rfl) hself hr)
    · cases ho
  · rename_i cd off
    have hl : len = 3 := by
      rcases hlen with q | ⟨_, _, _, _, q⟩ | ⟨_, _, q⟩
      · exact q
      · cases q
      · cases q
    subst hl
    split at ho
    · rename_i t r
      have hr1 := sx_wft hr
      split at ho
      · rename_i w hv
        split at ho
        · rename_i hc
          rw [Bool.and_eq_true] at hc
          cases ho
          obtain ⟨ex, b1, b2⟩ := sx_at32 (S := S) h.1 (a := w.1) (b := w.2) hv hc.1
          obtain ⟨l1, l2, l3⟩ := sx_what_ok hw h (sx_iv_lt hv)
          refine sx_row1 (x := sx_tv σ t) hx hb hdg hc.2 ex (fun hh => ?_) (fun hh => ?_)
          · obtain ⟨S1, e1, m1⟩ := sx_brf_ok hw h l1 l2 ((l3 _).mp hh)
            exact k (S1, r, _) (List.mem_append_left _ (by rw [e1]; exact List.mem_singleton.mpr rfl)) m1 hr1.2
          · obtain ⟨S1, e1, m1⟩ := sx_brf_ok hw h l1 l2 ((l3 _).mp hh)
            exact k (S1, r, _) (List.mem_append_right _ (by rw [e1]; exact List.mem_singleton.mpr rfl)) m1 hr1.2
        · cases ho
      · cases ho
    · cases ho
  · rename_i cd off
    have hl : len = 3 := by
      rcases hlen with q | ⟨_, _, _, _, q⟩ | ⟨_, _, q⟩
      · exact q
      · cases q
      · cases q
    subst hl
    split at ho
    · rename_i y x r
      have hr1 := sx_wft (sx_wft hr).2
      split at ho
      · rename_i w v hv hv2
        split at ho
        · rename_i hc
          rw [Bool.and_eq_true, Bool.and_eq_true] at hc
          cases ho
          obtain ⟨ex, b1, b2⟩ := sx_at32 (S := S) h.1 (a := w.1) (b := w.2) hv hc.1.1
          obtain ⟨ey, b3, b4⟩ := sx_at32 (S := S) h.1 (a := v.1) (b := v.2) hv2 hc.1.2
          refine sx_rowc (x := sx_tv σ x) (y := sx_tv σ y) hx hb hdg hc.2 ex ey (fun hh => ?_) (fun hh => ?_)
          · obtain ⟨S1, e1, m1⟩ := sx_brf_ok hw h (sx_iv_lt hv) (sx_iv_lt hv2) hh
            exact k (S1, r, _) (List.mem_append_left _ (by rw [e1]; exact List.mem_singleton.mpr rfl)) m1 hr1.2
          · obtain ⟨S1, e1, m1⟩ := sx_brf_ok hw h (sx_iv_lt hv) (sx_iv_lt hv2) hh
            exact k (S1, r, _) (List.mem_append_right _ (by rw [e1]; exact List.mem_singleton.mpr rfl)) m1 hr1.2
        · cases ho
      · cases ho
    · cases ho
  · have hl : len = 3 := by
      rcases hlen with q | ⟨_, _, _, _, q⟩ | ⟨_, _, q⟩
      · exact q
      · cases q
      · cases q
    subst hl
    split at ho
    · cases ho
      exact lv_ifnull hx hb hdg (k _ (List.mem_singleton.mpr rfl) hself (sx_wft hr).2)
    · split at ho
      · rename_i ht
        cases ho
        exact lv_ifnullN hx hb hdg (sx_tgt ht) (k _ (List.mem_singleton.mpr rfl) hself (sx_wft hr).2)
      · cases ho
    · cases ho
  · have hl : len = 3 := by
      rcases hlen with q | ⟨_, _, _, _, q⟩ | ⟨_, _, q⟩
      · exact q
      · cases q
      · cases q
    subst hl
    split at ho
    · cases ho
      exact lv_ifnonnullN hx hb hdg (k _ (List.mem_singleton.mpr rfl) hself (sx_wft hr).2)
    · split at ho
      · rename_i ht
        cases ho
        exact lv_ifnonnull hx hb hdg (sx_tgt ht) (k _ (List.mem_singleton.mpr rfl) hself (sx_wft hr).2)
      · cases ho
    · cases ho
  · rename_i d lo hi offs
    split at ho
    · rename_i t r
      have hr1 := sx_wft hr
      split at ho
      · rename_i w hv
        split at ho
        · rename_i hc
          simp only [Bool.and_eq_true] at hc
          obtain ⟨⟨⟨c1, c2⟩, c3⟩, c4⟩ := hc
          have c4 := of_decide_eq_true c4
          cases ho
          obtain ⟨ex, b1, b2⟩ := sx_at32 (S := S) h.1 (a := w.1) (b := w.2) hv c1
          have hz := sx_zero hw h
          have tz : ∀ j : Int, sx_tv σ (0, j) = j := fun j => by show σ 0 + j = j; omega
          have lt := sx_iv_lt hv
          by_cases q1 : sx_tv σ t < lo
          · obtain ⟨S1, e1, m1⟩ := sx_brf_ok (c := .lt) (x := t) (y := (0, lo)) hw h lt hw.1 (by show sx_tv σ t < sx_tv σ (0, lo); rw [tz]; exact q1)
            refine lv_tableOut (x := Int32.ofInt (sx_tv σ t)) hx hb hdg (by rw [ex]; exact Or.inl q1) (sx_tgt c2) ?_
            exact k (S1, r, _) (List.mem_append_left _ (List.mem_append_left _ (by rw [e1]; exact List.mem_singleton.mpr rfl))) m1 hr1.2
          · by_cases q2 : hi < sx_tv σ t
            · obtain ⟨S1, e1, m1⟩ := sx_brf_ok (c := .gt) (x := t) (y := (0, hi)) hw h lt hw.1 (by show sx_tv σ (0, hi) < sx_tv σ t; rw [tz]; exact q2)
              refine lv_tableOut (x := Int32.ofInt (sx_tv σ t)) hx hb hdg (by rw [ex]; exact Or.inr q2) (sx_tgt c2) ?_
              exact k (S1, r, _) (List.mem_append_left _ (List.mem_append_right _ (by rw [e1]; exact List.mem_singleton.mpr rfl))) m1 hr1.2
            · obtain ⟨S1, e1, m1⟩ := sx_brf_ok (c := .eq) (x := t) (y := (0, sx_tv σ t)) hw h lt hw.1 (by show sx_tv σ t = sx_tv σ (0, sx_tv σ t); rw [tz])
              have hn : (sx_tv σ t - lo).toNat < offs.toList.length := by omega
              have ho := List.getElem?_eq_getElem hn
              have hpos := List.all_eq_true.mp c3 _ (List.mem_of_getElem? ho)
              refine lv_tableIn (x := Int32.ofInt (sx_tv σ t)) hx hb hdg (by rw [ex]; exact q1) (by rw [ex]; exact q2) (by rw [ex, ← Array.getElem?_toList]; exact ho) (sx_tgt hpos) ?_
              refine k (S1, r, _) (List.mem_append_right _ (sx_swt_mem ho ?_)) m1 hr1.2
              rw [← e1]
              congr 2
              omega
        · cases ho
      · cases ho
    · cases ho
  · rename_i d ps
    split at ho
    · rename_i t r
      have hr1 := sx_wft hr
      split at ho
      · rename_i w hv
        split at ho
        · rename_i hc
          simp only [Bool.and_eq_true] at hc
          obtain ⟨⟨⟨c1, c2⟩, c3⟩, c4⟩ := hc
          cases ho
          obtain ⟨ex, b1, b2⟩ := sx_at32 (S := S) h.1 (a := w.1) (b := w.2) hv c1
          have hz := sx_zero hw h
          have tz : ∀ j : Int, sx_tv σ (0, j) = j := fun j => by show σ 0 + j = j; omega
          have lt := sx_iv_lt hv
          have hpos : sx_le 0 ((pc : Int) + Op.lookupswitch.offset ps.toList d (sx_tv σ t)) = true := by
            rcases sx_off (l := ps.toList) (d := d) (v := sx_tv σ t) with q | ⟨o, q1, q2, q3⟩
            · rw [q]
              exact c2
            · rw [← q3]
              exact List.all_eq_true.mp c3 o q1
          refine lv_lookup (x := Int32.ofInt (sx_tv σ t)) hx hb hdg c4 (by rw [ex]) (sx_tgt hpos) ?_
          obtain ⟨S1, e1, m1⟩ := sx_brf_ok (c := .eq) (x := t) (y := (0, sx_tv σ t)) hw h lt hw.1 (by show sx_tv σ t = sx_tv σ (0, sx_tv σ t); rw [tz])
          rcases List.mem_cons.mp (sx_lsw_mem (r := r) (pc := pc) e1 (l := ps.toList) (d := d)) with q | q
          · have q3 : ((pc : Int) + Op.lookupswitch.offset ps.toList d (sx_tv σ t)).toNat = ((pc : Int) + d).toNat := (Prod.mk.inj (Prod.mk.inj q).2).2
            rw [q3]
            exact k (S, r, _) List.mem_cons_self hself hr1.2
          · exact k (S1, r, _) (List.mem_cons_of_mem _ q) m1 hr1.2
        · cases ho
      · cases ho
    · cases ho
  · cases ho
end SXB
