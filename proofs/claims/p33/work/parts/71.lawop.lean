/-! the law: a call of the class, a call of the reference, and what stands behind them -/
def lc_zip {α β : Type} (f : α → β → Bool) : List α → List β → Bool
  | [], [] => true
  | a :: l, b :: r => f a b && lc_zip f l r
  | _, _ => false
theorem lc_zip_ok {α β : Type} {f : α → β → Bool} : ∀ {l : List α} {r : List β}, lc_zip f l r = true → ∀ a ∈ l, ∃ b, f a b = true
  | a :: l, b :: r, h, x, hx => by
    unfold lc_zip at h
    rw [Bool.and_eq_true] at h
    rcases List.mem_cons.mp hx with rfl | hx
    · exact ⟨b, h.1⟩
    · exact lc_zip_ok h.2 x hx
  | [], _, _, x, hx => by cases hx
  | _ :: _, [], h, _, _ => by cases h
def lc_b2 (S P : sxS) (b : Option (List sxT × List Nat × List Nat)) : Bool := match b with
  | none => sx_prove S.1 S.2.2.2.1 ([], -1)
  | some q => lc_back S P q.1 q.2.1 q.2.2 && Nat.beq (sx_g0 q.2.1 0) 0 && Nat.beq (sx_g0 q.2.1 1) 1
def lc_m (S P : sxS) (I : sxI) (ts : List sxT) (rs cs : List Nat) (cq : Nat × Nat × Nat × Nat) (B : List (Option (List sxT × List Nat × List Nat))) : Bool := lc_ok S I ts rs cs cq && lc_zip (fun E b => lc_b2 (sx_post S I ts rs cs E.1) P b) I.2.2.2.2.2 B
def lc_ans (I : sxI) : Bool := I.2.2.2.2.2.all (fun E => match E.2 with
  | some (0, _) => true
  | _ => false)
def lc_op (S P : sxS) (I1 : sxI) (ts1 : List sxT) (rs1 cs1 : List Nat) (cq1 : Nat × Nat × Nat × Nat) (I2 : sxI) (ts2 : List sxT) (rs2 cs2 : List Nat) (cq2 : Nat × Nat × Nat × Nat) (B : List (List (Option (List sxT × List Nat × List Nat)))) : Bool :=
  lc_ok S I1 ts1 rs1 cs1 cq1 && lc_ans I1 && lc_ans I2 && (I2.2.2.2.1.map (sb_A (sx_f0 ts2) (sx_g0 rs2))).all (sx_bA S.1.length S.2.1.length) && lc_zip (fun E b => lc_m (sx_post S I1 ts1 rs1 cs1 E.1) P I2 ts2 rs2 cs2 cq2 b) I1.2.2.2.2.2 B
def lc_oq (S P : sxS) (I1 : sxI) (ts1 : List sxT) (rs1 cs1 : List Nat) (cq1 : Nat × Nat × Nat × Nat) (I2 : sxI) (ts2 : List sxT) (rs2 cs2 : List Nat) (cq2 : Nat × Nat × Nat × Nat) (B : List (List (Option (List sxT × List Nat × List Nat)))) : Bool :=
  lc_ok S I1 ts1 rs1 cs1 cq1 && lc_ans I1 && lc_ans I2 && (I2.2.2.2.1.map (sb_A (sx_f0 ts2) (sx_g0 rs2))).all (sx_bA S.1.length S.2.1.length) && lc_zip (fun E b => lc_ok (sx_post S I1 ts1 rs1 cs1 E.1) I2 ts2 rs2 cs2 cq2 && lc_zip (fun E2 b2 => lc_b2 (sx_post (sx_post S I1 ts1 rs1 cs1 E.1) I2 ts2 rs2 cs2 E2.1) P b2 && (match b2 with
    | none => true
    | some _ => decide (sx_postr S I1 ts1 rs1 E.2 = sx_postr (sx_post S I1 ts1 rs1 cs1 E.1) I2 ts2 rs2 E2.2) && (sx_postr S I1 ts1 rs1 E.2).toList.all (sx_bA (sx_post S I1 ts1 rs1 cs1 E.1).1.length (sx_post S I1 ts1 rs1 cs1 E.1).2.1.length))) I2.2.2.2.2.2 b) I1.2.2.2.2.2 B
theorem lc_ans_ok {I : sxI} (h : lc_ans I = true) {E : sxS × Option sxA} (hE : E ∈ I.2.2.2.2.2) {S : sxS} {ts : List sxT} {rs : List Nat} {σ : sxV} {ρ : sxR} : ∃ v : Int32, (sx_postr S I ts rs E.2).toList.map (sx_val σ ρ) = [.int v] := by
  have := List.all_eq_true.mp h E hE
  revert this
  cases hq : E.2 with
  | none => intro h; cases h
  | some a =>
    obtain ⟨t, i, o⟩ := a
    match t with
    | 0 => exact fun _ => ⟨_, rfl⟩
    | t + 1 => intro h; cases h
section LAW
variable {PF : Nat → List Int → List (Nat → Int) → Prop} {τ : Nat → Option Nat} {S P : sxS} {σ : sxV} {ρ : sxR} {φ : sxF} {ws : va_W} {p : Program} {l : Launch} {e : Env} {s : State} {m : MethodId} {args : Array Value} {below : List Frame} {meth : Method} {c : Code} {H H0 : Heap} {locs : List Loc} {cells slots : Nat} {Q : State → Prop} {pc pc2 : Nat} {ls : Array Slot} {dC : Nat → ClassId} {dI : Nat → Nat → Nat} {kA : Nat → ClassId} {A : Nat → Prop}
theorem lc_bwf {n k : Nat} {a : sxA} (h : sx_bA n k a = true) : sx_wfA n k a := sx_bA_ok h
/-- the reference's call, and the pattern again -/
theorem law_m (hc : lc_cx l p s m args c dC dI kA A H0) (hls : ls.size = 4) (hp : lc_hp PF s dC dI kA A τ H0 S σ ρ φ ws H locs) (hcs : cells ≤ 600000 ∧ slots ≤ 7302249) {I : sxI} (hM : sx_met PF sxRT sxMy sxMc sxML sxMr sxTK l I) {ix : Nat} {cq : Nat × Nat × Nat × Nat} (hfx : sx_find sxcL ix = some cq) (hw : sx_wf S) {ts : List sxT} {rs cs : List Nat} {B : List (Option (List sxT × List Nat × List Nat))} (hck : lc_m S P I ts rs cs cq B = true) (hans : lc_ans I = true) (hdg : decode cL_law pc = .ok (.invokevirtual ix, 3)) {rest st0 : List Value} (hrest : (rest.map fun v => v.category).sum ≤ 8) (hst : st0 = ((I.2.2.2.1.map (sb_A (sx_f0 ts) (sx_g0 rs))).map (sx_val σ ρ)).reverse ++ rest) (hk : 1 < S.2.1.length)
    (next : ∀ σ' ρ' φ' w1 H1 locs1 (v : Int32), ρ' 0 = ρ 0 → ρ' 1 = ρ 1 → lc_hp PF s dC dI kA A τ H0 P σ' ρ' φ' w1 H1 locs1 → W p l e room_1 s m args below meth c H1 locs1 cells slots Q (F0 m (pc + 3) ls (.int v :: rest))) : W p l e room_1 s m args below meth c H locs cells slots Q (F0 m pc ls st0) := by
  unfold lc_m at hck
  rw [Bool.and_eq_true] at hck
  refine law_call hc hls hp hcs hM hfx hw hck.1 hdg hrest hst ?_
  intro E hE σ' ρ' φ' w1 H1 locs1 hw' hag hp'
  obtain ⟨b, hb⟩ := lc_zip_ok hck.2 E hE
  obtain ⟨v, hv⟩ := lc_ans_ok hans hE (S := S) (ts := ts) (rs := rs) (σ := σ') (ρ := ρ')
  rw [hv]
  obtain ⟨hs, h2⟩ := hp'
  unfold lc_b2 at hb
  cases b with
  | none => exact (lc_dead hs hb).elim
  | some q =>
    simp only [Bool.and_eq_true] at hb
    obtain ⟨⟨b1, b2⟩, b3⟩ := hb
    refine next _ _ _ w1 H1 locs1 v ?_ ?_ ⟨lc_back_ok hw' hs b1, h2⟩
    · show ρ' (sx_g0 q.2.1 0) = ρ 0
      rw [Nat.eq_of_beq_eq_true b2]
      exact hag.2.1 0 (by omega)
    · show ρ' (sx_g0 q.2.1 1) = ρ 1
      rw [Nat.eq_of_beq_eq_true b3]
      exact hag.2.1 1 hk
theorem law_op (hc : lc_cx l p s m args c dC dI kA A H0) (hls : ls.size = 4) (hp : lc_hp PF s dC dI kA A τ H0 S σ ρ φ ws H locs) (hcs : cells ≤ 600000 ∧ slots ≤ 7302249) {I1 I2 : sxI} (hM1 : sx_met PF sxRT sxMy sxMc sxML sxMr sxTK l I1) (hM2 : sx_met PF sxRT sxMy sxMc sxML sxMr sxTK l I2) {ix1 ix2 : Nat} {cq1 cq2 : Nat × Nat × Nat × Nat} (hf1 : sx_find sxcL ix1 = some cq1) (hf2 : sx_find sxcL ix2 = some cq2) (hw : sx_wf S) {ts1 ts2 : List sxT} {rs1 cs1 rs2 cs2 : List Nat} {B : List (List (Option (List sxT × List Nat × List Nat)))} (hck : lc_op S P I1 ts1 rs1 cs1 cq1 I2 ts2 rs2 cs2 cq2 B = true) (hd1 : decode cL_law pc = .ok (.invokevirtual ix1, 3)) (hd2 : decode cL_law pc2 = .ok (.invokevirtual ix2, 3)) (hk : 1 < S.2.1.length) {st1 st2 : List Value} (hst1 : st1 = ((I1.2.2.2.1.map (sb_A (sx_f0 ts1) (sx_g0 rs1))).map (sx_val σ ρ)).reverse) (hst2 : st2 = ((I2.2.2.2.1.map (sb_A (sx_f0 ts2) (sx_g0 rs2))).map (sx_val σ ρ)).reverse)
    (hmid : ∀ H1 locs1, va_S A H0 H1 locs1 → ∀ v : Int32, W p l e room_1 s m args below meth c H1 locs1 cells slots Q (F0 m pc2 ls st2) → W p l e room_1 s m args below meth c H1 locs1 cells slots Q (F0 m (pc + 3) ls [.int v]))
    (next : ∀ σ' ρ' φ' w1 H1 locs1 (v : Int32), ρ' 0 = ρ 0 → ρ' 1 = ρ 1 → lc_hp PF s dC dI kA A τ H0 P σ' ρ' φ' w1 H1 locs1 → W p l e room_1 s m args below meth c H1 locs1 cells slots Q (F0 m (pc2 + 3) ls [.int v])) : W p l e room_1 s m args below meth c H locs cells slots Q (F0 m pc ls st1) := by
  unfold lc_op at hck
  simp only [Bool.and_eq_true] at hck
  obtain ⟨⟨⟨⟨k1, k2⟩, k3⟩, k4⟩, k5⟩ := hck
  refine law_call (rest := []) hc hls hp hcs hM1 hf1 hw k1 hd1 (by decide) (by rw [List.append_nil]; exact hst1) ?_
  intro E hE σ' ρ' φ' w1 H1 locs1 hw' hag hp'
  obtain ⟨b, hb⟩ := lc_zip_ok k5 E hE
  obtain ⟨v, hv⟩ := lc_ans_ok k2 hE (S := S) (ts := ts1) (rs := rs1) (σ := σ') (ρ := ρ')
  rw [hv]
  refine hmid H1 locs1 hp'.2.2.2.1 v ?_
  have hl : S.2.1.length ≤ (sx_post S I1 ts1 rs1 cs1 E.1).2.1.length := by
    show S.2.1.length ≤ (S.2.1 ++ E.1.2.1).length
    rw [List.length_append]
    omega
  refine law_m (rest := []) hc hls hp' hcs hM2 hf2 hw' hb k3 hd2 (by decide) ?_ (Nat.lt_of_lt_of_le hk hl) ?_
  · rw [List.append_nil, hst2, sx_map_ext hag.1 hag.2.1 (fun a ha => lc_bwf (List.all_eq_true.mp k4 a ha))]
  · intro σ2 ρ2 φ2 w2 H2 locs2 v2 e0 e1 hp2
    exact next σ2 ρ2 φ2 w2 H2 locs2 v2 (e0.trans (hag.2.1 0 (by omega))) (e1.trans (hag.2.1 1 hk)) hp2
/-- as law_op, where both answers are one number -/
theorem law_opq (hc : lc_cx l p s m args c dC dI kA A H0) (hls : ls.size = 4) (hp : lc_hp PF s dC dI kA A τ H0 S σ ρ φ ws H locs) (hcs : cells ≤ 600000 ∧ slots ≤ 7302249) {I1 I2 : sxI} (hM1 : sx_met PF sxRT sxMy sxMc sxML sxMr sxTK l I1) (hM2 : sx_met PF sxRT sxMy sxMc sxML sxMr sxTK l I2) {ix1 ix2 : Nat} {cq1 cq2 : Nat × Nat × Nat × Nat} (hf1 : sx_find sxcL ix1 = some cq1) (hf2 : sx_find sxcL ix2 = some cq2) (hw : sx_wf S) {ts1 ts2 : List sxT} {rs1 cs1 rs2 cs2 : List Nat} {B : List (List (Option (List sxT × List Nat × List Nat)))} (hck : lc_oq S P I1 ts1 rs1 cs1 cq1 I2 ts2 rs2 cs2 cq2 B = true) (hd1 : decode cL_law pc = .ok (.invokevirtual ix1, 3)) (hd2 : decode cL_law pc2 = .ok (.invokevirtual ix2, 3)) (hk : 1 < S.2.1.length) {st1 st2 : List Value} (hst1 : st1 = ((I1.2.2.2.1.map (sb_A (sx_f0 ts1) (sx_g0 rs1))).map (sx_val σ ρ)).reverse) (hst2 : st2 = ((I2.2.2.2.1.map (sb_A (sx_f0 ts2) (sx_g0 rs2))).map (sx_val σ ρ)).reverse)
    (hmid : ∀ H1 locs1, va_S A H0 H1 locs1 → ∀ v : Int32, W p l e room_1 s m args below meth c H1 locs1 cells slots Q (F0 m pc2 ls (st2 ++ [.int v])) → W p l e room_1 s m args below meth c H1 locs1 cells slots Q (F0 m (pc + 3) ls [.int v]))
    (next : ∀ σ' ρ' φ' w1 H1 locs1 (v : Int32), ρ' 0 = ρ 0 → ρ' 1 = ρ 1 → lc_hp PF s dC dI kA A τ H0 P σ' ρ' φ' w1 H1 locs1 → W p l e room_1 s m args below meth c H1 locs1 cells slots Q (F0 m (pc2 + 3) ls [.int v, .int v])) : W p l e room_1 s m args below meth c H locs cells slots Q (F0 m pc ls st1) := by
  unfold lc_oq at hck
  simp only [Bool.and_eq_true] at hck
  obtain ⟨⟨⟨⟨k1, k2⟩, k3⟩, k4⟩, k5⟩ := hck
  refine law_call (rest := []) hc hls hp hcs hM1 hf1 hw k1 hd1 (by decide) (by rw [List.append_nil]; exact hst1) ?_
  intro E hE σ' ρ' φ' w1 H1 locs1 hw' hag hp'
  obtain ⟨b, hb⟩ := lc_zip_ok k5 E hE
  obtain ⟨v, hv⟩ := lc_ans_ok k2 hE (S := S) (ts := ts1) (rs := rs1) (σ := σ') (ρ := ρ')
  rw [hv]
  refine hmid H1 locs1 hp'.2.2.2.1 v ?_
  have hl : S.2.1.length ≤ (sx_post S I1 ts1 rs1 cs1 E.1).2.1.length := by
    show S.2.1.length ≤ (S.2.1 ++ E.1.2.1).length
    rw [List.length_append]
    omega
  rw [Bool.and_eq_true] at hb
  refine law_call (rest := [.int v]) hc hls hp' hcs hM2 hf2 hw' hb.1 hd2 (by show (1 : Nat) + 0 ≤ 8; decide) ?_ ?_
  · rw [hst2, sx_map_ext hag.1 hag.2.1 (fun a ha => lc_bwf (List.all_eq_true.mp k4 a ha))]
  · intro E2 hE2 σ2 ρ2 φ2 w2 H2 locs2 hw2 hag2 hp2
    obtain ⟨b2, hb2⟩ := lc_zip_ok hb.2 E2 hE2
    rw [Bool.and_eq_true] at hb2
    obtain ⟨hb3, hb4⟩ := hb2
    obtain ⟨hs, h2⟩ := hp2
    unfold lc_b2 at hb3
    cases b2 with
    | none => exact (lc_dead hs hb3).elim
    | some q =>
      simp only [Bool.and_eq_true] at hb3 hb4
      obtain ⟨⟨b1, b2⟩, b3⟩ := hb3
      have e1 := of_decide_eq_true hb4.1
      have e2 : ((sx_postr (sx_post S I1 ts1 rs1 cs1 E.1) I2 ts2 rs2 E2.2).toList.map (sx_val σ2 ρ2)) = [.int v] := by
        rw [← hv, ← e1]
        exact sx_map_ext hag2.1 hag2.2.1 (fun a ha => lc_bwf (List.all_eq_true.mp hb4.2 a ha))
      rw [e2]
      refine next _ _ _ w2 H2 locs2 v ?_ ?_ ⟨lc_back_ok hw2 hs b1, h2⟩
      · show ρ2 (sx_g0 q.2.1 0) = ρ 0
        rw [Nat.eq_of_beq_eq_true b2]
        exact (hag2.2.1 0 (by omega)).trans (hag.2.1 0 (by omega))
      · show ρ2 (sx_g0 q.2.1 1) = ρ 1
        rw [Nat.eq_of_beq_eq_true b3]
        exact (hag2.2.1 1 (by omega)).trans (hag.2.1 1 hk)
end LAW
