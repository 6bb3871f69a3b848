/-! a checker of walks: what it takes is right -/
section SXS
variable {PF : Nat → List Int → List (Nat → Int) → Prop} {RT : List sxG} {TK : (Nat → Option Nat) → va_W → State → Prop} {My : Nat → MethodName} {Mc : Nat → ByteArray} {ML : Nat → Nat} {Mr : Nat → Option FieldType} {FW : Nat → Prop} {CT : List sxI} {LT : List (sxS × sxS)} {h : sxH}
variable {τ : Nat → Option Nat} {S S' : sxS} {σ σ' σ0 : sxV} {ρ ρ' ρ0 : sxR} {φ φ' φ0 : sxF} {ws w0 : va_W}
variable {p : Program} {l : Launch} {e : Env} {R : Room} {s : State} {m : MethodId} {args : Array Value} {below : List Frame} {meth : Method} {c : Code} {H H0 : Heap} {locs : List Loc} {cells slots : Nat} {Q : State → Prop}
variable {cc : ByteArray} {pc : Nat} {ls : Array Slot} {i : Instr} {st : List sxA} {loc : List (Nat × sxA)} {dC : Nat → ClassId} {dI : Nat → Nat → Nat} {kA : Nat → ClassId} {A : Nat → Prop} {own : String}
/-- a place that is waited for is right -/
def sx_actok (PF : Nat → List Int → List (Nat → Int) → Prop) (RT : List sxG) (h : sxH) (dC : Nat → ClassId) (dI : Nat → Nat → Nat) (kA : Nat → ClassId) (A : Nat → Prop) (τ : Nat → Option Nat) (H0 : Heap) (w0 : va_W) (p : Program) (l : Launch) (e : Env) (R : Room) (s : State) (m : MethodId) (args : Array Value) (below : List Frame) (meth : Method) (c : Code) (cells slots : Nat) (Q : State → Prop) (act : List sxB) (S : sxS) (σ : sxV) (ρ : sxR) (φ : sxF) : Prop := ∀ a ∈ act, a.2.1.1 ≤ S.1.length ∧ a.2.1.2.1 ≤ S.2.1.length ∧ a.2.1.2.2 ≤ S.2.2.1 ∧ (a.1.2 = true → sx_wfL S.1.length a.2.2.2.2.2) ∧ ∀ (σ' : sxV) (ρ' : sxR) (φ' : sxF) (ws' : va_W) (H' : Heap) (locs' : List Loc) (ls' : Array Slot), (∀ i, i < a.2.1.1 → σ' i = σ i) → (∀ i, i < a.2.1.2.1 → ρ' i = ρ i) → (∀ i, i < a.2.1.2.2 → φ' i = φ i) → sx_dsat PF τ a.2.1.1 a.2.1.2.1 a.2.2.1 σ' ρ' φ' ws' → sx_hp RT h.2.2.2.2.2.1.2.1 dC dI kA A τ H0 w0 ws' H' locs' → lv_has ls' h.2.2.2.2.2.1.1 (sx_loc σ' ρ' a.2.2.2.1) → (a.1.2 = true → 0 ≤ sx_lev σ' a.2.2.2.2.2 ∧ sx_lev σ' a.2.2.2.2.2 < sx_lev σ a.2.2.2.2.2) → W p l e R s m args below meth c H' locs' cells slots Q (F0 m a.1.1 ls' (a.2.2.2.2.1.map (sx_val σ' ρ')))
theorem sx_actok_mono {act : List sxB} (ha : sx_actok PF RT h dC dI kA A τ H0 w0 p l e R s m args below meth c cells slots Q act S σ ρ φ) (hg : S.1.length ≤ S'.1.length ∧ S.2.1.length ≤ S'.2.1.length ∧ S.2.2.1 ≤ S'.2.2.1) (hag : sx_ag S σ σ' ρ ρ' φ φ') : sx_actok PF RT h dC dI kA A τ H0 w0 p l e R s m args below meth c cells slots Q act S' σ' ρ' φ' := by
  intro a hm
  obtain ⟨b1, b2, b3, b4, b5⟩ := ha a hm
  refine ⟨Nat.le_trans b1 hg.1, Nat.le_trans b2 hg.2.1, Nat.le_trans b3 hg.2.2, fun hl => sx_wfL_mono hg.1 (b4 hl), ?_⟩
  intro σ'' ρ'' φ'' ws' H' locs' ls' g1 g2 g3 g4 g5 g6 g7
  refine b5 σ'' ρ'' φ'' ws' H' locs' ls' (fun i hi => (g1 i hi).trans (hag.1 i (Nat.lt_of_lt_of_le hi b1))) (fun i hi => (g2 i hi).trans (hag.2.1 i (Nat.lt_of_lt_of_le hi b2))) (fun i hi => (g3 i hi).trans (hag.2.2 i (Nat.lt_of_lt_of_le hi b3))) g4 g5 g6 (fun hl => ?_)
  have := g7 hl
  rw [sx_lev_ext hag.1 (b4 hl)] at this
  exact this
theorem sx_each_mem {α : Type} {f : α → List sxJ → Option (List sxJ)} : ∀ {l : List α} {i1 i2 : List sxJ}, sx_each f l i1 = some i2 → ∀ a ∈ l, ∃ j1 j2, f a j1 = some j2
  | b :: l, i1, i2, h, a, ha => by
    unfold sx_each at h
    split at h
    · rename_i its' hb
      rcases List.mem_cons.mp ha with rfl | ha
      · exact ⟨_, _, hb⟩
      · exact sx_each_mem h a ha
    · cases h
theorem sx_same_ok {f : Nat → sxT} {g : Nat → Nat} {loc' : List (Nat × sxA)} {st' : List sxA} {nL : Nat} (hsm : sx_same f g loc st loc' st' = true) (hv : lv_has ls nL (sx_loc σ ρ loc)) : lv_has ls nL (sx_loc (sb_σ f σ) (fun i => ρ (g i)) loc') ∧ st.map (sx_val σ ρ) = st'.map (sx_val (sb_σ f σ) (fun i => ρ (g i))) := by
  unfold sx_same at hsm
  rw [Bool.and_eq_true] at hsm
  refine ⟨⟨hv.1, hv.2.1, fun q hq => ?_⟩, ?_⟩
  · obtain ⟨x, hx, rfl⟩ := List.mem_map.mp hq
    have hm := sx_any_mem (List.all_eq_true.mp hsm.1 x hx)
    have := hv.2.2 (x.1, sx_val σ ρ (sb_A f g x.2)) (List.mem_map.mpr ⟨_, hm, rfl⟩)
    rw [← sb_A_ok] at this
    exact this
  · have := of_decide_eq_true hsm.2
    rw [this, sx_map_sb]
theorem sx_wfb_ok {n k : Nat} {loc' : List (Nat × sxA)} {st' : List sxA} (hb : sx_wfb n k loc' st' = true) : (∀ q ∈ loc', sx_wfA n k q.2) ∧ ∀ a ∈ st', sx_wfA n k a := by
  unfold sx_wfb at hb
  rw [Bool.and_eq_true] at hb
  exact ⟨fun q hq => sx_bA_ok (List.all_eq_true.mp hb.1 q hq), fun a ha => sx_bA_ok (List.all_eq_true.mp hb.2 a ha)⟩
theorem sx_vals_mem {x : Nat} : ∀ {n : Nat} {v : Int} {S' : sxS} {w : Int}, sx_brf S .eq (x, 0) (0, w) = some S' → v ≤ w → w < v + n → S' ∈ sx_vals S x n v
  | 0, v, S', w, _, h1, h2 => by omega
  | n + 1, v, S', w, hb, h1, h2 => by
    unfold sx_vals
    by_cases hvw : v = w
    · subst hvw
      rw [hb]
      exact List.mem_append_left _ (List.mem_singleton.mpr rfl)
    · exact List.mem_append_right _ (sx_vals_mem hb (by omega) (by omega))
theorem sx_dsat_any {τ τ' : Nat → Option Nat} {n k k' : Nat} {D : sxS} {σ : sxV} {ρ ρ' : sxR} {φ : sxF} {ws ws' : va_W} (h1 : D.2.1 = []) (h2 : D.2.2.2.2.2.1 = []) (h3 : D.2.2.2.2.2.2 = []) (hd : sx_dsat PF τ n k D σ ρ φ ws) : sx_dsat PF τ' n k' D σ ρ' φ ws' := by
  obtain ⟨d1, d2, d3, d4, d5, d6⟩ := hd
  refine ⟨d1, fun i r hr => ?_, d3, d4, fun m hm => ?_, fun x hx => ?_⟩
  · rw [h1] at hr
    simp at hr
  · rw [h2] at hm
    cases hm
  · rw [h3] at hx
    cases hx
theorem sx_empty {α : Type} {l : List α} (h : l.isEmpty = true) : l = [] := List.isEmpty_iff.mp h
theorem sx_dolem_ok (hwd : va_D A ws) (hLm : ∀ L ∈ LT, sx_lemok PF L) (hw : sx_wf S) (hs : sx_sat PF τ S σ ρ φ ws) {j : sxJ} (ho : sx_dolem LT S j = some S') : sx_gwf S S' ∧ ∃ σ' φ', sx_ag S σ σ' ρ ρ φ φ' ∧ sx_sat PF τ S' σ' ρ φ' ws := by
  unfold sx_dolem at ho
  split at ho
  · rename_i L hL
    split at ho
    · rename_i hc
      cases ho
      simp only [Bool.and_eq_true] at hc
      obtain ⟨⟨⟨⟨⟨⟨⟨⟨⟨⟨⟨c1, c2⟩, c3⟩, c4⟩, c5⟩, c6⟩, c7⟩, c8⟩, c9⟩, c10⟩, c11⟩, c12⟩ := hc
      have c2 := Nat.eq_of_beq_eq_true c2
      have c3 := Nat.eq_of_beq_eq_true c3
      have c6 := sx_empty c6
      have c7 := sx_empty c7
      have c8 := sx_empty c8
      have c9 := sx_empty c9
      have c10 := sx_empty c10
      have c11 := sx_empty c11
      have hd := sx_ent_ok hw hs c1
      obtain ⟨σ1, φ1, g1, g2, g3⟩ := hLm L (List.mem_of_getElem? hL) _ _ (sx_dsat_any c6 c8 c9 hd)
      have hrl : L.2.2.1.length = 0 := by rw [c7]; rfl
      have happ := sx_app_ok (K := []) (k := 0) (rs := []) (D := L.2) (ρ' := fun i => ρ (S.2.1.length + i)) hw hwd hs c2 rfl c3 c4 rfl c5 (by rw [hrl]; exact c12) g1 (fun i hi => absurd hi (Nat.not_lt_zero i)) g2 (sx_dsat_any (τ' := τ) (ρ' := fun i => ρ (S.2.1.length + i)) (ws' := ws) c7 c10 c11 g3) sx_un.rfl
      obtain ⟨a1, a2, a3, -⟩ := happ
      have er : sx_ρ2 0 S.2.1.length ρ (fun i => ρ (S.2.1.length + i)) = ρ := by
        funext i
        show (if i < S.2.1.length then ρ i else ρ (S.2.1.length + (0 + (i - S.2.1.length)))) = ρ i
        by_cases hi : i < S.2.1.length
        · rw [if_pos hi]
        · rw [if_neg hi]
          congr 1
          omega
      rw [er] at a2 a3
      exact ⟨a1, _, _, a2, a3⟩
    · cases ho
  · cases ho
theorem sx_cmi_ok (hT : sx_wt RT kA τ ws) (hw : sx_wf S) (hs : sx_sat PF τ S σ ρ φ ws) {r lo hi : Nat} (ho : sx_cmi RT S r lo hi = some S') : sx_gwf S S' ∧ ∃ φ', sx_ag S σ σ ρ ρ φ φ' ∧ sx_sat PF τ S' σ ρ φ' ws := by
  unfold sx_cmi at ho
  split at ho
  · rename_i G hG
    split at ho
    · rename_i hc
      have c1 : G.1 = 1 := Nat.eq_of_beq_eq_true hc
      cases ho
      obtain ⟨en, a1, a2, a3⟩ := sx_reg_ok hs hT hG
      unfold sx_eok at a2
      rw [c1] at a2
      obtain ⟨n, d, rfl, -⟩ := a2
      have hag : sx_ag S σ σ ρ ρ φ (sx_upf φ S.2.2.1 (sx_num d)) := ⟨fun _ _ => rfl, fun _ _ => rfl, fun i hi => if_neg (by omega)⟩
      have hs' := sx_sat_ext PF hw hag hs
      obtain ⟨w0, w00, w1, w2, w3, w4⟩ := hw
      obtain ⟨g1, g2, g3, g4, g5, g6⟩ := hs'
      refine ⟨⟨⟨w0, w00, w1, fun x hx => sx_wfP_mono (Nat.le_refl _) (Nat.le_succ _) (w2 x hx), w3, fun x hx => ?_⟩, Nat.le_refl _, Nat.le_refl _, Nat.le_succ _⟩, _, hag, g1, g2, g3, g4, g5, fun x hx => ?_⟩
      · rcases List.mem_cons.mp hx with rfl | hx
        · exact ⟨a3, Nat.lt_succ_self _⟩
        · exact sx_wfC_mono (Nat.le_refl _) (Nat.le_succ _) (w4 x hx)
      · rcases List.mem_cons.mp hx with rfl | hx
        · refine ⟨_, n, d, a1, fun k _ _ _ => ?_⟩
          show _ = sx_upf φ S.2.2.1 (sx_num d) S.2.2.1 k
          have : sx_upf φ S.2.2.1 (sx_num d) S.2.2.1 = sx_num d := if_pos rfl
          rw [this]
        · exact g6 x hx
    · cases ho
  · cases ho
theorem sx_norm_ok {nL a : Nat} (hw : sx_wf S) (hl : sx_wl S loc st) (hs : sx_sat PF τ S σ ρ φ ws) (hv : lv_has ls nL (sx_loc σ ρ loc)) {o : sxS × List (Nat × sxA) × List sxA} (ho : sx_norm nL a S loc st = some o) : sx_gwf S o.1 ∧ sx_wl o.1 o.2.1 o.2.2 ∧ ∃ σ', sx_ag S σ σ' ρ ρ φ φ ∧ sx_sat PF τ o.1 σ' ρ φ ws ∧ lv_has ls nL (sx_loc σ' ρ o.2.1) ∧ st.map (sx_val σ ρ) = o.2.2.map (sx_val σ' ρ) := by
  have gw : sx_gwf S (sx_new S sx_full [] []) := by
    refine ⟨sx_new_wf hw (fun f hf => by cases hf) (fun p hp => by cases hp), ?_, Nat.le_refl _, Nat.le_refl _⟩
    show S.1.length ≤ (S.1 ++ [_]).length
    simp
  have hlen : (sx_new S sx_full [] []).1.length = S.1.length + 1 := by simp [sx_new]
  have wn : sx_wfA (sx_new S sx_full [] []).1.length (sx_new S sx_full [] []).2.1.length (0, S.1.length, 0) := Or.inr (Or.inl ⟨by show 0 < 2; omega, by rw [hlen]; exact Nat.lt_succ_self _⟩)
  have ev : ∀ z : Int32, sx_val (sx_up σ S.1.length z.toInt) ρ (0, S.1.length, 0) = .int z := fun z => by
    show Value.int (Int32.ofInt (sx_up σ S.1.length z.toInt S.1.length + 0)) = _
    rw [sx_up_n, Int.add_zero, Int32.ofInt_toInt]
  unfold sx_norm at ho
  split at ho
  · split at ho
    · rename_i t r
      cases ho
      have hr := sx_wft hl.2
      have hag : sx_ag S σ (sx_up σ S.1.length (Int32.ofInt (sx_tv σ t)).toInt) ρ ρ φ φ := ⟨sx_up_lt, fun _ _ => rfl, fun _ _ => rfl⟩
      refine ⟨gw, ⟨sx_wl_mono gw hl.1, sx_wfc wn (fun b hb => sx_wfA_mono gw.2.1 gw.2.2.1 (hr.2 b hb))⟩, _, hag, sx_new_ok hw hs (t_rng32 _).1 (t_rng32 _).2 (fun f hf => by cases hf) (fun p hp => by cases hp), by rw [sx_loc_ext hag.1 hag.2.1 hl.1]; exact hv, ?_⟩
      rw [List.map_cons, List.map_cons, ev, sx_map_ext hag.1 hag.2.1 hr.2]
      rfl
    · cases ho
  · rename_i k
    split at ho
    · rename_i t hlk
      split at ho
      · rename_i hk
        cases ho
        have hag : sx_ag S σ (sx_up σ S.1.length (Int32.ofInt (sx_tv σ t)).toInt) ρ ρ φ φ := ⟨sx_up_lt, fun _ _ => rfl, fun _ _ => rfl⟩
        have hl' : ∀ q ∈ loc.filter (fun q => !(q.1 == k)), sx_wfA S.1.length S.2.1.length q.2 := fun q hq => hl.1 q (List.mem_filter.mp hq).1
        refine ⟨gw, ⟨fun q hq => ?_, fun b hb => sx_wfA_mono gw.2.1 gw.2.2.1 (hl.2 b hb)⟩, _, hag, sx_new_ok hw hs (t_rng32 _).1 (t_rng32 _).2 (fun f hf => by cases hf) (fun p hp => by cases hp), ⟨hv.1, hv.2.1, fun q hq => ?_⟩, by rw [sx_map_ext hag.1 hag.2.1 hl.2]⟩
        · rcases List.mem_cons.mp hq with rfl | hq
          · exact wn
          · exact sx_wfA_mono gw.2.1 gw.2.2.1 (hl' q hq)
        · obtain ⟨x, hx, rfl⟩ := List.mem_map.mp hq
          rcases List.mem_cons.mp hx with rfl | hx
          · show ls[k]? = some (.val (sx_val _ ρ (0, S.1.length, 0)))
            rw [ev]
            exact sx_lk_at hv hlk
          · have := hv.2.2 (x.1, sx_val σ ρ x.2) (List.mem_map.mpr ⟨x, (List.mem_filter.mp hx).1, rfl⟩)
            show ls[x.1]? = some (.val (sx_val _ ρ x.2))
            rw [sx_val_ext hag.1 hag.2.1 (hl' x hx)]
            exact this
      · cases ho
    · cases ho
set_option maxHeartbeats 2000000 in
theorem sx_exec_ok (hc : sx_cx PF RT TK My Mc ML Mr FW CT LT h l p R s m args c cc own dC dI kA A τ H0) (hR : 1 ≤ R.frames) (hcs : cells ≤ R.cells ∧ slots ≤ R.slots) (hRH : sx_RH PF RT h dC dI kA A τ H0 w0 σ0 ρ0 φ0 p l e R s m args below meth c cc cells slots Q) : ∀ (n pc : Nat) (S : sxS) (loc : List (Nat × sxA)) (st : List sxA) (act : List sxB) (its its2 : List sxJ), sx_exec RT CT LT h n pc S loc st act its = some its2 → ∀ (σ : sxV) (ρ : sxR) (φ : sxF) (ws : va_W) (H : Heap) (locs : List Loc) (ls : Array Slot), sx_wf S → sx_wl S loc st → (h.2.2.2.2.2.2.1.1 ≤ S.1.length ∧ h.2.2.2.2.2.2.1.2.1 ≤ S.2.1.length ∧ h.2.2.2.2.2.2.1.2.2 ≤ S.2.2.1) → ((∀ i, i < h.2.2.2.2.2.2.1.1 → σ i = σ0 i) ∧ (∀ i, i < h.2.2.2.2.2.2.1.2.1 → ρ i = ρ0 i) ∧ ∀ i, i < h.2.2.2.2.2.2.1.2.2 → φ i = φ0 i) → sx_actok PF RT h dC dI kA A τ H0 w0 p l e R s m args below meth c cells slots Q act S σ ρ φ → sx_sat PF τ S σ ρ φ ws → sx_hp RT h.2.2.2.2.2.1.2.1 dC dI kA A τ H0 w0 ws H locs → lv_has ls h.2.2.2.2.2.1.1 (sx_loc σ ρ loc) → W p l e R s m args below meth c H locs cells slots Q (F0 m pc ls (st.map (sx_val σ ρ)))
  | 0, pc, S, loc, st, act, its, its2, hx, _, _, _, _, _, _, _, _, _, _, _, _, _, _, _ => by
    unfold sx_exec at hx
    cases hx
  | n + 1, pc, S, loc, st, act, its, its2, hx, σ, ρ, φ, ws, H, locs, ls, hw, hl, hn, hg0, hact, hs, hp, hv => by
    have IH := sx_exec_ok hc hR hcs hRH n
    have next : ∀ {S' : sxS} {σ' : sxV} {ρ' : sxR} {φ' : sxF}, sx_gwf S S' → sx_ag S σ σ' ρ ρ' φ φ' → (h.2.2.2.2.2.2.1.1 ≤ S'.1.length ∧ h.2.2.2.2.2.2.1.2.1 ≤ S'.2.1.length ∧ h.2.2.2.2.2.2.1.2.2 ≤ S'.2.2.1) ∧ ((∀ i, i < h.2.2.2.2.2.2.1.1 → σ' i = σ0 i) ∧ (∀ i, i < h.2.2.2.2.2.2.1.2.1 → ρ' i = ρ0 i) ∧ ∀ i, i < h.2.2.2.2.2.2.1.2.2 → φ' i = φ0 i) ∧ sx_actok PF RT h dC dI kA A τ H0 w0 p l e R s m args below meth c cells slots Q act S' σ' ρ' φ' := fun gw ag => ⟨⟨Nat.le_trans hn.1 gw.2.1, Nat.le_trans hn.2.1 gw.2.2.1, Nat.le_trans hn.2.2 gw.2.2.2⟩, ⟨fun i hi => (ag.1 i (Nat.lt_of_lt_of_le hi hn.1)).trans (hg0.1 i hi), fun i hi => (ag.2.1 i (Nat.lt_of_lt_of_le hi hn.2.1)).trans (hg0.2.1 i hi), fun i hi => (ag.2.2 i (Nat.lt_of_lt_of_le hi hn.2.2)).trans (hg0.2.2 i hi)⟩, sx_actok_mono hact gw.2 ag⟩
    have hLm := hc.2.2.2.2.2.1
    have go : ∀ its its2, (match sx_find h.1 pc with
      | none => none
      | some q => match sx_step RT h pc q.1 q.2 S loc st with
        | some O => sx_each (fun o its => sx_exec RT CT LT h n o.2.2.2 o.1 o.2.1 o.2.2.1 act its) O its
        | none => match its with
          | [] => none
          | j :: its => if Nat.beq (sx_kind q.1) 12 then (if sx_doret h S q.1 st j then some its else none) else if Nat.beq (sx_kind q.1) 11 then (match sx_docall RT CT h S q.1 st j with
            | some O => sx_each (fun o its => sx_exec RT CT LT h n (pc + 3) o.1 loc o.2 act its) O its
            | none => none) else none) = some its2 → W p l e R s m args below meth c H locs cells slots Q (F0 m pc ls (st.map (sx_val σ ρ))) := by
      intro its its2 hx
      split at hx
      · cases hx
      · rename_i q hq
        split at hx
        · rename_i O hO
          refine sx_step_ok (i := q.1) (len := q.2) hc hR hcs hq hO hw hl hs hp hv (fun o ho σ' ρ' φ' ws' H' locs' ls' gw wl ag hs' hp' hv' => ?_)
          obtain ⟨j1, j2, hj⟩ := sx_each_mem hx o ho
          obtain ⟨n1, n2, n3⟩ := next gw ag
          exact IH _ _ _ _ _ _ _ hj σ' ρ' φ' ws' H' locs' ls' gw.1 wl n1 n2 n3 hs' hp' hv'
        · split at hx
          · cases hx
          · rename_i j its'
            split at hx
            · split at hx
              · rename_i hr
                exact sx_doret_ok (i := q.1) (len := q.2) hc hRH hq hr hw hs hp hg0.1 hg0.2.1 hg0.2.2
              · cases hx
            · split at hx
              · rename_i hk
                split at hx
                · rename_i O hO
                  refine sx_docall_ok (i := q.1) (len := q.2) hc hcs hq (Nat.eq_of_beq_eq_true hk) hO hw hl hs hp hv (fun o ho σ' ρ' φ' ws' H' locs' ls' gw wl ag hs' hp' hv' => ?_)
                  obtain ⟨j1, j2, hj⟩ := sx_each_mem hx o ho
                  obtain ⟨n1, n2, n3⟩ := next gw ag
                  exact IH _ _ _ _ _ _ _ hj σ' ρ' φ' ws' H' locs' ls' gw.1 wl n1 n2 n3 hs' hp' hv'
                · cases hx
              · cases hx
    unfold sx_exec at hx
    dsimp only at hx
    split at hx
    · exact go _ _ hx
    · rename_i j its'
      split at hx
      · split at hx
        · -- a loop
          split at hx
          · rename_i hb
            simp only [Bool.and_eq_true] at hb
            obtain ⟨⟨⟨b1, b2⟩, b3⟩, b4⟩ := hb
            have gw := sx_ext_wf hw b1
            have wl := sx_wfb_ok b2
            unfold sx_arr at b4
            rw [Bool.and_eq_true] at b4
            have hd := sx_ent_ok hw hs b4.1
            obtain ⟨hv1, hst1⟩ := sx_same_ok b4.2 hv
            have l1 : (sx_ext S j.2.2.1).1.length = S.1.length + j.2.2.1.1.length := by simp [sx_ext]
            have l2 : (sx_ext S j.2.2.1).2.1.length = S.2.1.length + j.2.2.1.2.1.length := by simp [sx_ext]
            have hwl : sx_wl (sx_ext S j.2.2.1) j.2.2.2.1 j.2.2.2.2.1 := by
              unfold sx_wl
              rw [l1, l2]
              exact wl
            have key : ∀ (N : Nat) (σ1 : sxV) (ρ1 : sxR) (φ1 : sxF) (ws1 : va_W) (H1 : Heap) (locs1 : List Loc) (ls1 : Array Slot), sx_ag S σ σ1 ρ ρ1 φ φ1 → sx_dsat PF τ S.1.length S.2.1.length j.2.2.1 σ1 ρ1 φ1 ws1 → sx_hp RT h.2.2.2.2.2.1.2.1 dC dI kA A τ H0 w0 ws1 H1 locs1 → lv_has ls1 h.2.2.2.2.2.1.1 (sx_loc σ1 ρ1 j.2.2.2.1) → (sx_lev σ1 j.2.2.2.2.2).toNat < N → W p l e R s m args below meth c H1 locs1 cells slots Q (F0 m pc ls1 (j.2.2.2.2.1.map (sx_val σ1 ρ1))) := by
              intro N
              induction N with
              | zero => intro σ1 ρ1 φ1 ws1 H1 locs1 ls1 _ _ _ _ hN; omega
              | succ N ihN =>
                intro σ1 ρ1 φ1 ws1 H1 locs1 ls1 ag1 hd1 hp1 hv1 hN
                obtain ⟨n1, n2, n3⟩ := next gw ag1
                refine IH _ _ _ _ _ _ _ hx σ1 ρ1 φ1 ws1 H1 locs1 ls1 gw.1 hwl n1 n2 ?_ (sx_ext_sat hw hs ag1 hd1) hp1 hv1
                intro a hm
                rcases List.mem_cons.mp hm with rfl | hm
                · refine ⟨gw.2.1, gw.2.2.1, gw.2.2.2, fun _ q hq => ?_, ?_⟩
                  · rw [l1]
                    exact sx_blt (List.all_eq_true.mp b3 q hq)
                  · intro σ2 ρ2 φ2 ws2 H2 locs2 ls2 g1 g2 g3 g4 g5 g6 g7
                    have g7 := g7 rfl
                    refine ihN σ2 ρ2 φ2 ws2 H2 locs2 ls2 ⟨fun i hi => (g1 i hi).trans (ag1.1 i hi), fun i hi => (g2 i hi).trans (ag1.2.1 i hi), fun i hi => (g3 i hi).trans (ag1.2.2 i hi)⟩ g4 g5 g6 ?_
                    have g8 : 0 ≤ sx_lev σ2 j.2.2.2.2.2 ∧ sx_lev σ2 j.2.2.2.2.2 < sx_lev σ1 j.2.2.2.2.2 := g7
                    omega
                · exact n3 a hm
            rw [hst1]
            exact key _ _ _ _ ws H locs ls ⟨sx_f1_lt, fun i hi => by show ρ (sx_g1 _ _ i) = _; rw [sx_g1_lt i hi], fun i hi => by show φ (sx_g1 _ _ i) = _; rw [sx_g1_lt i hi]⟩ hd hp hv1 (Nat.lt_succ_self _)
          · cases hx
        · -- a join
          split at hx
          · rename_i hb
            rw [Bool.and_eq_true] at hb
            obtain ⟨b1, b2⟩ := hb
            have gw := sx_ext_wf hw b1
            have wl := sx_wfb_ok b2
            have l1 : (sx_ext S j.2.2.1).1.length = S.1.length + j.2.2.1.1.length := by simp [sx_ext]
            have l2 : (sx_ext S j.2.2.1).2.1.length = S.2.1.length + j.2.2.1.2.1.length := by simp [sx_ext]
            have hwl : sx_wl (sx_ext S j.2.2.1) j.2.2.2.1 j.2.2.2.2.1 := by
              unfold sx_wl
              rw [l1, l2]
              exact wl
            split at hx
            · rename_i its3 hj1
              refine IH _ _ _ _ _ _ _ hx σ ρ φ ws H locs ls hw hl hn hg0 ?_ hs hp hv
              intro a hm
              rcases List.mem_cons.mp hm with rfl | hm
              · refine ⟨Nat.le_refl _, Nat.le_refl _, Nat.le_refl _, fun hf => (by cases hf), ?_⟩
                intro σ2 ρ2 φ2 ws2 H2 locs2 ls2 g1 g2 g3 g4 g5 g6 _
                have ag : sx_ag S σ σ2 ρ ρ2 φ φ2 := ⟨g1, g2, g3⟩
                obtain ⟨n1, n2, n3⟩ := next gw ag
                exact IH _ _ _ _ _ _ _ hj1 σ2 ρ2 φ2 ws2 H2 locs2 ls2 gw.1 hwl n1 n2 n3 (sx_ext_sat hw hs ag g4) g5 g6
              · exact hact a hm
            · cases hx
          · cases hx
        · -- a place is reached
          split at hx
          · rename_i a ha
            split at hx
            · rename_i hb
              simp only [Bool.and_eq_true] at hb
              obtain ⟨⟨b1, b2⟩, b3⟩ := hb
              have b1 := Nat.eq_of_beq_eq_true b1
              unfold sx_arr at b2
              rw [Bool.and_eq_true] at b2
              have hd := sx_ent_ok hw hs b2.1
              obtain ⟨hv1, hst1⟩ := sx_same_ok b2.2 hv
              obtain ⟨c1, c2, c3, c4, c5⟩ := hact a (List.mem_of_getElem? ha)
              rw [hst1, ← b1]
              refine c5 _ _ _ ws H locs ls sx_f1_lt (fun i hi => by show ρ (sx_g1 _ _ i) = _; rw [sx_g1_lt i hi]) (fun i hi => by show φ (sx_g1 _ _ i) = _; rw [sx_g1_lt i hi]) hd hp hv1 (fun hlp => ?_)
              rw [hlp] at b3
              have b3 : (sx_prove S.1 S.2.2.2.1 (sb_L (sx_f1 a.2.1.1 j.2.1.1) a.2.2.2.2.2) && sx_prove S.1 S.2.2.2.1 (sx_sub (a.2.2.2.2.2.1, a.2.2.2.2.2.2 - 1) (sb_L (sx_f1 a.2.1.1 j.2.1.1) a.2.2.2.2.2))) = true := b3
              rw [Bool.and_eq_true] at b3
              have m1 := sx_prove_ok hs.1 hs.2.2.1 b3.1
              have m2 := sx_prove_ok hs.1 hs.2.2.1 b3.2
              rw [sx_sub_ev] at m2
              rw [sb_L_ok]
              refine ⟨m1, ?_⟩
              have e1 : sx_lev σ (a.2.2.2.2.2.1, a.2.2.2.2.2.2 - 1) = sx_lev σ a.2.2.2.2.2 - 1 := by
                show sx_ev σ a.2.2.2.2.2.1 + (a.2.2.2.2.2.2 - 1) = sx_ev σ a.2.2.2.2.2.1 + a.2.2.2.2.2.2 - 1
                omega
              rw [e1] at m2
              omega
            · cases hx
          · cases hx
        · -- a lemma
          split at hx
          · rename_i S' hS'
            obtain ⟨gw, σ', φ', ag, hs'⟩ := sx_dolem_ok hp.2.1 hLm hw hs hS'
            obtain ⟨n1, n2, n3⟩ := next gw ag
            have k := IH _ _ _ _ _ _ _ hx σ' ρ φ' ws H locs ls gw.1 ⟨sx_wl_mono gw hl.1, fun a ha => sx_wfA_mono gw.2.1 gw.2.2.1 (hl.2 a ha)⟩ n1 n2 n3 hs' hp (by rw [sx_loc_ext ag.1 ag.2.1 hl.1]; exact hv)
            rw [sx_map_ext ag.1 ag.2.1 hl.2] at k
            exact k
          · cases hx
        · -- a split
          split at hx
          · rename_i ev hev
            have b := hs.1 _ _ hev
            have hz := sx_zero hw hs
            have hlt := (List.getElem?_eq_some_iff.mp hev).1
            obtain ⟨S', e1, m1⟩ := sx_brf_ok (c := .eq) (x := (j.1.2.2, 0)) (y := (0, σ j.1.2.2)) hw hs hlt hw.1 (by show σ j.1.2.2 + 0 = σ 0 + σ j.1.2.2; omega)
            have hmem := sx_vals_mem (n := (ev.2 - ev.1 + 1).toNat) (v := ev.1) e1 b.1 (by omega)
            obtain ⟨j1, j2, hj⟩ := sx_each_mem hx S' hmem
            have gw : sx_gwf S S' := ⟨m1.1, by rw [m1.2.1]; exact Nat.le_refl _, by rw [m1.2.2.1]; exact Nat.le_refl _, by rw [m1.2.2.2.1]; exact Nat.le_refl _⟩
            obtain ⟨n1, n2, n3⟩ := next gw (sx_ag_refl (S := S) (σ := σ) (ρ := ρ) (φ := φ))
            exact IH _ _ _ _ _ _ _ hj σ ρ φ ws H locs ls m1.1 ⟨sx_wl_mono gw hl.1, fun a ha => sx_wfA_mono gw.2.1 gw.2.2.1 (hl.2 a ha)⟩ n1 n2 n3 m1.2.2.2.2 hp hv
          · cases hx
        · -- a content
          split at hx
          · split at hx
            · rename_i S' hS'
              obtain ⟨gw, φ', ag, hs'⟩ := sx_cmi_ok hp.2.2.2.1 hw hs hS'
              obtain ⟨n1, n2, n3⟩ := next gw ag
              exact IH _ _ _ _ _ _ _ hx σ ρ φ' ws H locs ls gw.1 ⟨sx_wl_mono gw hl.1, fun a ha => sx_wfA_mono gw.2.1 gw.2.2.1 (hl.2 a ha)⟩ n1 n2 n3 hs' hp hv
            · cases hx
          · cases hx
        · -- it can't be
          split at hx
          · rename_i hb
            have := sx_prove_ok hs.1 hs.2.2.1 hb
            have e1 : sx_lev σ ([], -1) = -1 := rfl
            omega
          · cases hx
        · -- a fact
          split at hx
          · rename_i hb
            rw [Bool.and_eq_true] at hb
            have hf := sx_prove_ok hs.1 hs.2.2.1 hb.2
            obtain ⟨S', e1, m1⟩ := sx_asm_ok hw hs (fun q hq => sx_blt (List.all_eq_true.mp hb.1 q hq)) hf
            rw [e1] at hx
            have gw : sx_gwf S S' := ⟨m1.1, by rw [m1.2.1]; exact Nat.le_refl _, by rw [m1.2.2.1]; exact Nat.le_refl _, by rw [m1.2.2.2.1]; exact Nat.le_refl _⟩
            obtain ⟨n1, n2, n3⟩ := next gw (sx_ag_refl (S := S) (σ := σ) (ρ := ρ) (φ := φ))
            exact IH _ _ _ _ _ _ _ hx σ ρ φ ws H locs ls m1.1 ⟨sx_wl_mono gw hl.1, fun a ha => sx_wfA_mono gw.2.1 gw.2.2.1 (hl.2 a ha)⟩ n1 n2 n3 m1.2.2.2.2 hp hv
          · cases hx
        · -- a number's own name
          split at hx
          · rename_i o hO
            obtain ⟨gw, wl, σ', ag, hs', hv', hst'⟩ := sx_norm_ok hw hl hs hv hO
            obtain ⟨n1, n2, n3⟩ := next gw ag
            rw [hst']
            exact IH _ _ _ _ _ _ _ hx σ' ρ φ ws H locs ls gw.1 wl n1 n2 n3 hs' hp hv'
          · cases hx
        · -- facts let go
          have gw : sx_gwf S (sx_drop S j.2.1.2.1 j.2.1.2.2) := ⟨⟨hw.1, hw.2.1, fun f hf => hw.2.2.1 f (sx_mask_mem _ _ f hf), fun f hf => hw.2.2.2.1 f (sx_mask_mem _ _ f hf), hw.2.2.2.2⟩, Nat.le_refl _, Nat.le_refl _, Nat.le_refl _⟩
          obtain ⟨n1, n2, n3⟩ := next gw (sx_ag_refl (S := S) (σ := σ) (ρ := ρ) (φ := φ))
          exact IH _ _ _ _ _ _ _ hx σ ρ φ ws H locs ls gw.1 hl n1 n2 n3 ⟨hs.1, hs.2.1, fun f hf => hs.2.2.1 f (sx_mask_mem _ _ f hf), fun f hf => hs.2.2.2.1 f (sx_mask_mem _ _ f hf), hs.2.2.2.2⟩ hp hv
        · cases hx
      · exact go _ _ hx
end SXS
