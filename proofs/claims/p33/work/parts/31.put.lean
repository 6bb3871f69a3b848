/-! a checker of walks: a field is written -/
section SXH
variable {PF : Nat → List Int → List (Nat → Int) → Prop} {RT : List sxG} {τ : Nat → Option Nat} {S S' : sxS} {σ : sxV} {ρ : sxR} {φ : sxF} {ws : va_W}
variable {p : Program} {l : Launch} {e : Env} {R : Room} {s : State} {m : MethodId} {args : Array Value} {below : List Frame} {meth : Method} {c : Code} {H H0 : Heap} {locs : List Loc} {cells slots : Nat} {Q : State → Prop}
variable {cc : ByteArray} {pc : Nat} {ls : Array Slot} {i : Instr} {st st' : List sxA} {dC : Nat → ClassId} {dI : Nat → Nat → Nat} {kA : Nat → ClassId} {A : Nat → Prop} {own : String} {M : sxK}
/-- the cells stay as their regions say when one of them is changed so -/
theorem sx_wt_set (hT : sx_wt RT kA τ ws) {q0 a : Nat} {e0 x : va_E} (h : ws[q0]? = some (a, e0)) (hx : ∀ r G, τ a = some r → RT[r]? = some G → sx_eok kA τ G x) : sx_wt RT kA τ (ws.set q0 (a, x)) := by
  intro b r hr hrl
  obtain ⟨G, e, h1, h2, h3⟩ := hT b r hr hrl
  by_cases hb : b = a
  · subst hb
    exact ⟨G, x, h1, sx_at_set h, hx r G hr h1⟩
  · exact ⟨G, e, h1, sx_at_ne h hb h2, h3⟩
theorem sx_un_set (hD : va_D A ws) {q0 a R : Nat} {e0 x : va_E} (h : ws[q0]? = some (a, e0)) (hR : τ a = some R) (hl : sx_like M R e0 x) : sx_un M τ ws (ws.set q0 (a, x)) := by
  intro b r hr e he
  by_cases hb : b = a
  · subst hb
    rw [hR] at hr
    cases hr
    have := sx_at_inj hD he ⟨q0, h⟩
    subst this
    exact ⟨x, sx_at_set h, hl⟩
  · exact ⟨e, sx_at_ne h hb he, sx_like.rfl⟩
theorem sx_mok_ne {q0 a : Nat} {e0 x : va_E} (h : ws[q0]? = some (a, e0)) {m : sxM} (hne : ρ m.1.2 ≠ a) (hm : sx_mok σ ρ ws m) : sx_mok σ ρ (ws.set q0 (a, x)) m := by
  unfold sx_mok at hm ⊢
  split <;> rename_i hk <;> simp only [hk] at hm
  · obtain ⟨ci, fs, g1, g2⟩ := hm
    exact ⟨ci, fs, sx_at_ne h hne g1, g2⟩
  · obtain ⟨cA, n, d, g1, g2⟩ := hm
    exact ⟨cA, n, d, sx_at_ne h hne g1, g2⟩
  · obtain ⟨cA, n, d, g1, g2⟩ := hm
    exact ⟨cA, n, d, sx_at_ne h hne g1, g2⟩
theorem sx_cok_ne {q0 a : Nat} {e0 x : va_E} (h : ws[q0]? = some (a, e0)) {y : sxC} (hne : ρ y.1 ≠ a) (hm : sx_cok ρ φ ws y) : sx_cok ρ φ (ws.set q0 (a, x)) y := by
  obtain ⟨cA, n, d, g1, g2⟩ := hm
  exact ⟨cA, n, d, sx_at_ne h hne g1, g2⟩
theorem sx_putf_ok (hx : p.tables.exec = Jvm.exec) (hb : c.code = cc) (hown : s.vm.findClass own = some m.cls) (hts : ∀ w ∈ lwG, w.before args s = true) (hK : va_K (dC, dI) vwCl (tyL kA) s) (hP : va_P (dC, dI) vwCl ws H) (hD : va_D A ws) (hS : va_S A H0 H locs) (hT : sx_wt RT kA τ ws) {FW : Nat → Prop} (hF : sx_Fw FW)
    (hw : sx_wf S) (hr : ∀ a ∈ st, sx_wfA S.1.length S.2.1.length a) (h : sx_sat PF τ S σ ρ φ ws) {ix ci k0 tc : Nat} {q : vw_C} (hfw : FW ci) (hq : vwCl[ci]? = some q) (hk0 : k0 < q.2.2) (hlink : Cond.fieldLink own ix (q.2.1 k0).1 (q.2.1 k0).2.1 (q.2.1 k0).2.2.1 ∈ lwG) (hfin : (q.2.1 k0).2.2.2 = false) {ty : FieldType} (hd : parseFieldDescriptor (q.2.1 k0).2.2.1 = some ty) (htc : sx_tcP tc ty) (hdg : decode cc pc = .ok (.putfield ix, 3)) (ho : sx_putf RT M ci k0 tc S st = some (S', st'))
    (k : ∀ ws' H' locs', va_P (dC, dI) vwCl ws' H' → va_D A ws' → va_S A H0 H' locs' → sx_wt RT kA τ ws' → sx_un M τ ws ws' → sx_gwf S S' → (∀ a ∈ st', sx_wfA S'.1.length S'.2.1.length a) → sx_sat PF τ S' σ ρ φ ws' → W p l e R s m args below meth c H' locs' cells slots Q (F0 m (pc + 3) ls (st'.map (sx_val σ ρ)))) : W p l e R s m args below meth c H locs cells slots Q (F0 m pc ls (st.map (sx_val σ ρ))) := by
  unfold sx_putf at ho
  split at ho
  · rename_i v r z rest
    split at ho
    · rename_i Rg hR
      split at ho
      · rename_i G hG
        split at ho
        · rename_i hc
          simp only [Bool.and_eq_true] at hc
          obtain ⟨⟨⟨⟨c1, c2⟩, c3⟩, c4⟩, c5⟩ := hc
          have c1 : G.1 = 0 := Nat.eq_of_beq_eq_true c1
          have c2 : G.2.1 = ci := Nat.eq_of_beq_eq_true c2
          have c3 := sx_blt c3
          split at ho
          · rename_i qq hseg
            split at ho
            · rename_i hvk
              cases ho
              have hτ := h.2.1 r Rg hR
              have hreg : sx_reg RT S r = some G := by unfold sx_reg; rw [hR]; exact hG
              obtain ⟨en, a1, a2, a3⟩ := sx_reg_ok h hT hreg
              have a2' := a2
              unfold sx_eok at a2
              rw [c1] at a2
              obtain ⟨fs, rfl, e2, e3⟩ := a2
              rw [c2] at a1 a2'
              obtain ⟨q0, hq0⟩ := a1
              have hr1 := sx_wft hr
              have hr2 := sx_wft hr1.2
              have hnf := sx_tc_ok (σ := σ) (ρ := ρ) h c5 htc
              obtain ⟨f1, ty0, f2, f3⟩ := hF ci hfw q hq
              have hkl : k0 < fs.length := by omega
              have hin : sx_inM M Rg k0 := sx_mods_ok c4 (Int.le_refl _) (Int.le_refl _)
              refine va_put (D := (dC, dI)) (ci := ci) (v := sx_val σ ρ v) (ty := ty) (C := q.1) (T := q.2.1) (N := q.2.2) hx hb hts f1 ty0 f2 f3 hown hK hP hD hS q0 hq0 hq k0 hk0 (hts _ hlink) (fun _ h9 => h9) hfin hd hnf.1 hnf.2 hkl hdg (fun H1 locs1 p1 p2 p3 => ?_)
              have hz := sx_zero hw h
              refine k _ H1 locs1 p1 p2 p3 (sx_wt_set hT hq0 ?_) (sx_un_set hD hq0 hτ ?_) ?_ hr2.2 ?_
              · intro r' G' hr' hG'
                rw [hτ] at hr'
                cases hr'
                rw [hG] at hG'
                cases hG'
                unfold sx_eok
                rw [c1]
                refine ⟨fs.set k0 (sx_val σ ρ v), by rw [c2], by rw [List.length_set]; exact e2, fun k' v' hv' => ?_⟩
                by_cases hkk : k0 = k'
                · subst hkk
                  rw [List.getElem?_set_self hkl] at hv'
                  cases hv'
                  exact ⟨qq, hseg, sx_vok_ok h hvk⟩
                · rw [List.getElem?_set_ne hkk] at hv'
                  exact e3 k' v' hv'
              · refine ⟨rfl, List.length_set, fun k' hk' => ?_⟩
                show (fs.set k0 (sx_val σ ρ v))[k']? = fs[k']?
                rw [List.getElem?_set_ne]
                intro hkk
                subst hkk
                exact hk' hin
              · obtain ⟨w0, w00, w1, w2, w3, w4⟩ := hw
                refine ⟨⟨w0, w00, w1, w2, fun x hx => ?_, fun x hx => w4 x (List.mem_filter.mp hx).1⟩, Nat.le_refl _, Nat.le_refl _, Nat.le_refl _⟩
                rcases List.mem_cons.mp hx with rfl | hx
                · exact ⟨a3, w0, hr1.1⟩
                · exact w3 x (List.mem_filter.mp hx).1
              · obtain ⟨g1, g2, g3, g4, g5, g6⟩ := h
                refine ⟨g1, g2, g3, g4, fun x hx => ?_, fun x hx => ?_⟩
                · rcases List.mem_cons.mp hx with rfl | hx
                  · refine ⟨ci, fs.set k0 (sx_val σ ρ v), sx_at_set hq0, ?_, ?_⟩
                    · show 0 ≤ σ 0 + (k0 : Int)
                      omega
                    · show (fs.set k0 (sx_val σ ρ v))[(σ 0 + (k0 : Int)).toNat]? = _
                      rw [hz, Int.zero_add, Int.toNat_natCast]
                      exact List.getElem?_set_self hkl
                  · have hf := List.mem_filter.mp hx
                    have hm := g5 x hf.1
                    have hf2 := hf.2
                    rw [Bool.or_eq_true] at hf2
                    rcases hf2 with hf2 | hf2
                    · exact sx_mok_ne hq0 (sx_regne_ok ⟨g1, g2, g3, g4, g5, g6⟩ hR hf2) hm
                    · by_cases hne : ρ x.1.2 = ρ r
                      · simp only [Bool.and_eq_true] at hf2
                        obtain ⟨⟨d1, d2⟩, d3⟩ := hf2
                        have d1 := Nat.eq_of_beq_eq_true d1
                        have d2 := Nat.eq_of_beq_eq_true d2
                        have d3 : ¬ x.2.1.2 = (k0 : Int) := by simpa using d3
                        unfold sx_mok at hm ⊢
                        simp only [d1] at hm ⊢
                        obtain ⟨ci', fs', m1, m2, m3⟩ := hm
                        rw [hne] at m1
                        have := sx_at_inj hD m1 ⟨q0, hq0⟩
                        cases this
                        refine ⟨ci, fs.set k0 (sx_val σ ρ v), by rw [hne]; exact sx_at_set hq0, m2, ?_⟩
                        rw [List.getElem?_set_ne]
                        · exact m3
                        · unfold sx_tv at m2 ⊢
                          rw [d2, hz] at m2 ⊢
                          omega
                      · exact sx_mok_ne hq0 hne hm
                · have hf := List.mem_filter.mp hx
                  have hf2 := hf.2
                  dsimp only at hf2
                  rw [hR] at hf2
                  exact sx_cok_ne hq0 (sx_regne_ok ⟨g1, g2, g3, g4, g5, g6⟩ hR hf2) (g6 x hf.1)
            · cases ho
          · cases ho
        · cases ho
      · cases ho
    · cases ho
  · cases ho
end SXH
