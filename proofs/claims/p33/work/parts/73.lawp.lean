def sxP0 : sxS := ([(.ofNat 0, .ofNat 0), (.ofNat 0, .ofNat 7), (.ofNat 0, .ofNat 8), (.ofNat 0, .ofNat 20), (.ofNat 0, .ofNat 400), (.negSucc 2147483647, .ofNat 2147483647), (.ofNat 0, .ofNat 6), (.ofNat 0, .ofNat 2147483647), (.ofNat 0, .ofNat 2147483647), (.ofNat 0, .ofNat 2147483647), (.ofNat 0, .ofNat 2147483647), (.ofNat 0, .ofNat 2147483647), (.ofNat 0, .ofNat 1), (.ofNat 0, .ofNat 1), (.ofNat 0, .ofNat 1), (.ofNat 0, .ofNat 1)], [0, 43, 53, 54, 63, 45, 47, 48, 46, 50, 49, 44, 55, 56, 58, 65, 66, 11, 19, 12, 13, 14, 15], 6, [], [(20, [(0, .ofNat 1), (1, .ofNat 0), (2, .ofNat 0)], [0]), (21, [(3, .ofNat 0), (1, .ofNat 0)], [1]), (22, [], [2]), (23, [], [3, 4, 5])], [((0, 1), (0, .ofNat 20), (2, 2, .ofNat 0)), ((0, 1), (0, .ofNat 24), (2, 3, .ofNat 0)), ((0, 1), (0, .ofNat 38), (2, 4, .ofNat 0)), ((0, 1), (0, .ofNat 3), (2, 5, .ofNat 0)), ((0, 1), (0, .ofNat 5), (2, 6, .ofNat 0)), ((0, 1), (0, .ofNat 6), (2, 7, .ofNat 0)), ((0, 1), (0, .ofNat 4), (2, 8, .ofNat 0)), ((0, 1), (0, .ofNat 15), (2, 9, .ofNat 0)), ((0, 1), (0, .ofNat 7), (2, 10, .ofNat 0)), ((0, 1), (0, .ofNat 0), (2, 11, .ofNat 0)), ((0, 1), (0, .ofNat 26), (2, 12, .ofNat 0)), ((0, 1), (0, .ofNat 27), (2, 13, .ofNat 0)), ((0, 1), (0, .ofNat 31), (2, 14, .ofNat 0)), ((0, 1), (0, .ofNat 40), (2, 15, .ofNat 0)), ((0, 1), (0, .ofNat 41), (2, 16, .ofNat 0)), ((0, 1), (0, .ofNat 25), (0, 3, .ofNat 0)), ((0, 1), (0, .ofNat 1), (0, 4, .ofNat 0)), ((0, 1), (0, .ofNat 10), (0, 5, .ofNat 0)), ((0, 1), (0, .ofNat 2), (0, 6, .ofNat 0)), ((0, 1), (0, .ofNat 22), (0, 7, .ofNat 0)), ((1, 15), (0, .ofNat 0), (0, 8, .ofNat 0)), ((1, 15), (0, .ofNat 1), (0, 9, .ofNat 0)), ((1, 15), (0, .ofNat 2), (0, 10, .ofNat 0)), ((1, 15), (0, .ofNat 3), (0, 11, .ofNat 0)), ((1, 16), (0, .ofNat 0), (0, 12, .ofNat 0)), ((1, 16), (0, .ofNat 1), (0, 13, .ofNat 0)), ((1, 16), (0, .ofNat 2), (0, 14, .ofNat 0)), ((1, 16), (0, .ofNat 3), (0, 15, .ofNat 0)), ((0, 0), (0, .ofNat 4), (2, 17, .ofNat 0)), ((0, 0), (0, .ofNat 5), (2, 18, .ofNat 0)), ((0, 17), (0, .ofNat 7), (0, 7, .ofNat 0)), ((1, 18), (0, .ofNat 0), (2, 19, .ofNat 0)), ((0, 19), (0, .ofNat 7), (0, 8, .ofNat 0)), ((0, 19), (0, .ofNat 8), (0, 12, .ofNat 0)), ((1, 18), (0, .ofNat 1), (2, 20, .ofNat 0)), ((0, 20), (0, .ofNat 7), (0, 9, .ofNat 0)), ((0, 20), (0, .ofNat 8), (0, 13, .ofNat 0)), ((1, 18), (0, .ofNat 2), (2, 21, .ofNat 0)), ((0, 21), (0, .ofNat 7), (0, 10, .ofNat 0)), ((0, 21), (0, .ofNat 8), (0, 14, .ofNat 0)), ((1, 18), (0, .ofNat 3), (2, 22, .ofNat 0)), ((0, 22), (0, .ofNat 7), (0, 11, .ofNat 0)), ((0, 22), (0, .ofNat 8), (0, 15, .ofNat 0))], [(2, (0, 108), 0), (3, (0, 580), 1), (4, (0, 432), 2), (5, (0, 2400), 3), (6, (0, 288), 4), (7, (0, 6), 5)])
/-! the law: what stands between two calls; a call's arguments -/
theorem sxP0_wf : sx_wf sxP0 := (sx_Iok_wf (I := (0, (1, 40), sxP0, [], [], [])) (by decide +kernel)).1
def sxP1 (e : sxE) : sxS := sx_new (sx_new (sx_new (sx_new (sx_new sxP0 e [] []) sx_full [] []) sx_full [] []) sx_full [] []) sx_full [] []
theorem law_int (x : Int32) : Int32.ofInt (x.toInt + 0) = x := by
  rw [Int.add_zero]
  exact Int32.ofInt_toInt x
theorem law_full (x : Int32) : sx_full.1 ≤ x.toInt ∧ x.toInt ≤ sx_full.2 := t_rng32 x
theorem law_args {PF : Nat → List Int → List (Nat → Int) → Prop} {τ : Nat → Option Nat} {σ : sxV} {ρ : sxR} {φ : sxF} {ws : va_W} {s : State} {H H0 : Heap} {locs : List Loc} {dC : Nat → ClassId} {dI : Nat → Nat → Nat} {kA : Nat → ClassId} {A : Nat → Prop} (hp : lc_hp PF s dC dI kA A τ H0 sxP0 σ ρ φ ws H locs) (e : sxE) (x1 x2 x3 x4 x5 : Int32) (h1 : e.1 ≤ x1.toInt) (h2 : x1.toInt ≤ e.2) : ∃ σ1 : sxV, sx_wf (sxP1 e) ∧ lc_hp PF s dC dI kA A τ H0 (sxP1 e) σ1 ρ φ ws H locs ∧ σ1 0 = 0 ∧ sx_val σ1 ρ (0, 16, 0) = .int x1 ∧ sx_val σ1 ρ (0, 17, 0) = .int x2 ∧ sx_val σ1 ρ (0, 18, 0) = .int x3 ∧ sx_val σ1 ρ (0, 19, 0) = .int x4 ∧ sx_val σ1 ρ (0, 20, 0) = .int x5 := by
  obtain ⟨hs, h⟩ := hp
  have z : σ 0 = 0 := sx_zero sxP0_wf hs
  obtain ⟨w1, s1, -⟩ := lc_arg sxP0_wf hs e x1.toInt h1 h2
  obtain ⟨w2, s2, -⟩ := lc_arg w1 s1 sx_full x2.toInt (law_full x2).1 (law_full x2).2
  obtain ⟨w3, s3, -⟩ := lc_arg w2 s2 sx_full x3.toInt (law_full x3).1 (law_full x3).2
  obtain ⟨w4, s4, -⟩ := lc_arg w3 s3 sx_full x4.toInt (law_full x4).1 (law_full x4).2
  obtain ⟨w5, s5, -⟩ := lc_arg w4 s4 sx_full x5.toInt (law_full x5).1 (law_full x5).2
  refine ⟨_, w5, ⟨s5, h⟩, ?_, ?_, ?_, ?_, ?_, ?_⟩
  · exact z
  · exact congrArg Value.int (law_int x1)
  · exact congrArg Value.int (law_int x2)
  · exact congrArg Value.int (law_int x3)
  · exact congrArg Value.int (law_int x4)
  · exact congrArg Value.int (law_int x5)
/-- a number of the script, onto the stack -/
theorem law_ld {p : Program} {l : Launch} {e : Env} {s : State} {m : MethodId} {args : Array Value} {below : List Frame} {meth : Method} {c : Code} {H : Heap} {locs : List Loc} {cells slots : Nat} {Q : State → Prop} {pc : Nat} {ls : Array Slot} {A : Nat → Prop} {b L i k : Nat} {kc : Int} {xs : Nat → Int32} {q q' : Nat} {rest : List Value} (hx : p.tables.exec = Jvm.exec) (hb : c.code = cL_law) (hX : va_X b L xs s s.heap) (hbl : b < s.heap.size) (hbA : ¬ A b) (hS : va_S A s.heap H locs) (hl : lv_has ls 4 [(3, .int (nI i)), (2, .ref q), (1, .ref q'), (0, .ref b)]) (hL : L ≤ 3072) (hi : i + 6 ≤ L) (hk : k < 6) (hkc : Int32.ofInt kc = nI k) (d0 : decode cL_law pc = .ok (.aload_n 0, 1)) (d1 : decode cL_law (pc + 1) = .ok (.iload_n 3, 1)) (d2 : decode cL_law (pc + 2) = .ok (.iconst kc, 1)) (d3 : decode cL_law (pc + 3) = .ok (.iadd, 1)) (d4 : decode cL_law (pc + 4) = .ok (.iaload, 1))
    (kk : W p l e room_1 s m args below meth c H locs cells slots Q (F0 m (pc + 5) ls (.int (xs (i + k)) :: rest))) : W p l e room_1 s m args below meth c H locs cells slots Q (F0 m pc ls rest) := by
  refine lv_aload_n hx hb d0 rfl (lv_at hl 3 rfl) ?_
  refine lv_iload_n hx hb d1 rfl (lv_at hl 0 rfl) ?_
  refine lv_iconst (v := nI k) hx hb d2 hkc ?_
  refine lv_iadd hx hb d3 ?_
  refine lv_toc (nI_add i k) ?_
  have hlt : (nI (i + k)).toInt = ((i + k : Nat) : Int) := nI_toInt (by omega)
  refine va_sld hx hb hX hbl hbA hS (vp_in_iff.mpr ⟨by rw [hlt]; omega, by rw [hlt]; omega⟩) d4 ?_
  have e1 : (nI (i + k)).toNatClampNeg = i + k := by
    show (nI (i + k)).toInt.toNat = i + k
    rw [hlt]
    omega
  rw [e1]
  exact kk

