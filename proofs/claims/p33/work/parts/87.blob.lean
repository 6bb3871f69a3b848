/-! cells of which only their regions are known; calls beside them -/
def tyW (kA : Nat → ClassId) (T : List (Nat × Nat)) (w : va_W) : Prop := T.map Prod.fst = w.map Prod.fst ∧ ∀ τ : Nat → Option Nat, (∀ p ∈ T, τ p.1 = some p.2) → ∀ p ∈ T, ∃ G e, sxRT[p.2]? = some G ∧ sx_at w p.1 e ∧ sx_eok kA τ G e
section TYW
variable {kA : Nat → ClassId} {T T' : List (Nat × Nat)} {w w' : va_W}
theorem tyW.nil : tyW kA [] [] := ⟨rfl, fun _ _ p h => by cases h⟩
theorem sx_at_mem {ws : va_W} {a : Nat} {e : va_E} : sx_at ws a e ↔ (a, e) ∈ ws := ⟨fun ⟨k, h⟩ => List.mem_of_getElem? h, fun h => List.getElem?_of_mem h⟩
theorem tyW.app (h1 : tyW kA T w) (h2 : tyW kA T' w') : tyW kA (T ++ T') (w ++ w') := by
  refine ⟨by rw [List.map_append, List.map_append, h1.1, h2.1], fun τ ht p hp => ?_⟩
  rcases List.mem_append.mp hp with h | h
  · obtain ⟨G, e, g1, g2, g3⟩ := h1.2 τ (fun q hq => ht q (List.mem_append_left _ hq)) p h
    exact ⟨G, e, g1, sx_at_mem.mpr (List.mem_append_left _ (sx_at_mem.mp g2)), g3⟩
  · obtain ⟨G, e, g1, g2, g3⟩ := h2.2 τ (fun q hq => ht q (List.mem_append_right _ hq)) p h
    exact ⟨G, e, g1, sx_at_mem.mpr (List.mem_append_right _ (sx_at_mem.mp g2)), g3⟩
theorem tyW.add (h : tyW kA T w) {a r : Nat} {e : va_E} {G : sxG} (hG : sxRT[r]? = some G) (he : ∀ τ : Nat → Option Nat, (∀ p ∈ T, τ p.1 = some p.2) → sx_eok kA τ G e) : tyW kA ((a, r) :: T) ((a, e) :: w) := by
  refine ⟨by rw [List.map_cons, List.map_cons, h.1], fun τ ht p hp => ?_⟩
  have ht' : ∀ p ∈ T, τ p.1 = some p.2 := fun q hq => ht q (List.mem_cons_of_mem _ hq)
  rcases List.mem_cons.mp hp with rfl | hp
  · exact ⟨G, e, hG, ⟨0, rfl⟩, he τ ht'⟩
  · obtain ⟨G, e, g1, g2, g3⟩ := h.2 τ ht' p hp
    exact ⟨G, e, g1, sx_at_mem.mpr (List.mem_cons_of_mem _ (sx_at_mem.mp g2)), g3⟩
end TYW
/-- zeros fit a region -/
def zchk (G : sxG) (t n k : Nat) : Bool := Nat.beq G.1 1 && Nat.beq G.2.1 t && Nat.ble G.2.2.1 n && Nat.ble n G.2.2.2.1 && (List.range n).all (fun j => match sx_seg G.2.2.2.2 j with
  | some q => Nat.beq q.1 k && decide (q.2.1 ≤ 0) && decide (0 ≤ q.2.2)
  | none => false)
theorem zchk_ok {G : sxG} {t n k : Nat} (h : zchk G t n k = true) : G.1 = 1 ∧ G.2.1 = t ∧ G.2.2.1 ≤ n ∧ n ≤ G.2.2.2.1 ∧ ∀ j, j < n → ∃ q, sx_seg G.2.2.2.2 j = some q ∧ q.1 = k ∧ q.2.1 ≤ 0 ∧ 0 ≤ q.2.2 := by
  unfold zchk at h
  simp only [Bool.and_eq_true] at h
  obtain ⟨⟨⟨⟨h1, h2⟩, h3⟩, h4⟩, h5⟩ := h
  refine ⟨Nat.eq_of_beq_eq_true h1, Nat.eq_of_beq_eq_true h2, Nat.le_of_ble_eq_true h3, Nat.le_of_ble_eq_true h4, fun j hj => ?_⟩
  have h6 := List.all_eq_true.mp h5 j (List.mem_range.mpr hj)
  split at h6
  · rename_i q e
    simp only [Bool.and_eq_true] at h6
    exact ⟨q, e, Nat.eq_of_beq_eq_true h6.1.1, of_decide_eq_true h6.1.2, of_decide_eq_true h6.2⟩
  · cases h6
theorem eok_a {kA : Nat → ClassId} {τ : Nat → Option Nat} {G : sxG} {t n : Nat} {d : (Nat → Int32) ⊕ (Nat → Int64) ⊕ (Nat → UInt32) ⊕ (Nat → UInt64) ⊕ (Nat → Option Nat)} (h1 : G.1 = 1) (h2 : G.2.1 = t) (h3 : G.2.2.1 ≤ n) (h4 : n ≤ G.2.2.2.1) (hd : sx_dk t d) (h5 : ∀ j, j < n → ∃ q, sx_seg G.2.2.2.2 j = some q ∧ sx_fok τ q (sx_el d j)) : sx_eok kA τ G (.inl (kA t, n, d)) := by
  subst h2
  unfold sx_eok
  rw [h1]
  exact ⟨n, d, rfl, h3, h4, hd, h5⟩
theorem eok_zi {kA : Nat → ClassId} {τ : Nat → Option Nat} {G : sxG} {t n : Nat} (hd : sx_dk t (.inl (fun _ => 0))) (h : zchk G t n 0 = true) : sx_eok kA τ G (.inl (kA t, n, .inl (fun _ => 0))) := by
  obtain ⟨h1, h2, h3, h4, h5⟩ := zchk_ok h
  refine eok_a h1 h2 h3 h4 hd (fun j hj => ?_)
  obtain ⟨q, g1, g2, g3, g4⟩ := h5 j hj
  refine ⟨q, g1, ?_⟩
  unfold sx_fok
  rw [g2]
  exact ⟨0, rfl, g3, g4⟩
theorem eok_zl {kA : Nat → ClassId} {τ : Nat → Option Nat} {G : sxG} {n : Nat} (h : zchk G 2 n 1 = true) : sx_eok kA τ G (.inl (kA 2, n, .inr (.inl (fun _ => 0)))) := by
  obtain ⟨h1, h2, h3, h4, h5⟩ := zchk_ok h
  refine eok_a h1 h2 h3 h4 ⟨_, rfl⟩ (fun j hj => ?_)
  obtain ⟨q, g1, g2, g3, g4⟩ := h5 j hj
  refine ⟨q, g1, ?_⟩
  unfold sx_fok
  rw [g2]
  exact ⟨0, rfl⟩
theorem eok_zn {kA : Nat → ClassId} {τ : Nat → Option Nat} {G : sxG} {t n : Nat} (ht : 4 ≤ t) (h : zchk G t n 3 = true ∨ (G.1 = 1 ∧ G.2.1 = t ∧ G.2.2.1 ≤ n ∧ n ≤ G.2.2.2.1 ∧ ∀ j, j < n → ∃ q, sx_seg G.2.2.2.2 j = some q ∧ q.1 = 3)) : sx_eok kA τ G (.inl (kA t, n, .inr (.inr (.inr (.inr (fun _ => none)))))) := by
  have h : G.1 = 1 ∧ G.2.1 = t ∧ G.2.2.1 ≤ n ∧ n ≤ G.2.2.2.1 ∧ ∀ j, j < n → ∃ q, sx_seg G.2.2.2.2 j = some q ∧ q.1 = 3 := by
    rcases h with h | h
    · obtain ⟨h1, h2, h3, h4, h5⟩ := zchk_ok h
      exact ⟨h1, h2, h3, h4, fun j hj => by obtain ⟨q, g1, g2, -⟩ := h5 j hj; exact ⟨q, g1, g2⟩⟩
    · exact h
  obtain ⟨h1, h2, h3, h4, h5⟩ := h
  refine eok_a h1 h2 h3 h4 (by
    match t, ht with
    | t + 4, _ => exact ⟨_, rfl⟩) (fun j hj => ?_)
  obtain ⟨q, g1, g2⟩ := h5 j hj
  refine ⟨q, g1, ?_⟩
  unfold sx_fok
  rw [g2]
  exact Or.inl rfl
def fokL (τ : Nat → Option Nat) (sg : List (Nat × sxQ)) : Nat → List Value → Prop
  | _, [] => True
  | k, v :: l => (∃ q, sx_seg sg k = some q ∧ sx_fok τ q v) ∧ fokL τ sg (k + 1) l
theorem fokL_ok {τ : Nat → Option Nat} {sg : List (Nat × sxQ)} : ∀ (fs : List Value) (k0 : Nat), fokL τ sg k0 fs → ∀ (k : Nat) (v : Value), fs[k]? = some v → ∃ q, sx_seg sg (k0 + k) = some q ∧ sx_fok τ q v
  | [], _, _, k, v, hv => by cases k <;> cases hv
  | x :: l, k0, h, 0, v, hv => by cases hv; exact h.1
  | x :: l, k0, h, k + 1, v, hv => by
    have := fokL_ok l (k0 + 1) h.2 k v hv
    rw [show k0 + 1 + k = k0 + (k + 1) by omega] at this
    exact this
theorem eok_o {kA : Nat → ClassId} {τ : Nat → Option Nat} {G : sxG} {ci : Nat} {fs : List Value} (h1 : G.1 = 0) (h2 : G.2.1 = ci) (h3 : fs.length = G.2.2.1) (h4 : fokL τ G.2.2.2.2 0 fs) : sx_eok kA τ G (.inr (ci, fs)) := by
  subst h2
  unfold sx_eok
  rw [h1]
  refine ⟨fs, rfl, h3, fun k v hv => ?_⟩
  have := fokL_ok fs 0 h4 k v hv
  rw [Nat.zero_add] at this
  exact this
/-- the same cells, elsewhere in the list -/
theorem va_P.mem {D : va_G} {cl : List vw_C} {ws ws' : va_W} {H : Heap} (h : ∀ q ∈ ws', q ∈ ws) (hP : va_P D cl ws H) : va_P D cl ws' H := fun k q hq => by
  obtain ⟨i, hi⟩ := List.getElem?_of_mem (h q (List.mem_of_getElem? hq))
  exact hP i q hi
theorem va_D.nodup {A : Nat → Prop} {ws : va_W} (h : va_D A ws) : (ws.map Prod.fst).Nodup := by
  unfold List.Nodup
  rw [List.pairwise_iff_getElem]
  intro i j hi hj hij e
  rw [List.length_map] at hi hj
  rw [List.getElem_map, List.getElem_map] at e
  have := h.1 i j _ _ (List.getElem?_eq_getElem hi) (List.getElem?_eq_getElem hj) e
  omega
theorem va_D.ofNodup {A : Nat → Prop} {ws : va_W} (h1 : (ws.map Prod.fst).Nodup) (h2 : ∀ q ∈ ws, A q.1) : va_D A ws := by
  refine ⟨fun i j p q hi hj e => ?_, fun k q hq => h2 q (List.mem_of_getElem? hq)⟩
  unfold List.Nodup at h1
  rw [List.pairwise_iff_getElem] at h1
  obtain ⟨hi', ei⟩ := List.getElem?_eq_some_iff.mp hi
  obtain ⟨hj', ej⟩ := List.getElem?_eq_some_iff.mp hj
  rcases Nat.lt_trichotomy i j with h | h | h
  · exact absurd (by rw [List.getElem_map, List.getElem_map, ei, ej]; exact e) (h1 i j (by rw [List.length_map]; exact hi') (by rw [List.length_map]; exact hj') h)
  · exact h
  · exact absurd (by rw [List.getElem_map, List.getElem_map, ei, ej]; exact e.symm) (h1 j i (by rw [List.length_map]; exact hj') (by rw [List.length_map]; exact hi') h)
theorem va_D.perm {A : Nat → Prop} {ws ws' : va_W} (h : ws.Perm ws') (hD : va_D A ws) : va_D A ws' := va_D.ofNodup ((h.map Prod.fst).nodup_iff.mp hD.nodup) (fun q hq => by
  obtain ⟨k, hk⟩ := List.getElem?_of_mem (h.mem_iff.mpr hq)
  exact hD.2 k q hk)
theorem bl_perm {D : va_G} {cl : List vw_C} {A : Nat → Prop} {ws ws' : va_W} {H : Heap} (h : ws.Perm ws') (hP : va_P D cl ws H) (hD : va_D A ws) : va_P D cl ws' H ∧ va_D A ws' := ⟨va_P.mem (fun q hq => h.mem_iff.mpr hq) hP, va_D.perm h hD⟩
theorem bl_new {D : va_G} {cl : List vw_C} {A : Nat → Prop} {H : Heap} (E g : va_W) (c : Nat × va_E) (hP : va_P D cl ((E ++ g) ++ [c]) H) (hD : va_D A ((E ++ g) ++ [c])) : va_P D cl (E ++ c :: g) H ∧ va_D A (E ++ c :: g) := by
  refine bl_perm ?_ hP hD
  rw [List.append_assoc]
  exact List.Perm.append_left E (List.perm_append_singleton c g)
theorem bl_abs {D : va_G} {cl : List vw_C} {A : Nat → Prop} {H : Heap} (E1 E2 g : va_W) (c : Nat × va_E) (hP : va_P D cl (E1 ++ c :: (E2 ++ g)) H) (hD : va_D A (E1 ++ c :: (E2 ++ g))) : va_P D cl (E1 ++ (E2 ++ c :: g)) H ∧ va_D A (E1 ++ (E2 ++ c :: g)) :=
  bl_perm (List.Perm.append_left E1 List.perm_middle.symm) hP hD
section BaseQ
variable {p : Program} {l : Launch} {e : Env} {R : Room} {s : State} {m : MethodId} {args : Array Value} {below : List Frame} {meth : Method} {c : Code} {H : Heap} {locs : List Loc} {cells slots : Nat} {Q : State → Prop}
variable {cc : ByteArray} {pc : Nat} {ls : Array Slot} {rest : List Value} {dC : Nat → ClassId} {dI : Nat → Nat → Nat} {kA : Nat → ClassId} {A A0 : Nat → Prop} {H0 : Heap} {a : Nat} {wc wr w1 : va_W} {mc ms : Nat} {v : Option Value} {Wp : va_W → Prop} {st0 : List Value} {aa : Array Value}
/-- a call that changes its world, beside such cells -/
theorem cMq (X pl : va_W) (isC isR : List Nat) (hP : va_P (dC, dI) vwCl (X ++ pl) H) (hD : va_D A0 (X ++ pl)) (hS : va_S A0 H0 H locs) (hA : ∀ q, H0.size ≤ q → A0 q) (hC : isC.map (fun i => X[i]?) = wc.map some) (hC' : isC.map (fun i => (X ++ pl)[i]?) = wc.map some) (hR : isR.map (fun i => X[i]?) = wr.map some) (hn : va_nd isR = true) (hdis : ∀ i ∈ isR, i ∉ isC)
    (hr : va_Run p l e R s m args below meth c H locs cells slots mc ms (F0 m pc ls st0) rest (QU dC dI v Wp (va_A wc H.size) aa) (va_A wc H.size))
    (kk : ∀ (w1 : va_W) (H1 : Heap) (locs1 : List Loc), Wp w1 → va_P (dC, dI) vwCl ((wr ++ w1) ++ pl) H1 → va_D A0 ((wr ++ w1) ++ pl) → va_S A0 H0 H1 locs1 → W p l e R s m args below meth c H1 locs1 (cells + mc) (slots + ms) Q (F0 m (pc + 3) ls (v.toList ++ rest))) : W p l e R s m args below meth c H locs cells slots Q (F0 m pc ls st0) := by
  intro T hT X'
  obtain ⟨v', st₀, t, T', L, h0, X', hL, e1, -, ⟨⟨hv, w1, hw, hP1, hD1⟩, hz, hk⟩, st⟩ := hr T hT X'
  cases hv
  rw [h0] at hz hk
  have hFc := va_free hD hS hA isC hC'
  obtain ⟨hP2, hD2⟩ := va_joinQ hP hD isC isR hC hR hn hdis hk hFc hP1 hD1
  have hS2 : va_S A0 H0 t.heap (locs ++ L) := ⟨Nat.le_trans hS.1 hz, fun q h1 h2 => (hk q (Nat.lt_of_lt_of_le h1 hS.1) (fun z => h2 (hFc q z))).trans (hS.2.1 q h1 h2), fun q hq => by
    rcases List.mem_append.mp hq with h | h
    · exact hS.2.2 q h
    · exact hFc _ (hL q h)⟩
  obtain ⟨t2, a1, b1⟩ := kk w1 t.heap (locs ++ L) hw hP2 hD2 hS2 T' e1 X'
  exact ⟨t2, st t2 a1, b1⟩
end BaseQ
/-- int[][]'s class, by the array classes' names -/
def mnQ (kA : Nat → ClassId) (U : State) : Prop := ∃ (k : Class), U.vm.classes[kA 7]? = some k ∧ k.kind = .array (kA 0) (.array .int)
theorem mnQ.moved {kA : Nat → ClassId} {u U : State} (hvm : u.vm.Alike U.vm) (h : mnQ kA u) : mnQ kA U := by
  obtain ⟨k, h1, h2⟩ := h
  obtain ⟨k', h3, h4⟩ := hvm.2.2 _ _ h1
  exact ⟨k', h3, by rw [h4]; exact h2⟩
def PX (dC : Nat → ClassId) (dI : Nat → Nat → Nat) (kA : Nat → ClassId) (ws : va_W) (sz : Nat) (U : State) : Prop := PW dC dI kA ws sz U ∧ mnQ kA U
theorem px_s {s : State} {H : Heap} {dC : Nat → ClassId} {dI : Nat → Nat → Nat} {kA : Nat → ClassId} {A : Nat → Prop} {wc : va_W} {As : List Value} (hP : va_P (dC, dI) vwCl wc H) (hD : va_D A wc) (hK : va_K (dC, dI) vwCl (tyL kA) s) (hN : nwK s) (hM : mnQ kA s) : PreS s H (va_Pc As (PX dC dI kA wc H.size)) As :=
  ⟨fun a U g mk q => ⟨q.1, (pw_bl (av := As) a U g mk ⟨q.1, q.2.1⟩).2, q.2.2.moved (u := U) (U := U.calling g mk a) (Vm.Alike.refl U.vm)⟩, fun U hU hW => ⟨rfl, ⟨by rw [hU], by rw [hU]; exact hP, va_K.moved hW.alike hK, nwK.warm hW hN, hD.weaken (fun _ _ _ _ => trivial)⟩, hM.moved hW.alike⟩⟩
theorem met_X {l : Launch} {y : MethodName} {rm : Room} {av : List Value} {wi : va_W} {v : Option Value} {Wp : va_W → Prop} {mc ms : Nat} {cc : ByteArray} {maxL : Nat} {ret : Option FieldType} {own : String} {dC : Nat → ClassId} {dI : Nat → Nat → Nat} {kA : Nat → ClassId} {sz : Nat}
    (hy : plainName y.cls = true) (ho : y.cls = own) (hn : (lg_sl av).length ≤ maxL) 
    (body : ∀ (p : Program) (e : Env) (s : State) (m : MethodId) (below : List Frame) (meth : Method) (c : Code) (ls : Array Slot) (A : Nat → Prop), p.tables.exec = Jvm.exec → c.code = cc → meth.sig.returnType = ret → (∀ w ∈ lwG, w.before av.toArray s = true) → s.vm.findClass own = some m.cls → meth.locks = false → c.maxLocals = maxL → meth.name = y.name → va_K (dC, dI) vwCl (tyL kA) s → nwK s → mnQ kA s → (∀ q, s.heap.size ≤ q → A q) → va_P (dC, dI) vwCl wi s.heap → va_D A wi → va_S A s.heap s.heap [] → lv_has ls maxL (lv_args 0 av) →
      W p l e rm s m av.toArray below meth c s.heap [] 0 0 (MQ below (QU dC dI v Wp A) av.toArray s mc ms A) (F0 m 0 ls [])) :
    Met l y (wsU y cc maxL ret) rm (va_Pc av (PX dC dI kA wi sz)) (QU dC dI v Wp (va_A wi sz)) mc ms (va_A wi sz) := by
  refine Met.ofW (cc := cc) (maxL := maxL) (ret := ret) hy rfl ?_
  intro p e s m args below meth c s₁ B hml hv
  obtain ⟨rfl, ⟨hsz, hP, hK, hN, hD0⟩, hM⟩ := hv
  subst hsz
  subst ho
  have hl := lv_entry av (n := maxL) hn
  rw [lg_entry_eq]
  exact body p e s m below meth c _ (va_A wi s.heap.size) B.exec B.bytes B.returns (fun w h => atoms_spec (ws := wsU y cc maxL ret) B.pre w (List.mem_cons_of_mem _ h)) (findClass_of_methodNamed B.named) B.notSynchronized hml (name_of_methodNamed B.named B.method).1 hK hN hM (fun q h => Or.inr h) hP hD0.self va_S.rf hl
theorem fok_i {τ : Nat → Option Nat} {lo hi : Int} {x : Int32} (h1 : lo ≤ x.toInt) (h2 : x.toInt ≤ hi) : sx_fok τ (0, lo, hi) (.int x) := ⟨x, rfl, h1, h2⟩
theorem fok_l {τ : Nat → Option Nat} {lo hi : Int} {x : Int64} : sx_fok τ (1, lo, hi) (.long x) := ⟨x, rfl⟩
theorem fok_n {τ : Nat → Option Nat} {lo hi : Int} : sx_fok τ (3, lo, hi) .null := Or.inl rfl
theorem fok_r {τ : Nat → Option Nat} {r : Nat} {hi : Int} {a : Nat} (h : τ a = some r) : sx_fok τ (2, .ofNat r, hi) (.ref a) := ⟨a, rfl, h⟩
theorem fok_q {τ : Nat → Option Nat} {r : Nat} {hi : Int} {a : Nat} (h : τ a = some r) : sx_fok τ (3, .ofNat r, hi) (.ref a) := Or.inr ⟨a, rfl, h⟩
theorem fokL_nil {τ : Nat → Option Nat} {sg : List (Nat × sxQ)} {k : Nat} : fokL τ sg k [] := trivial
theorem fokL_cons {τ : Nat → Option Nat} {sg : List (Nat × sxQ)} {k : Nat} {q : sxQ} {v : Value} {l : List Value} (h : sx_seg sg k = some q) (h2 : sx_fok τ q v) (h3 : fokL τ sg (k + 1) l) : fokL τ sg k (v :: l) := ⟨⟨q, h, h2⟩, h3⟩
