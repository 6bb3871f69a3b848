/-! the base: the array classes, the nest's words, a method's start and end -/
abbrev tyL (kA : Nat → ClassId) : List (ClassId × FieldType) := [(kA 0, .int), (kA 1, .byte), (kA 2, .long), (kA 3, .boolean), (kA 4, .object "LinenName$Rule"), (kA 5, .object "LinenName$Image"), (kA 6, .object "LinenName$Linen"), (kA 7, .array .int)]
def nwL : List Cond := [.methodLinkNest RX11 9 yX10_init RX11, .methodLinkNest RX11 18 yX2_init RX11, .methodLinkNest RX11 25 yX9_init RX11, .methodLinkNest RX11 38 yX3_init RX11, .methodLinkNest RX11 56 yX4_init RX11, .methodLinkNest RX11 63 yX6_init RX11, .methodLinkNest RX11 70 yX0_init RX11, .methodLinkNest RX11 77 yX5_init RX11, .methodLinkNest RX11 88 yX1_init RX11, .methodLinkNest RX0 11 yX5_init RX11, .methodLinkNest RX3 11 yX1_init RX11, .methodLinkNest RX3 20 yX5_init RX11, .methodLinkNest RX7 17 yX5_init RX11, .methodLinkNest RX6 51 yX11_isWithin RX11]
def nwM (w : Cond) : Prop := ∃ (a : String) (i : Nat) (x : MethodName) (h : String), w = .methodLinkNest a i x h
theorem nwL_ok : ∀ w ∈ nwL, nwM w := by
  intro w hw
  simp only [nwL, List.mem_cons, List.not_mem_nil, or_false] at hw
  rcases hw with h | h | h | h | h | h | h | h | h | h | h | h | h | h <;> exact ⟨_, _, _, _, h⟩
/-- the class of int[][], and that of its places -/
def mnP (U : State) : Prop := ∃ (cA cI : ClassId) (kA kI : Class) (cc : ClassId), U.vm.findClass "[[I" = some cA ∧ U.vm.classes[cA]? = some kA ∧ kA.kind = .array cI (.array .int) ∧ U.vm.classes[cI]? = some kI ∧ kI.kind = .array cc .int
theorem mnP.moved {u U : State} (hvm : u.vm.Alike U.vm) (h : mnP u) : mnP U := by
  obtain ⟨cA, cI, kA, kI, cc, h1, h2, h3, h4, h5⟩ := h
  obtain ⟨kA', hA', eA⟩ := hvm.2.2 _ _ h2
  obtain ⟨kI', hI', eI⟩ := hvm.2.2 _ _ h4
  exact ⟨cA, cI, kA', kI', cc, by rw [hvm.findClass]; exact h1, hA', by rw [eA]; exact h3, hI', by rw [eI]; exact h5⟩
def nwK (U : State) : Prop := (∀ w ∈ nwL, va_Nw w U) ∧ va_AO "LinenName$Rule" U ∧ va_AO "LinenName$Image" U ∧ va_AO "LinenName$Linen" U ∧ mnP U
theorem nwK.at {U : State} (h : nwK U) (i : Nat) {w : Cond} (hw : nwL[i]? = some w) : va_Nw w U := h.1 w (List.mem_of_getElem? hw)
theorem nwK.warm {s U : State} (hW : s.WarmedH U.vm) (h : nwK s) : nwK U := by
  refine ⟨fun w hw => ?_, h.2.1.moved hW.alike, h.2.2.1.moved hW.alike, h.2.2.2.1.moved hW.alike, h.2.2.2.2.moved hW.alike⟩
  obtain ⟨a, i, x, k, rfl⟩ := nwL_ok w hw
  exact va_Nw.warmM hW (h.1 _ hw)
theorem nwK.same {u U : State} (e : u.vm = U.vm) (h : nwK u) : nwK U := by
  have ha : u.vm.Alike U.vm := by rw [e]; exact Vm.Alike.refl U.vm
  refine ⟨fun w hw => ?_, h.2.1.moved ha, h.2.2.1.moved ha, h.2.2.2.1.moved ha, h.2.2.2.2.moved ha⟩
  obtain ⟨a, i, x, k, rfl⟩ := nwL_ok w hw
  exact va_Nw.same rfl e (h.1 _ hw)
/-- a method's start: its world, of which nothing else is said -/
def PW (dC : Nat → ClassId) (dI : Nat → Nat → Nat) (kA : Nat → ClassId) (ws : va_W) (sz : Nat) (U : State) : Prop := U.heap.size = sz ∧ va_P (dC, dI) vwCl ws U.heap ∧ va_K (dC, dI) vwCl (tyL kA) U ∧ nwK U ∧ va_D (fun _ => True) ws
theorem pw_bl {dC : Nat → ClassId} {dI : Nat → Nat → Nat} {kA : Nat → ClassId} {ws : va_W} {sz : Nat} {av : List Value} : FrameBlind (va_Pc av (PW dC dI kA ws sz)) := by
  intro a U g mk q
  obtain ⟨q0, q1, qP, qK, qN, qD⟩ := q
  exact ⟨q0, q1, qP, va_K.moved (u := U) (U := U.calling g mk a) (Vm.Alike.refl U.vm) qK, nwK.same (u := U) (U := U.calling g mk a) rfl qN, qD⟩
section PWs
variable {s : State} {H : Heap} {dC : Nat → ClassId} {dI : Nat → Nat → Nat} {kA : Nat → ClassId} {A : Nat → Prop} {ws wc : va_W} {As : List Value} {b : Nat}
theorem pw_s (hP : va_P (dC, dI) vwCl wc H) (hD : va_D A wc) (hK : va_K (dC, dI) vwCl (tyL kA) s) (hN : nwK s) : PreS s H (va_Pc As (PW dC dI kA wc H.size)) As :=
  ⟨pw_bl, fun U hU hW => ⟨rfl, by rw [hU], by rw [hU]; exact hP, va_K.moved hW.alike hK, nwK.warm hW hN, hD.weaken (fun _ _ _ _ => trivial)⟩⟩
theorem pw_v (hP : va_P (dC, dI) vwCl wc H) (hD : va_D A wc) (hK : va_K (dC, dI) vwCl (tyL kA) s) (hN : nwK s) (q0 ci : Nat) {q : vw_C} {fs : List Value} (hc : vwCl[ci]? = some q) (he : wc[q0]? = some (b, .inr (ci, fs))) : PreV s H q.1 b (va_Pc (.ref b :: As) (PW dC dI kA wc H.size)) As :=
  ⟨pw_bl, va_recv hK hP hc he, fun U hU hW => ⟨rfl, by rw [hU], by rw [hU]; exact hP, va_K.moved hW.alike hK, nwK.warm hW hN, hD.weaken (fun _ _ _ _ => trivial)⟩⟩
end PWs
/-- a method that changes nothing: its answer -/
def QP (v : Option Value) : Array Value → State → Outcome → State → Prop := fun _ st o t => o = .returned v ∧ t.heap = st.heap
/-- a method that changes its world: its answer, the world behind it -/
def QU (dC : Nat → ClassId) (dI : Nat → Nat → Nat) (v : Option Value) (Wp : va_W → Prop) (A : Nat → Prop) : Array Value → State → Outcome → State → Prop := fun _ st o t => (o = .returned v ∧ ∃ w1, Wp w1 ∧ va_P (dC, dI) vwCl w1 t.heap ∧ va_D A w1) ∧ va_F A st t
section BaseW
variable {p : Program} {l : Launch} {e : Env} {R : Room} {s : State} {m : MethodId} {args : Array Value} {below : List Frame} {meth : Method} {c : Code} {H : Heap} {locs : List Loc} {cells slots : Nat} {Q : State → Prop}
variable {cc : ByteArray} {pc : Nat} {ls : Array Slot} {rest : List Value} {dC : Nat → ClassId} {dI : Nat → Nat → Nat} {kA : Nat → ClassId} {A A0 : Nat → Prop} {H0 : Heap} {a : Nat} {ws wc wr w1 : va_W} {mc ms : Nat} {v : Option Value} {Wp : va_W → Prop} {st0 : List Value} {aa : Array Value}
/-- the top of the stack by another name -/
theorem lv_toc {x y : Int32} (h : x = y) (k : W p l e R s m args below meth c H locs cells slots Q (F0 m pc ls (.int y :: rest))) : W p l e R s m args below meth c H locs cells slots Q (F0 m pc ls (.int x :: rest)) := h ▸ k
theorem lv_tov {x y : Value} (h : x = y) (k : W p l e R s m args below meth c H locs cells slots Q (F0 m pc ls (y :: rest))) : W p l e R s m args below meth c H locs cells slots Q (F0 m pc ls (x :: rest)) := h ▸ k
theorem cP (hr : CallRun p l e R s m args below meth c H locs cells slots 0 0 (F0 m pc ls st0) rest (QP v aa) (fun _ => False)) (kk : W p l e R s m args below meth c H locs cells slots Q (F0 m (pc + 3) ls (v.toList ++ rest))) : W p l e R s m args below meth c H locs cells slots Q (F0 m pc ls st0) := by
  intro T hT X
  obtain ⟨v', st₀, t, T', L, h0, X', hL, e1, ⟨hv, hh⟩, st⟩ := hr T hT X
  cases hv
  obtain ⟨t2, a1, b1⟩ := kk T' (by rw [e1, hh, h0]) (Stand.forget X' (fun q h => (hL q h).elim))
  exact ⟨t2, st t2 a1, b1⟩
theorem cPn (hr : va_Run p l e R s m args below meth c H locs cells slots 0 0 (F0 m pc ls st0) rest (QP v aa) (fun _ => False)) (kk : W p l e R s m args below meth c H locs cells slots Q (F0 m (pc + 3) ls (v.toList ++ rest))) : W p l e R s m args below meth c H locs cells slots Q (F0 m pc ls st0) := by
  intro T hT X
  obtain ⟨v', st₀, t, T', L, h0, X', hL, e1, -, ⟨hv, hh⟩, st⟩ := hr T hT X
  cases hv
  obtain ⟨t2, a1, b1⟩ := kk T' (by rw [e1, hh, h0]) (Stand.forget X' (fun q h => (hL q h).elim))
  exact ⟨t2, st t2 a1, b1⟩
/-- a call that changes its world, and the rest of the caller's beside it -/
theorem cM (isC isR : List Nat) (hP : va_P (dC, dI) vwCl ws H) (hD : va_D A0 ws) (hS : va_S A0 H0 H locs) (hA : ∀ q, H0.size ≤ q → A0 q) (hC : isC.map (fun i => ws[i]?) = wc.map some) (hR : isR.map (fun i => ws[i]?) = wr.map some) (hn : va_nd isR = true) (hdis : ∀ i ∈ isR, i ∉ isC)
    (hr : va_Run p l e R s m args below meth c H locs cells slots mc ms (F0 m pc ls st0) rest (QU dC dI v Wp (va_A wc H.size) aa) (va_A wc H.size))
    (kk : ∀ (w1 : va_W) (H1 : Heap) (locs1 : List Loc), Wp w1 → va_P (dC, dI) vwCl (wr ++ w1) H1 → va_D A0 (wr ++ w1) → va_S A0 H0 H1 locs1 → W p l e R s m args below meth c H1 locs1 (cells + mc) (slots + ms) Q (F0 m (pc + 3) ls (v.toList ++ rest))) : W p l e R s m args below meth c H locs cells slots Q (F0 m pc ls st0) := by
  intro T hT X
  obtain ⟨v', st₀, t, T', L, h0, X', hL, e1, -, ⟨⟨hv, w1, hw, hP1, hD1⟩, hz, hk⟩, st⟩ := hr T hT X
  cases hv
  rw [h0] at hz hk
  have hFc := va_free hD hS hA isC hC
  obtain ⟨hP2, hD2⟩ := va_join hP hD isC isR hC hR hn hdis hk hFc hP1 hD1
  have hS2 : va_S A0 H0 t.heap (locs ++ L) := ⟨Nat.le_trans hS.1 hz, fun q h1 h2 => (hk q (Nat.lt_of_lt_of_le h1 hS.1) (fun z => h2 (hFc q z))).trans (hS.2.1 q h1 h2), fun q hq => by
    rcases List.mem_append.mp hq with h | h
    · exact hS.2.2 q h
    · exact hFc _ (hL q h)⟩
  obtain ⟨t2, a1, b1⟩ := kk w1 t.heap (locs ++ L) hw hP2 hD2 hS2 T' e1 X'
  exact ⟨t2, st t2 a1, b1⟩
theorem ra_eq {c1 c2 : ClassId} {ty : FieldType} (h1 : va_RA s c1 ty) (h2 : va_RA s c2 ty) : c1 = c2 := by
  cases ty with
  | object C =>
    obtain ⟨_, _, _, _, _, e1⟩ := h1
    obtain ⟨_, _, _, _, _, e2⟩ := h2
    exact Option.some.inj (e1.symm.trans e2)
  | _ => exact Option.some.inj (Eq.trans (Eq.symm h1) h2)
theorem k_eq {tys : List (ClassId × FieldType)} {D : va_G} {c1 c2 : ClassId} {ty : FieldType} (t0 : Nat) (ht : tys[t0]? = some (c2, ty)) (h : va_K D vwCl (tys ++ [(c1, ty)]) s) : c1 = c2 := by
  refine ra_eq (s := s) (ty := ty) (h.2 tys.length (c1, ty) (by simp)).2 (h.2 t0 (c2, ty) ?_).2
  rw [List.getElem?_append_left (List.getElem?_eq_some_iff.mp ht).1]
  exact ht
/-- new T[n], T a primitive type -/
theorem nw_a (hexec : p.tables.exec = Jvm.exec) (hb : c.code = cc) {atype : ArrayType} (harr : (Cond.arrayClass (newarray.typeOf atype)).before args s = true) {ty : FieldType} (hty : newarray.typeOf atype = ty) (hK : va_K (dC, dI) vwCl (tyL kA) s) (hP : va_P (dC, dI) vwCl ws H) (hD : va_D A ws) (hS : va_S A H0 H locs) (hA : ∀ q, H0.size ≤ q → A q) (t0 : Nat) {cA : ClassId} (ht : (tyL kA)[t0]? = some (cA, ty))
    {n : Int32} {N' : Nat} {a0 : vp_A} (ha : ∀ cA : ClassId, vp_cell cA a0 = arrV cA N' (fun _ => defaultValue ty)) (hn : ¬ n < 0) (hN : n.toNatClampNeg = N') (hbytes : N' * componentBytes ty ≤ 536870912) (hcells : cells + 1 ≤ R.cells) (hslots : slots + N' ≤ R.slots) (hdg : decode cc pc = .ok (.newarray atype, 2))
    (kk : ∀ (q : Nat) (H1 : Heap), va_P (dC, dI) vwCl (ws ++ [(q, .inl (cA, a0))]) H1 → va_D A (ws ++ [(q, .inl (cA, a0))]) → va_S A H0 H1 locs →
      W p l e R s m args below meth c H1 locs (cells + 1) (slots + N') Q (F0 m (pc + 2) ls (.ref q :: rest))) : W p l e R s m args below meth c H locs cells slots Q (F0 m pc ls (.int n :: rest)) := by
  refine va_newa hexec hb harr hty hK hP hD hS hA ha hn hN hbytes hcells hslots hdg (fun q cB H1 hK2 hP2 hD2 hS2 => ?_)
  have he : cB = cA := k_eq t0 ht hK2
  subst he
  exact kk q H1 hP2 hD2 hS2
/-- new T[n], T a class -/
theorem nw_q (hexec : p.tables.exec = Jvm.exec) (hb : c.code = cc) {own C : String} {index : Nat} (hown : s.vm.findClass own = some m.cls) (hclink : (Cond.classLink own index C).before args s = true) (hover : va_AO C s) (hK : va_K (dC, dI) vwCl (tyL kA) s) (hP : va_P (dC, dI) vwCl ws H) (hD : va_D A ws) (hS : va_S A H0 H locs) (hA : ∀ q, H0.size ≤ q → A q) (t0 : Nat) {cA : ClassId} (ht : (tyL kA)[t0]? = some (cA, .object C))
    {n : Int32} {N' : Nat} (hn : ¬ n < 0) (hN : n.toNatClampNeg = N') (hbytes : N' * 4 ≤ 536870912) (hcells : cells + 1 ≤ R.cells) (hslots : slots + N' ≤ R.slots) (hdg : decode cc pc = .ok (.anewarray index, 3))
    (kk : ∀ (q : Nat) (H1 : Heap), va_P (dC, dI) vwCl (ws ++ [(q, .inl (cA, N', .inr (.inr (.inr (.inr (fun _ => none))))))]) H1 → va_D A (ws ++ [(q, .inl (cA, N', .inr (.inr (.inr (.inr (fun _ => none))))))]) → va_S A H0 H1 locs →
      W p l e R s m args below meth c H1 locs (cells + 1) (slots + N') Q (F0 m (pc + 3) ls (.ref q :: rest))) : W p l e R s m args below meth c H locs cells slots Q (F0 m pc ls (.int n :: rest)) := by
  refine va_newq hexec hb hown hclink hover hK hP hD hS hA hn hN hbytes hcells hslots hdg (fun q cB H1 hK2 hP2 hD2 hS2 => ?_)
  have he : cB = cA := k_eq t0 ht hK2
  subst he
  exact kk q H1 hP2 hD2 hS2
/-- the ends of a method that changes its world -/
theorem rM_i {x : Int32} (hexec : p.tables.exec = Jvm.exec) (hb : c.code = cc) (hr : meth.sig.returnType = some .int) (hlocks : meth.locks = false) (hP : va_P (dC, dI) vwCl w1 H) (hD : va_D A w1) (hS : va_S A s.heap H locs) (hw : Wp w1) (hdg : decode cc pc = .ok (.ireturn, 1)) : W p l e R s m args below meth c H locs cells slots (MQ below (QU dC dI (some (.int x)) Wp A) args s cells slots A) (F0 m pc ls [.int x]) :=
  W.iret hexec hb hr (fun t ht _ => ⟨⟨rfl, w1, hw, by rw [ht]; exact hP, hD⟩, hS.F ht⟩) hS.2.2 hdg hlocks
theorem rM_z {x : Int32} (hexec : p.tables.exec = Jvm.exec) (hb : c.code = cc) (hr : meth.sig.returnType = some .boolean) (hlocks : meth.locks = false) (hn : narrow .boolean (.int x) = .int x) (hP : va_P (dC, dI) vwCl w1 H) (hD : va_D A w1) (hS : va_S A s.heap H locs) (hw : Wp w1) (hdg : decode cc pc = .ok (.ireturn, 1)) : W p l e R s m args below meth c H locs cells slots (MQ below (QU dC dI (some (.int x)) Wp A) args s cells slots A) (F0 m pc ls [.int x]) :=
  W.zret hexec hb hr hn (fun t ht _ => ⟨⟨rfl, w1, hw, by rw [ht]; exact hP, hD⟩, hS.F ht⟩) hS.2.2 hdg hlocks
theorem rM_v (hexec : p.tables.exec = Jvm.exec) (hb : c.code = cc) (hr : meth.sig.returnType = none) (hlocks : meth.locks = false) (hP : va_P (dC, dI) vwCl w1 H) (hD : va_D A w1) (hS : va_S A s.heap H locs) (hw : Wp w1) (hdg : decode cc pc = .ok (.return_, 1)) : W p l e R s m args below meth c H locs cells slots (MQ below (QU dC dI none Wp A) args s cells slots A) (F0 m pc ls []) :=
  W.vret hexec hb hr (fun t ht _ => ⟨⟨rfl, w1, hw, by rw [ht]; exact hP, hD⟩, hS.F ht⟩) hS.2.2 hdg hlocks
theorem rM_n {rt : FieldType} (hexec : p.tables.exec = Jvm.exec) (hb : c.code = cc) (hr : meth.sig.returnType = some rt) (hrt : (∃ n, rt = .object n) ∨ ∃ t, rt = .array t) (hlocks : meth.locks = false) (hP : va_P (dC, dI) vwCl w1 H) (hD : va_D A w1) (hS : va_S A s.heap H locs) (hw : Wp w1) (hdg : decode cc pc = .ok (.areturn, 1)) : W p l e R s m args below meth c H locs cells slots (MQ below (QU dC dI (some .null) Wp A) args s cells slots A) (F0 m pc ls [.null]) :=
  W.aret hexec hb hr hrt (Or.inl rfl) (fun t ht _ => ⟨⟨rfl, w1, hw, by rw [ht]; exact hP, hD⟩, hS.F ht⟩) hS.2.2 hdg hlocks
/-- the ends of a method that changes nothing -/
theorem rP_i {x : Int32} {fr : Nat → Prop} (hexec : p.tables.exec = Jvm.exec) (hb : c.code = cc) (hr : meth.sig.returnType = some .int) (hlocks : meth.locks = false) (hdg : decode cc pc = .ok (.ireturn, 1)) : W p l e R s m args below meth c s.heap [] cells slots (MQ below (QP (some (.int x))) args s cells slots fr) (F0 m pc ls [.int x]) :=
  W.iret hexec hb hr (fun t ht _ => ⟨rfl, ht⟩) (fun q h => by cases h) hdg hlocks
theorem rP_z {x : Int32} {fr : Nat → Prop} (hexec : p.tables.exec = Jvm.exec) (hb : c.code = cc) (hr : meth.sig.returnType = some .boolean) (hlocks : meth.locks = false) (hn : narrow .boolean (.int x) = .int x) (hdg : decode cc pc = .ok (.ireturn, 1)) : W p l e R s m args below meth c s.heap [] cells slots (MQ below (QP (some (.int x))) args s cells slots fr) (F0 m pc ls [.int x]) :=
  W.zret hexec hb hr hn (fun t ht _ => ⟨rfl, ht⟩) (fun q h => by cases h) hdg hlocks
end BaseW
/-- a contract of a method that changes its world, out of a walk -/
theorem met_M {l : Launch} {y : MethodName} {rm : Room} {av : List Value} {wi : va_W} {v : Option Value} {Wp : va_W → Prop} {mc ms : Nat} {cc : ByteArray} {maxL : Nat} {ret : Option FieldType} {own : String} {dC : Nat → ClassId} {dI : Nat → Nat → Nat} {kA : Nat → ClassId} {sz : Nat}
    (hy : plainName y.cls = true) (ho : y.cls = own) (hn : (lg_sl av).length ≤ maxL) 
    (body : ∀ (p : Program) (e : Env) (s : State) (m : MethodId) (below : List Frame) (meth : Method) (c : Code) (ls : Array Slot) (A : Nat → Prop), p.tables.exec = Jvm.exec → c.code = cc → meth.sig.returnType = ret → (∀ w ∈ lwG, w.before av.toArray s = true) → s.vm.findClass own = some m.cls → meth.locks = false → c.maxLocals = maxL → meth.name = y.name → va_K (dC, dI) vwCl (tyL kA) s → nwK s → (∀ q, s.heap.size ≤ q → A q) → va_P (dC, dI) vwCl wi s.heap → va_D A wi → va_S A s.heap s.heap [] → lv_has ls maxL (lv_args 0 av) →
      W p l e rm s m av.toArray below meth c s.heap [] 0 0 (MQ below (QU dC dI v Wp A) av.toArray s mc ms A) (F0 m 0 ls [])) :
    Met l y (wsU y cc maxL ret) rm (va_Pc av (PW dC dI kA wi sz)) (QU dC dI v Wp (va_A wi sz)) mc ms (va_A wi sz) := by
  refine Met.ofW (cc := cc) (maxL := maxL) (ret := ret) hy rfl ?_
  intro p e s m args below meth c s₁ B hml hv
  obtain ⟨rfl, hsz, hP, hK, hN, hD0⟩ := hv
  subst hsz
  subst ho
  have hl := lv_entry av (n := maxL) hn
  rw [lg_entry_eq]
  exact body p e s m below meth c _ (va_A wi s.heap.size) B.exec B.bytes B.returns (fun w h => atoms_spec (ws := wsU y cc maxL ret) B.pre w (List.mem_cons_of_mem _ h)) (findClass_of_methodNamed B.named) B.notSynchronized hml (name_of_methodNamed B.named B.method).1 hK hN (fun q h => Or.inr h) hP hD0.self va_S.rf hl
/-- a contract of a method that changes nothing, out of a walk -/
theorem met_P {l : Launch} {y : MethodName} {rm : Room} {av : List Value} {wi : va_W} {v : Option Value} {cc : ByteArray} {maxL : Nat} {ret : Option FieldType} {own : String} {dC : Nat → ClassId} {dI : Nat → Nat → Nat} {kA : Nat → ClassId} {sz : Nat}
    (hy : plainName y.cls = true) (ho : y.cls = own) (hn : (lg_sl av).length ≤ maxL) 
    (body : ∀ (p : Program) (e : Env) (s : State) (m : MethodId) (below : List Frame) (meth : Method) (c : Code) (ls : Array Slot), p.tables.exec = Jvm.exec → c.code = cc → meth.sig.returnType = ret → (∀ w ∈ lwG, w.before av.toArray s = true) → s.vm.findClass own = some m.cls → meth.locks = false → c.maxLocals = maxL → va_K (dC, dI) vwCl (tyL kA) s → nwK s → va_P (dC, dI) vwCl wi s.heap → va_D (fun _ => True) wi → lv_has ls maxL (lv_args 0 av) →
      W p l e rm s m av.toArray below meth c s.heap [] 0 0 (MQ below (QP v) av.toArray s 0 0 (fun _ => False)) (F0 m 0 ls [])) :
    Met l y (wsU y cc maxL ret) rm (va_Pc av (PW dC dI kA wi sz)) (QP v) 0 0 (fun _ => False) := by
  refine Met.ofW (cc := cc) (maxL := maxL) (ret := ret) hy rfl ?_
  intro p e s m args below meth c s₁ B hml hv
  obtain ⟨rfl, hsz, hP, hK, hN, hD0⟩ := hv
  subst ho
  have hl := lv_entry av (n := maxL) hn
  rw [lg_entry_eq]
  exact body p e s m below meth c _ B.exec B.bytes B.returns (fun w h => atoms_spec (ws := wsU y cc maxL ret) B.pre w (List.mem_cons_of_mem _ h)) (findClass_of_methodNamed B.named) B.notSynchronized hml hK hN hP hD0 hl
theorem va_zi (n : Nat) (ty : FieldType) (h : defaultValue ty = .int 0) (cA : ClassId) : vp_cell cA (n, .inl (fun _ => 0)) = arrV cA n (fun _ => defaultValue ty) := by
  rw [vp_cell_i, h]
theorem va_zl (n : Nat) (cA : ClassId) : vp_cell cA (n, .inr (.inl (fun _ => 0))) = arrV cA n (fun _ => defaultValue .long) := by
  rw [vp_cell_l]; rfl
theorem vpi {i : Int32} {n : Nat} (h : ¬ (i < 0 ∨ n ≤ i.toNatClampNeg)) : vp_in i n := h
