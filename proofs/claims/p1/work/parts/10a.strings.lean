/-! String constants: what is known of one, and a method's start with some of them -/
def ST (k v n : Nat) (A : Nat → Prop) (U : State) (H : Heap) : Prop := va_O "java/lang/String" k A U H ∧ va_OF "java/lang/String" "coder" "B" (.int 0) k A U H ∧ va_OF "java/lang/String" "value" "[B" (.ref v) k A U H ∧ (∃ f, va_T .byte v n f A U H) ∧ va_Z "java/lang/String" "COMPACT_STRINGS" "Z" (.int 1) A U H
theorem ST.to {k v n : Nat} {A B : Nat → Prop} {u U : State} {H H1 : Heap} (hvm : u.vm.Alike U.vm) (hq : ∀ a : Nat, a < H.size → ¬ A a → H1[a]? = H[a]?) (hAB : ∀ q, B q → A q) (h : ST k v n A u H) : ST k v n B U H1 := by
  obtain ⟨h1, h2, h3, ⟨f, h4⟩, h5⟩ := h
  exact ⟨((h1.kept hq).narrow hAB).moved hvm, ((h2.kept hq).narrow hAB).moved hvm, ((h3.kept hq).narrow hAB).moved hvm, ⟨f, ((h4.kept hq).narrow hAB).moved hvm⟩, ((h5.kept hq).narrow hAB).moved hvm⟩
def PWS (dC : Nat → ClassId) (dI : Nat → Nat → Nat) (kA : Nat → ClassId) (ws : va_W) (sz : Nat) (SL : List (Nat × Nat × Nat)) (RL : List (String × Nat × String × Nat)) (U : State) : Prop := PW dC dI kA ws sz U ∧ (∀ q ∈ SL, ST q.1 q.2.1 q.2.2 (va_A ws sz) U U.heap) ∧ ∀ r ∈ RL, vk_R r.1 r.2.1 r.2.2.1 r.2.2.2 U
section PWSs
variable {s : State} {H : Heap} {dC : Nat → ClassId} {dI : Nat → Nat → Nat} {kA : Nat → ClassId} {A : Nat → Prop} {ws wc : va_W} {As : List Value} {b : Nat} {locs : List Loc} {SL SL' : List (Nat × Nat × Nat)} {RL RL' : List (String × Nat × String × Nat)}
theorem pws_bl {sz : Nat} {av : List Value} : FrameBlind (va_Pc av (PWS dC dI kA ws sz SL RL)) := by
  intro a U g mk q
  obtain ⟨q0, q1, q2, q3⟩ := q
  obtain ⟨r0, r1⟩ := pw_bl (av := av) a U g mk ⟨q0, q1⟩
  exact ⟨r0, r1, fun q hq => (q2 q hq).to (u := U) (U := U.calling g mk a) (Vm.Alike.refl U.vm) (fun _ _ _ => rfl) (fun _ h => h), fun r hr => (q3 r hr).same rfl⟩
theorem pws_U (hP : va_P (dC, dI) vwCl wc H) (hD : va_D A wc) (hK : va_K (dC, dI) vwCl (tyL kA) s) (hN : nwK s) (hS : va_S A s.heap H locs) (hF : ∀ q, va_A wc H.size q → A q) (hSL : ∀ q ∈ SL, ST q.1 q.2.1 q.2.2 A s s.heap) (hRL : ∀ r ∈ RL, vk_R r.1 r.2.1 r.2.2.1 r.2.2.2 s) (h1 : ∀ q ∈ SL', q ∈ SL) (h2 : ∀ q ∈ RL', q ∈ RL) : ∀ U : State, U.heap = H → s.WarmedH U.vm → va_Pc As (PWS dC dI kA wc H.size SL' RL') As.toArray U := by
  intro U hU hW
  refine ⟨rfl, ((pw_s (As := As) hP hD hK hN).2 U hU hW).2, fun q hq => ?_, fun r hr => (hRL r (h2 r hr)).warm hW⟩
  rw [hU]
  exact (hSL q (h1 q hq)).to hW.alike (fun a ha hn => hS.2.1 a ha hn) hF
theorem pws_s (hP : va_P (dC, dI) vwCl wc H) (hD : va_D A wc) (hK : va_K (dC, dI) vwCl (tyL kA) s) (hN : nwK s) (hS : va_S A s.heap H locs) (hF : ∀ q, va_A wc H.size q → A q) (hSL : ∀ q ∈ SL, ST q.1 q.2.1 q.2.2 A s s.heap) (hRL : ∀ r ∈ RL, vk_R r.1 r.2.1 r.2.2.1 r.2.2.2 s) (h1 : ∀ q ∈ SL', q ∈ SL) (h2 : ∀ q ∈ RL', q ∈ RL) : PreS s H (va_Pc As (PWS dC dI kA wc H.size SL' RL')) As :=
  ⟨pws_bl, pws_U hP hD hK hN hS hF hSL hRL h1 h2⟩
theorem pws_v (hP : va_P (dC, dI) vwCl wc H) (hD : va_D A wc) (hK : va_K (dC, dI) vwCl (tyL kA) s) (hN : nwK s) (hS : va_S A s.heap H locs) (hF : ∀ q, va_A wc H.size q → A q) (hSL : ∀ q ∈ SL, ST q.1 q.2.1 q.2.2 A s s.heap) (hRL : ∀ r ∈ RL, vk_R r.1 r.2.1 r.2.2.1 r.2.2.2 s) (h1 : ∀ q ∈ SL', q ∈ SL) (h2 : ∀ q ∈ RL', q ∈ RL) (q0 ci : Nat) {q : vw_C} {fs : List Value} (hc : vwCl[ci]? = some q) (he : wc[q0]? = some (b, .inr (ci, fs))) : PreV s H q.1 b (va_Pc (.ref b :: As) (PWS dC dI kA wc H.size SL' RL')) As :=
  ⟨pws_bl, va_recv hK hP hc he, pws_U hP hD hK hN hS hF hSL hRL h1 h2⟩
/-- the receiver is a String constant -/
theorem pws_k {k v n : Nat} (hK : va_K (dC, dI) vwCl (tyL kA) s) (hN : nwK s) (hA : ∀ q, s.heap.size ≤ q → A q) (hS : va_S A s.heap H locs) (hST : ST k v n A s s.heap) : PreV s H "java/lang/String" k (va_Pc (.ref k :: As) (PWS dC dI kA [] H.size [(k, v, n)] [])) As := by
  refine ⟨pws_bl, ?_, pws_U (A := A) (SL := [(k, v, n)]) (RL := []) (fun i q h => by simp at h) ⟨fun i j p q h => by simp at h, fun i q h => by simp at h⟩ hK hN hS (fun q h => ?_) (fun q hq => ?_) (fun r hr => absurd hr List.not_mem_nil) (fun q h => h) (fun q h => h)⟩
  · obtain ⟨cell, h1, h2, h3, -⟩ := hST.1.kept hS.2.1
    exact ⟨cell, h1, h2, h3⟩
  · rcases h with ⟨i, e, h⟩ | h
    · simp at h
    · exact hA q (Nat.le_trans hS.1 h)
  · rcases List.mem_cons.mp hq with rfl | hq
    · exact hST
    · cases hq
end PWSs
theorem met_MS {l : Launch} {y : MethodName} {rm : Room} {av : List Value} {wi : va_W} {v : Option Value} {Wp : va_W → Prop} {mc ms : Nat} {cc : ByteArray} {maxL : Nat} {ret : Option FieldType} {own : String} {dC : Nat → ClassId} {dI : Nat → Nat → Nat} {kA : Nat → ClassId} {sz : Nat} {SL : List (Nat × Nat × Nat)} {RL : List (String × Nat × String × Nat)}
    (hy : plainName y.cls = true) (ho : y.cls = own) (hn : (lg_sl av).length ≤ maxL)
    (body : ∀ (p : Program) (e : Env) (s : State) (m : MethodId) (below : List Frame) (meth : Method) (c : Code) (ls : Array Slot) (A : Nat → Prop), p.tables.exec = Jvm.exec → c.code = cc → meth.sig.returnType = ret → (∀ w ∈ lwG, w.before av.toArray s = true) → s.vm.findClass own = some m.cls → meth.locks = false → c.maxLocals = maxL → meth.name = y.name → va_K (dC, dI) vwCl (tyL kA) s → nwK s → (∀ q, s.heap.size ≤ q → A q) → va_P (dC, dI) vwCl wi s.heap → va_D A wi → va_S A s.heap s.heap [] → lv_has ls maxL (lv_args 0 av) → (∀ q ∈ SL, ST q.1 q.2.1 q.2.2 A s s.heap) → (∀ r ∈ RL, vk_R r.1 r.2.1 r.2.2.1 r.2.2.2 s) →
      W p l e rm s m av.toArray below meth c s.heap [] 0 0 (MQ below (QU dC dI v Wp A) av.toArray s mc ms A) (F0 m 0 ls [])) :
    Met l y (wsU y cc maxL ret) rm (va_Pc av (PWS dC dI kA wi sz SL RL)) (QU dC dI v Wp (va_A wi sz)) mc ms (va_A wi sz) := by
  refine Met.ofW (cc := cc) (maxL := maxL) (ret := ret) hy rfl ?_
  intro p e s m args below meth c s₁ B hml hv
  obtain ⟨rfl, ⟨hsz, hP, hK, hN, hD0⟩, hSL, hRL⟩ := hv
  subst hsz
  subst ho
  have hl := lv_entry av (n := maxL) hn
  rw [lg_entry_eq]
  exact body p e s m below meth c _ (va_A wi s.heap.size) B.exec B.bytes B.returns (fun w h => atoms_spec (ws := wsU y cc maxL ret) B.pre w (List.mem_cons_of_mem _ h)) (findClass_of_methodNamed B.named) B.notSynchronized hml (name_of_methodNamed B.named B.method).1 hK hN (fun q h => Or.inr h) hP hD0.self va_S.rf hl hSL hRL
theorem met_PS {l : Launch} {y : MethodName} {rm : Room} {av : List Value} {wi : va_W} {v : Option Value} {cc : ByteArray} {maxL : Nat} {ret : Option FieldType} {own : String} {dC : Nat → ClassId} {dI : Nat → Nat → Nat} {kA : Nat → ClassId} {sz : Nat} {SL : List (Nat × Nat × Nat)} {RL : List (String × Nat × String × Nat)}
    (hy : plainName y.cls = true) (ho : y.cls = own) (hn : (lg_sl av).length ≤ maxL)
    (body : ∀ (p : Program) (e : Env) (s : State) (m : MethodId) (below : List Frame) (meth : Method) (c : Code) (ls : Array Slot) (A : Nat → Prop), p.tables.exec = Jvm.exec → c.code = cc → meth.sig.returnType = ret → (∀ w ∈ lwG, w.before av.toArray s = true) → s.vm.findClass own = some m.cls → meth.locks = false → c.maxLocals = maxL → va_K (dC, dI) vwCl (tyL kA) s → nwK s → (∀ q, s.heap.size ≤ q → A q) → va_P (dC, dI) vwCl wi s.heap → va_D A wi → va_S A s.heap s.heap [] → lv_has ls maxL (lv_args 0 av) → (∀ q ∈ SL, ST q.1 q.2.1 q.2.2 A s s.heap) → (∀ r ∈ RL, vk_R r.1 r.2.1 r.2.2.1 r.2.2.2 s) →
      W p l e rm s m av.toArray below meth c s.heap [] 0 0 (MQ below (QP v) av.toArray s 0 0 (fun _ => False)) (F0 m 0 ls [])) :
    Met l y (wsU y cc maxL ret) rm (va_Pc av (PWS dC dI kA wi sz SL RL)) (QP v) 0 0 (fun _ => False) := by
  refine Met.ofW (cc := cc) (maxL := maxL) (ret := ret) hy rfl ?_
  intro p e s m args below meth c s₁ B hml hv
  obtain ⟨rfl, ⟨hsz, hP, hK, hN, hD0⟩, hSL, hRL⟩ := hv
  subst hsz
  subst ho
  have hl := lv_entry av (n := maxL) hn
  rw [lg_entry_eq]
  exact body p e s m below meth c _ (va_A wi s.heap.size) B.exec B.bytes B.returns (fun w h => atoms_spec (ws := wsU y cc maxL ret) B.pre w (List.mem_cons_of_mem _ h)) (findClass_of_methodNamed B.named) B.notSynchronized hml hK hN (fun q h => Or.inr h) hP hD0.self va_S.rf hl hSL hRL
