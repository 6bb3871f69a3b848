theorem lw_l (L : List Cond) (ps : List Nat) (hp : ps.map (fun i => lw_tbl[i]?) = L.map some) : ∀ w ∈ L, w ∈ lw_tbl := fun w hw => by
  obtain ⟨k, hk⟩ := List.getElem?_of_mem hw
  have h1 : (ps.map (fun i => lw_tbl[i]?))[k]? = some (some w) := by rw [hp, List.getElem?_map, hk]; rfl
  rw [List.getElem?_map] at h1
  cases hi : ps[k]? with
  | none => rw [hi] at h1; cases h1
  | some i => rw [hi] at h1; exact List.mem_of_getElem? (Option.some.inj h1)
theorem nwL_in : ∀ w ∈ nwL, w ∈ lw_tbl := lw_l nwL [141, 171, 178, 203, 371, 385, 412, 440, 442, 417, 209, 273, 357, 963] (by decide +kernel)
/-- what is said of int[][]'s class -/
theorem ao_i {args : Array Value} {s : State} (h : (Cond.arrayOver (.array .int)).before args s = true) : ∃ (cI cA : ClassId) (k : Class), s.vm.findClass (FieldType.array .int).toString = some cI ∧ s.vm.classes[cA]? = some k ∧ k.kind = .array cI (.array .int) ∧ s.vm.findClass ("[" ++ (FieldType.array .int).toString) = some cA := by
  unfold Cond.before Cond.holds at h
  simp only [Cond.value, beq_iff_eq, Option.bind_eq_some_iff, Option.map_eq_some_iff] at h
  obtain ⟨cI, h1, cA, h2, k, h3, h4⟩ := h
  obtain ⟨hlt, h5, -⟩ := Array.findIdx?_eq_some_iff_getElem.mp h2
  rw [(Array.getElem?_eq_some_iff.mp h3).2] at h5
  refine ⟨cI, cA, k, h1, h3, ?_⟩
  generalize k.kind = q at h4 h5
  cases q with
  | array a ty =>
    simp only [Bool.and_eq_true, decide_eq_true_eq, beq_iff_eq] at h4 h5
    exact ⟨by rw [h5, h4.1], h4.2⟩
  | _ => simp at h4
theorem tk_p {args : Array Value} {s : State} {ty : FieldType} (h : (Cond.arrayClass ty).before args s = true) (hq : ∀ c, s.vm.findClass ("[" ++ ty.toString) = some c → va_RA s c ty) : ∃ c, ArrOfT s c ty ∧ va_RA s c ty := by
  obtain ⟨c, k, a, h1, h2, h3⟩ := Cond.arrayClass_spec h
  exact ⟨c, fun _ _ => ⟨(fun _ h => by cases h), k, h2, a, h3⟩, hq c h1⟩
theorem tk_o {args : Array Value} {s : State} {C : String} (h : (Cond.arrayOver (.object C)).before args s = true) : ∃ c, ArrOfT s c (.object C) ∧ va_RA s c (.object C) := by
  obtain ⟨a, c, k, h1, h2, h3, h4, h5⟩ := Cond.arrayOver_spec h
  exact ⟨c, fun _ _ => ⟨(fun _ h => by cases h), k, h3, a, h4⟩, k, a, h3, h4, h1, h5⟩
/-- a String constant -/
theorem st_of {args : Array Value} {s : State} {A : Nat → Prop} {own tx : String} {idx n : Nat} (f : Nat → Int32) (hA : ∀ a : Nat, a < s.heap.size → ¬ A a) (hN : n < 2 ^ 31) (hZ : va_Z "java/lang/String" "COMPACT_STRINGS" "Z" (.int 1) A s s.heap) (hZq : va_Zq "jdk/internal/util/Preconditions" "SIOOBE_FORMATTER" "Ljava/util/function/BiFunction;" A s s.heap) (hsr : (Cond.stringRef own idx tx).before args s = true)
    (hex : (Cond.exactly (.string own idx) "java/lang/String").before args s = true) (hco : (Cond.eq (.field (.string own idx) "java/lang/String" "coder" "B") (.int 0)).before args s = true) (har : (Cond.arrayOf (.field (.string own idx) "java/lang/String" "value" "[B") .byte).before args s = true) (hle : (Cond.eq (.length (.field (.string own idx) "java/lang/String" "value" "[B")) (.int (Int32.ofNat n))).before args s = true)
    (hel : ∀ j : Nat, j < n → (Cond.eq (.elem (.field (.string own idx) "java/lang/String" "value" "[B") (.int (Int32.ofNat j))) (.int (f j))).before args s = true) : ∃ k v : Nat, ST k v n A s s.heap ∧ vk_R own idx tx k s := by
  obtain ⟨a, c, cell, kk, q1, q2, q3, q4, q5, q6, -⟩ := Cond.exactly_spec (args := args) (first := s) (o := none) (s := s) (idx := []) (t := .string own idx) (cls := "java/lang/String") hex
  obtain ⟨t, ht, hT⟩ := va_Tof (f := fun j => .int (f j)) (A := A) hN har (va_eqt hle) (fun j hj => va_eqt (hel j hj)) hA
  exact ⟨a, t, ⟨⟨cell, q3, q5, by rw [q6]; exact q2, hA a (Array.getElem?_eq_some_iff.mp q3).1⟩, vk_OFof q1 (va_eqt hco) hA, vk_OFof q1 ht hA, ⟨_, hT⟩, hZ, hZq⟩, vk_R.of hsr q1⟩
set_option maxHeartbeats 4000000 in
set_option maxRecDepth 100000 in
/-- what the start gives -/
theorem law_set {p : Program} {s : State} {m : MethodId} {meth : Method} {c : Code} {b L : Nat} {xs : Nat → Int32} (C0 : lw_At p s m meth c b L xs) : ∃ (dC : Nat → ClassId) (dI : Nat → Nat → Nat) (kA : Nat → ClassId), va_K (dC, dI) vwCl (tyL kA) s ∧ nwK s ∧ mnQ kA s ∧ va_Nw (.castable "[I" "java/lang/Cloneable") s := by
  obtain ⟨hx, hb, hr, hml, hown, hts, hX, hbl, hlocks, hgv⟩ := C0
  have htG : ∀ w ∈ lwG, w.before #[Value.ref b] s = true := fun w h => hts w (lwG_tbl h)
  obtain ⟨c0, i0, K0⟩ := u_known (C := RX0) (T := TX0) (N := 6) (n := 6) htG uX0 (hts (.instantiable RX0 6) (List.mem_of_getElem? (i := 411) (by decide +kernel)))
  obtain ⟨c1, i1, K1⟩ := u_known (C := RX1) (T := TX1) (N := 10) (n := 10) htG uX1 (hts (.instantiable RX1 10) (List.mem_of_getElem? (i := 208) (by decide +kernel)))
  obtain ⟨c2, i2, K2⟩ := u_known (C := RX2) (T := TX2) (N := 0) (n := 0) htG uX2 (hts (.instantiable RX2 0) (List.mem_of_getElem? (i := 170) (by decide +kernel)))
  obtain ⟨c3, i3, K3⟩ := u_known (C := RX3) (T := TX3) (N := 9) (n := 9) htG uX3 (hts (.instantiable RX3 9) (List.mem_of_getElem? (i := 202) (by decide +kernel)))
  obtain ⟨c4, i4, K4⟩ := u_known (C := RX4) (T := TX4) (N := 2) (n := 2) htG uX4 (hts (.instantiable RX4 2) (List.mem_of_getElem? (i := 370) (by decide +kernel)))
  obtain ⟨c5, i5, K5⟩ := u_known (C := RX5) (T := TX5) (N := 5) (n := 5) htG uX5 (hts (.instantiable RX5 5) (List.mem_of_getElem? (i := 272) (by decide +kernel)))
  obtain ⟨c6, i6, K6⟩ := u_known (C := RX6) (T := TX6) (N := 6) (n := 6) htG uX6 (hts (.instantiable RX6 6) (List.mem_of_getElem? (i := 384) (by decide +kernel)))
  obtain ⟨c7, i7, K7⟩ := u_known (C := RX7) (T := TX7) (N := 3) (n := 3) htG uX7 (hts (.instantiable RX7 3) (List.mem_of_getElem? (i := 350) (by decide +kernel)))
  obtain ⟨c8, i8, K8⟩ := u_known (C := RX8) (T := TX8) (N := 2) (n := 2) htG uX8 (hts (.instantiable RX8 2) (List.mem_of_getElem? (i := 688) (by decide +kernel)))
  obtain ⟨c9, i9, K9⟩ := u_known (C := RX9) (T := TX9) (N := 5) (n := 5) htG uX9 (hts (.instantiable RX9 5) (List.mem_of_getElem? (i := 177) (by decide +kernel)))
  obtain ⟨c10, i10, K10⟩ := u_known (C := RX10) (T := TX10) (N := 6) (n := 6) htG uX10 (hts (.instantiable RX10 6) (List.mem_of_getElem? (i := 140) (by decide +kernel)))
  obtain ⟨c11, i11, K11⟩ := u_known (C := RX11) (T := TX11) (N := 14) (n := 14) htG uX11 (hts (.instantiable RX11 14) (List.mem_of_getElem? (i := 132) (by decide +kernel)))
  obtain ⟨c12, i12, K12⟩ := u_known (C := RX12) (T := TX12) (N := 42) (n := 42) htG uX12 (hts (.instantiable RX12 42) (List.mem_of_getElem? (i := 1067) (by decide +kernel)))
  obtain ⟨a0, A0, B0⟩ := tk_p (ty := .int) (hts (.arrayClass .int) (List.mem_of_getElem? (i := 198) (by decide +kernel))) (fun _ h => h)
  obtain ⟨a1, A1, B1⟩ := tk_p (ty := .byte) (hts (.arrayClass .byte) (List.mem_of_getElem? (i := 168) (by decide +kernel))) (fun _ h => h)
  obtain ⟨a2, A2, B2⟩ := tk_p (ty := .long) (hts (.arrayClass .long) (List.mem_of_getElem? (i := 382) (by decide +kernel))) (fun _ h => h)
  obtain ⟨a3, A3, B3⟩ := tk_p (ty := .boolean) (hts (.arrayClass .boolean) (List.mem_of_getElem? (i := 1199) (by decide +kernel))) (fun _ h => h)
  have o4 : (Cond.arrayOver (.object "LinenName$Rule")).before #[Value.ref b] s = true := hts _ (List.mem_of_getElem? (i := 200) (by decide +kernel))
  obtain ⟨a4, A4, B4⟩ := tk_o o4
  have o5 : (Cond.arrayOver (.object "LinenName$Image")).before #[Value.ref b] s = true := hts _ (List.mem_of_getElem? (i := 348) (by decide +kernel))
  obtain ⟨a5, A5, B5⟩ := tk_o o5
  have o6 : (Cond.arrayOver (.object "LinenName$Linen")).before #[Value.ref b] s = true := hts _ (List.mem_of_getElem? (i := 356) (by decide +kernel))
  obtain ⟨a6, A6, B6⟩ := tk_o o6
  obtain ⟨cI, cA, kq, e1, e2, e3, e4⟩ := ao_i (hts (.arrayOver (.array .int)) (List.mem_of_getElem? (i := 390) (by decide +kernel)))
  obtain ⟨cI2, kI, cq, g1, g2, g3⟩ := Cond.arrayClass_spec (hts (.arrayClass .int) (List.mem_of_getElem? (i := 198) (by decide +kernel)))
  have eI : cI = cI2 := Option.some.inj (e1.symm.trans g1)
  subst eI
  have hB0 : s.vm.findClass ("[" ++ FieldType.int.toString) = some a0 := B0
  have e0 : cI = a0 := Option.some.inj (g1.symm.trans hB0)
  subst e0
  have hsn : "[" ++ (FieldType.array .int).toString = "[[I" := by decide +kernel
  have hmn : mnP s := ⟨cA, cI, kq, kI, cq, by rw [← hsn]; exact e4, e2, e3, g2, g3⟩
  refine ⟨fun k => match k with | 0 => c0 | 1 => c1 | 2 => c2 | 3 => c3 | 4 => c4 | 5 => c5 | 6 => c6 | 7 => c7 | 8 => c8 | 9 => c9 | 10 => c10 | 11 => c11 | _ => c12, fun k => match k with | 0 => i0 | 1 => i1 | 2 => i2 | 3 => i3 | 4 => i4 | 5 => i5 | 6 => i6 | 7 => i7 | 8 => i8 | 9 => i9 | 10 => i10 | 11 => i11 | _ => i12, fun k => match k with | 0 => cI | 1 => a1 | 2 => a2 | 3 => a3 | 4 => a4 | 5 => a5 | 6 => a6 | _ => cA, ⟨?_, ?_⟩, ⟨fun w hw => ?_, o4, o5, o6, hmn⟩, ⟨kq, e2, e3⟩, va_Nw.of rfl (hts _ (List.mem_of_getElem? (i := 697) (by decide +kernel)))⟩
  · intro k q hq
    match k, hq with
    | 0, hq => cases hq; exact K0
    | 1, hq => cases hq; exact K1
    | 2, hq => cases hq; exact K2
    | 3, hq => cases hq; exact K3
    | 4, hq => cases hq; exact K4
    | 5, hq => cases hq; exact K5
    | 6, hq => cases hq; exact K6
    | 7, hq => cases hq; exact K7
    | 8, hq => cases hq; exact K8
    | 9, hq => cases hq; exact K9
    | 10, hq => cases hq; exact K10
    | 11, hq => cases hq; exact K11
    | 12, hq => cases hq; exact K12
    | k + 13, hq => simp [vwCl] at hq
  · intro k q hq
    match k, hq with
    | 0, hq => cases hq; exact ⟨A0, B0⟩
    | 1, hq => cases hq; exact ⟨A1, B1⟩
    | 2, hq => cases hq; exact ⟨A2, B2⟩
    | 3, hq => cases hq; exact ⟨A3, B3⟩
    | 4, hq => cases hq; exact ⟨A4, B4⟩
    | 5, hq => cases hq; exact ⟨A5, B5⟩
    | 6, hq => cases hq; exact ⟨A6, B6⟩
    | 7, hq => cases hq; exact ⟨fun _ _ => ⟨(fun _ h => by cases h), kq, e2, cI, e3⟩, e4⟩
    | k + 8, hq => simp [tyL] at hq
  · obtain ⟨a, i, x, k, rfl⟩ := nwL_ok w hw
    exact va_Nw.of rfl (hts _ (nwL_in _ hw))
set_option maxHeartbeats 4000000 in
set_option maxRecDepth 100000 in
/-- the Strings -/
theorem law_str {p : Program} {s : State} {m : MethodId} {meth : Method} {c : Code} {b L : Nat} {xs : Nat → Int32} (C0 : lw_At p s m meth c b L xs) : ∀ q ∈ sxRL, ∃ a, STR s a (sxRT.length + q.2.2.2) ∧ vk_R q.1 q.2.1 q.2.2.1 a s := by
  obtain ⟨hx, hb, hr, hml, hown, hts, hX, hbl, hlocks, hgv⟩ := C0
  have hA : ∀ a : Nat, a < s.heap.size → ¬ va_A [] s.heap.size a := fun a h => by
    rintro (⟨k, e, h2⟩ | h2)
    · cases k <;> cases h2
    · omega
  have hg := flat_of_before _ hgv
  have hZ : va_Z "java/lang/String" "COMPACT_STRINGS" "Z" (.int 1) (va_A [] s.heap.size) s s.heap := va_Zof (hts (.laysStatic "java/lang/String" "COMPACT_STRINGS" "Z") (List.mem_of_getElem? (i := 547) (by decide +kernel))) (hts (.initialized "java/lang/String") (List.mem_of_getElem? (i := 122) (by decide +kernel))) (va_eqt (hg (.eq (.static "java/lang/String" "COMPACT_STRINGS" "Z") (.int 1)) (by decide +kernel))) hA
  have hZq : va_Zq "jdk/internal/util/Preconditions" "SIOOBE_FORMATTER" "Ljava/util/function/BiFunction;" (va_A [] s.heap.size) s s.heap := va_Zqof (hts (.laysStatic "jdk/internal/util/Preconditions" "SIOOBE_FORMATTER" "Ljava/util/function/BiFunction;") (List.mem_of_getElem? (i := 567) (by decide +kernel))) (hts (.initialized "jdk/internal/util/Preconditions") (List.mem_of_getElem? (i := 124) (by decide +kernel))) (hg (.isRef (.static "jdk/internal/util/Preconditions" "SIOOBE_FORMATTER" "Ljava/util/function/BiFunction;")) (by decide +kernel)) hA
  have el0 : ∀ j : Nat, j < 5 → (Cond.eq (.elem (.field (.string "LinenName$HouseReader" 40) "java/lang/String" "value" "[B") (.int (Int32.ofNat j))) (.int (([104, 111, 117, 115, 101] : List Int32).getD j 0))).before #[Value.ref b] s = true := fun j hj => hg _ ((by decide +kernel : ∀ j : Nat, j < 5 → Cond.eq (.elem (.field (.string "LinenName$HouseReader" 40) "java/lang/String" "value" "[B") (.int (Int32.ofNat j))) (.int (([104, 111, 117, 115, 101] : List Int32).getD j 0)) ∈ flatC (Jvm.Cond.and given_1 narrow_1)) j hj)
  obtain ⟨k0, v0, S0, R0⟩ := st_of (n := 5) (tx := "house") (fun j => ([104, 111, 117, 115, 101] : List Int32).getD j 0) hA (by decide) hZ hZq (hts (.stringRef "LinenName$HouseReader" 40 "house") (List.mem_of_getElem? (i := 533) (by decide +kernel))) (hg (.exactly (.string "LinenName$HouseReader" 40) "java/lang/String") (by decide +kernel)) (hg (.eq (.field (.string "LinenName$HouseReader" 40) "java/lang/String" "coder" "B") (.int 0)) (by decide +kernel)) (hg (.arrayOf (.field (.string "LinenName$HouseReader" 40) "java/lang/String" "value" "[B") .byte) (by decide +kernel)) (hg (.eq (.length (.field (.string "LinenName$HouseReader" 40) "java/lang/String" "value" "[B")) (.int 5)) (by decide +kernel)) el0
  have el1 : ∀ j : Nat, j < 6 → (Cond.eq (.elem (.field (.string "LinenName$HouseReader" 46) "java/lang/String" "value" "[B") (.int (Int32.ofNat j))) (.int (([108, 111, 100, 103, 101, 114] : List Int32).getD j 0))).before #[Value.ref b] s = true := fun j hj => hg _ ((by decide +kernel : ∀ j : Nat, j < 6 → Cond.eq (.elem (.field (.string "LinenName$HouseReader" 46) "java/lang/String" "value" "[B") (.int (Int32.ofNat j))) (.int (([108, 111, 100, 103, 101, 114] : List Int32).getD j 0)) ∈ flatC (Jvm.Cond.and given_1 narrow_1)) j hj)
  obtain ⟨k1, v1, S1, R1⟩ := st_of (n := 6) (tx := "lodger") (fun j => ([108, 111, 100, 103, 101, 114] : List Int32).getD j 0) hA (by decide) hZ hZq (hts (.stringRef "LinenName$HouseReader" 46 "lodger") (List.mem_of_getElem? (i := 590) (by decide +kernel))) (hg (.exactly (.string "LinenName$HouseReader" 46) "java/lang/String") (by decide +kernel)) (hg (.eq (.field (.string "LinenName$HouseReader" 46) "java/lang/String" "coder" "B") (.int 0)) (by decide +kernel)) (hg (.arrayOf (.field (.string "LinenName$HouseReader" 46) "java/lang/String" "value" "[B") .byte) (by decide +kernel)) (hg (.eq (.length (.field (.string "LinenName$HouseReader" 46) "java/lang/String" "value" "[B")) (.int 6)) (by decide +kernel)) el1
  have el2 : ∀ j : Nat, j < 3 → (Cond.eq (.elem (.field (.string "LinenName$HouseReader" 48) "java/lang/String" "value" "[B") (.int (Int32.ofNat j))) (.int (([109, 105, 120] : List Int32).getD j 0))).before #[Value.ref b] s = true := fun j hj => hg _ ((by decide +kernel : ∀ j : Nat, j < 3 → Cond.eq (.elem (.field (.string "LinenName$HouseReader" 48) "java/lang/String" "value" "[B") (.int (Int32.ofNat j))) (.int (([109, 105, 120] : List Int32).getD j 0)) ∈ flatC (Jvm.Cond.and given_1 narrow_1)) j hj)
  obtain ⟨k2, v2, S2, R2⟩ := st_of (n := 3) (tx := "mix") (fun j => ([109, 105, 120] : List Int32).getD j 0) hA (by decide) hZ hZq (hts (.stringRef "LinenName$HouseReader" 48 "mix") (List.mem_of_getElem? (i := 591) (by decide +kernel))) (hg (.exactly (.string "LinenName$HouseReader" 48) "java/lang/String") (by decide +kernel)) (hg (.eq (.field (.string "LinenName$HouseReader" 48) "java/lang/String" "coder" "B") (.int 0)) (by decide +kernel)) (hg (.arrayOf (.field (.string "LinenName$HouseReader" 48) "java/lang/String" "value" "[B") .byte) (by decide +kernel)) (hg (.eq (.length (.field (.string "LinenName$HouseReader" 48) "java/lang/String" "value" "[B")) (.int 3)) (by decide +kernel)) el2
  have el3 : ∀ j : Nat, j < 4 → (Cond.eq (.elem (.field (.string "LinenName$RuleReader" 58) "java/lang/String" "value" "[B") (.int (Int32.ofNat j))) (.int (([102, 111, 108, 100] : List Int32).getD j 0))).before #[Value.ref b] s = true := fun j hj => hg _ ((by decide +kernel : ∀ j : Nat, j < 4 → Cond.eq (.elem (.field (.string "LinenName$RuleReader" 58) "java/lang/String" "value" "[B") (.int (Int32.ofNat j))) (.int (([102, 111, 108, 100] : List Int32).getD j 0)) ∈ flatC (Jvm.Cond.and given_1 narrow_1)) j hj)
  obtain ⟨k3, v3, S3, R3⟩ := st_of (n := 4) (tx := "fold") (fun j => ([102, 111, 108, 100] : List Int32).getD j 0) hA (by decide) hZ hZq (hts (.stringRef "LinenName$RuleReader" 58 "fold") (List.mem_of_getElem? (i := 641) (by decide +kernel))) (hg (.exactly (.string "LinenName$RuleReader" 58) "java/lang/String") (by decide +kernel)) (hg (.eq (.field (.string "LinenName$RuleReader" 58) "java/lang/String" "coder" "B") (.int 0)) (by decide +kernel)) (hg (.arrayOf (.field (.string "LinenName$RuleReader" 58) "java/lang/String" "value" "[B") .byte) (by decide +kernel)) (hg (.eq (.length (.field (.string "LinenName$RuleReader" 58) "java/lang/String" "value" "[B")) (.int 4)) (by decide +kernel)) el3
  have el4 : ∀ j : Nat, j < 72 → (Cond.eq (.elem (.field (.string "LinenName$RuleReader" 102) "java/lang/String" "value" "[B") (.int (Int32.ofNat j))) (.int (([111, 110, 101, 32, 32, 32, 111, 116, 104, 101, 114, 32, 103, 114, 97, 100, 101, 32, 103, 114, 97, 100, 101, 111, 119, 97, 110, 116, 115, 32, 119, 97, 110, 116, 115, 111, 119, 111, 114, 110, 32, 32, 119, 111, 114, 110, 111, 32, 104, 111, 109, 101, 32, 32, 108, 101, 116, 115, 32, 32, 119, 97, 115, 32, 32, 32, 119, 101, 101, 107, 32, 32] : List Int32).getD j 0))).before #[Value.ref b] s = true := fun j hj => hg _ ((by decide +kernel : ∀ j : Nat, j < 72 → Cond.eq (.elem (.field (.string "LinenName$RuleReader" 102) "java/lang/String" "value" "[B") (.int (Int32.ofNat j))) (.int (([111, 110, 101, 32, 32, 32, 111, 116, 104, 101, 114, 32, 103, 114, 97, 100, 101, 32, 103, 114, 97, 100, 101, 111, 119, 97, 110, 116, 115, 32, 119, 97, 110, 116, 115, 111, 119, 111, 114, 110, 32, 32, 119, 111, 114, 110, 111, 32, 104, 111, 109, 101, 32, 32, 108, 101, 116, 115, 32, 32, 119, 97, 115, 32, 32, 32, 119, 101, 101, 107, 32, 32] : List Int32).getD j 0)) ∈ flatC (Jvm.Cond.and given_1 narrow_1)) j hj)
  obtain ⟨k4, v4, S4, R4⟩ := st_of (n := 72) (tx := "one   other grade gradeowants wantsoworn  worno home  lets  was   week  ") (fun j => ([111, 110, 101, 32, 32, 32, 111, 116, 104, 101, 114, 32, 103, 114, 97, 100, 101, 32, 103, 114, 97, 100, 101, 111, 119, 97, 110, 116, 115, 32, 119, 97, 110, 116, 115, 111, 119, 111, 114, 110, 32, 32, 119, 111, 114, 110, 111, 32, 104, 111, 109, 101, 32, 32, 108, 101, 116, 115, 32, 32, 119, 97, 115, 32, 32, 32, 119, 101, 101, 107, 32, 32] : List Int32).getD j 0) hA (by decide) hZ hZq (hts (.stringRef "LinenName$RuleReader" 102 "one   other grade gradeowants wantsoworn  worno home  lets  was   week  ") (List.mem_of_getElem? (i := 653) (by decide +kernel))) (hg (.exactly (.string "LinenName$RuleReader" 102) "java/lang/String") (by decide +kernel)) (hg (.eq (.field (.string "LinenName$RuleReader" 102) "java/lang/String" "coder" "B") (.int 0)) (by decide +kernel)) (hg (.arrayOf (.field (.string "LinenName$RuleReader" 102) "java/lang/String" "value" "[B") .byte) (by decide +kernel)) (hg (.eq (.length (.field (.string "LinenName$RuleReader" 102) "java/lang/String" "value" "[B")) (.int 72)) (by decide +kernel)) el4
  have el5 : ∀ j : Nat, j < 2 → (Cond.eq (.elem (.field (.string "LinenName$RuleReader" 68) "java/lang/String" "value" "[B") (.int (Int32.ofNat j))) (.int (([105, 102] : List Int32).getD j 0))).before #[Value.ref b] s = true := fun j hj => hg _ ((by decide +kernel : ∀ j : Nat, j < 2 → Cond.eq (.elem (.field (.string "LinenName$RuleReader" 68) "java/lang/String" "value" "[B") (.int (Int32.ofNat j))) (.int (([105, 102] : List Int32).getD j 0)) ∈ flatC (Jvm.Cond.and given_1 narrow_1)) j hj)
  obtain ⟨k5, v5, S5, R5⟩ := st_of (n := 2) (tx := "if") (fun j => ([105, 102] : List Int32).getD j 0) hA (by decide) hZ hZq (hts (.stringRef "LinenName$RuleReader" 68 "if") (List.mem_of_getElem? (i := 664) (by decide +kernel))) (hg (.exactly (.string "LinenName$RuleReader" 68) "java/lang/String") (by decide +kernel)) (hg (.eq (.field (.string "LinenName$RuleReader" 68) "java/lang/String" "coder" "B") (.int 0)) (by decide +kernel)) (hg (.arrayOf (.field (.string "LinenName$RuleReader" 68) "java/lang/String" "value" "[B") .byte) (by decide +kernel)) (hg (.eq (.length (.field (.string "LinenName$RuleReader" 68) "java/lang/String" "value" "[B")) (.int 2)) (by decide +kernel)) el5
  have el6 : ∀ j : Nat, j < 3 → (Cond.eq (.elem (.field (.string "LinenName$RuleReader" 86) "java/lang/String" "value" "[B") (.int (Int32.ofNat j))) (.int (([110, 111, 116] : List Int32).getD j 0))).before #[Value.ref b] s = true := fun j hj => hg _ ((by decide +kernel : ∀ j : Nat, j < 3 → Cond.eq (.elem (.field (.string "LinenName$RuleReader" 86) "java/lang/String" "value" "[B") (.int (Int32.ofNat j))) (.int (([110, 111, 116] : List Int32).getD j 0)) ∈ flatC (Jvm.Cond.and given_1 narrow_1)) j hj)
  obtain ⟨k6, v6, S6, R6⟩ := st_of (n := 3) (tx := "not") (fun j => ([110, 111, 116] : List Int32).getD j 0) hA (by decide) hZ hZq (hts (.stringRef "LinenName$RuleReader" 86 "not") (List.mem_of_getElem? (i := 677) (by decide +kernel))) (hg (.exactly (.string "LinenName$RuleReader" 86) "java/lang/String") (by decide +kernel)) (hg (.eq (.field (.string "LinenName$RuleReader" 86) "java/lang/String" "coder" "B") (.int 0)) (by decide +kernel)) (hg (.arrayOf (.field (.string "LinenName$RuleReader" 86) "java/lang/String" "value" "[B") .byte) (by decide +kernel)) (hg (.eq (.length (.field (.string "LinenName$RuleReader" 86) "java/lang/String" "value" "[B")) (.int 3)) (by decide +kernel)) el6
  have el7 : ∀ j : Nat, j < 3 → (Cond.eq (.elem (.field (.string "LinenName$RuleReader" 84) "java/lang/String" "value" "[B") (.int (Int32.ofNat j))) (.int (([97, 110, 100] : List Int32).getD j 0))).before #[Value.ref b] s = true := fun j hj => hg _ ((by decide +kernel : ∀ j : Nat, j < 3 → Cond.eq (.elem (.field (.string "LinenName$RuleReader" 84) "java/lang/String" "value" "[B") (.int (Int32.ofNat j))) (.int (([97, 110, 100] : List Int32).getD j 0)) ∈ flatC (Jvm.Cond.and given_1 narrow_1)) j hj)
  obtain ⟨k7, v7, S7, R7⟩ := st_of (n := 3) (tx := "and") (fun j => ([97, 110, 100] : List Int32).getD j 0) hA (by decide) hZ hZq (hts (.stringRef "LinenName$RuleReader" 84 "and") (List.mem_of_getElem? (i := 685) (by decide +kernel))) (hg (.exactly (.string "LinenName$RuleReader" 84) "java/lang/String") (by decide +kernel)) (hg (.eq (.field (.string "LinenName$RuleReader" 84) "java/lang/String" "coder" "B") (.int 0)) (by decide +kernel)) (hg (.arrayOf (.field (.string "LinenName$RuleReader" 84) "java/lang/String" "value" "[B") .byte) (by decide +kernel)) (hg (.eq (.length (.field (.string "LinenName$RuleReader" 84) "java/lang/String" "value" "[B")) (.int 3)) (by decide +kernel)) el7
  have el8 : ∀ j : Nat, j < 2 → (Cond.eq (.elem (.field (.string "LinenName$RuleReader" 76) "java/lang/String" "value" "[B") (.int (Int32.ofNat j))) (.int (([111, 114] : List Int32).getD j 0))).before #[Value.ref b] s = true := fun j hj => hg _ ((by decide +kernel : ∀ j : Nat, j < 2 → Cond.eq (.elem (.field (.string "LinenName$RuleReader" 76) "java/lang/String" "value" "[B") (.int (Int32.ofNat j))) (.int (([111, 114] : List Int32).getD j 0)) ∈ flatC (Jvm.Cond.and given_1 narrow_1)) j hj)
  obtain ⟨k8, v8, S8, R8⟩ := st_of (n := 2) (tx := "or") (fun j => ([111, 114] : List Int32).getD j 0) hA (by decide) hZ hZq (hts (.stringRef "LinenName$RuleReader" 76 "or") (List.mem_of_getElem? (i := 686) (by decide +kernel))) (hg (.exactly (.string "LinenName$RuleReader" 76) "java/lang/String") (by decide +kernel)) (hg (.eq (.field (.string "LinenName$RuleReader" 76) "java/lang/String" "coder" "B") (.int 0)) (by decide +kernel)) (hg (.arrayOf (.field (.string "LinenName$RuleReader" 76) "java/lang/String" "value" "[B") .byte) (by decide +kernel)) (hg (.eq (.length (.field (.string "LinenName$RuleReader" 76) "java/lang/String" "value" "[B")) (.int 2)) (by decide +kernel)) el8
  intro q hq
  have hq0 := hq
  simp only [sxRL, List.mem_cons, List.not_mem_nil, or_false] at hq
  rcases hq with rfl | rfl | rfl | rfl | rfl | rfl | rfl | rfl | rfl
  · exact ⟨k0, ⟨_, hq0, rfl, R0, v0, _, rfl, S0⟩, R0⟩
  · exact ⟨k1, ⟨_, hq0, rfl, R1, v1, _, rfl, S1⟩, R1⟩
  · exact ⟨k2, ⟨_, hq0, rfl, R2, v2, _, rfl, S2⟩, R2⟩
  · exact ⟨k3, ⟨_, hq0, rfl, R3, v3, _, rfl, S3⟩, R3⟩
  · exact ⟨k4, ⟨_, hq0, rfl, R4, v4, _, rfl, S4⟩, R4⟩
  · exact ⟨k5, ⟨_, hq0, rfl, R5, v5, _, rfl, S5⟩, R5⟩
  · exact ⟨k6, ⟨_, hq0, rfl, R6, v6, _, rfl, S6⟩, R6⟩
  · exact ⟨k7, ⟨_, hq0, rfl, R7, v7, _, rfl, S7⟩, R7⟩
  · exact ⟨k8, ⟨_, hq0, rfl, R8, v8, _, rfl, S8⟩, R8⟩
