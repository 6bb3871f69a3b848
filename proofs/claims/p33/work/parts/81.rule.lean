/-! Arrays.copyOf of ints -/
def cpQ (dC : Nat → ClassId) (dI : Nat → Nat → Nat) (kA : Nat → ClassId) (ws : va_W) (N n : Nat) (f : Nat → Int32) (A : Nat → Prop) : Array Value → State → Outcome → State → Prop := fun _ st o t => (∃ (q : Nat) (g : Nat → Int32), o = .returned (some (.ref q)) ∧ (∀ j, j < N → (j < n ∧ g j = f j) ∨ g j = 0) ∧ va_P (dC, dI) vwCl (ws ++ [(q, .inl (kA 0, N, .inl g))]) t.heap ∧ va_D A (ws ++ [(q, .inl (kA 0, N, .inl g))])) ∧ va_F A st t
theorem nI_ltz {n : Nat} (h : n < 2 ^ 31) : ¬ nI n < 0 := by
  rw [Int32.lt_iff_toInt_lt, nI_toInt h]
  have : (0 : Int32).toInt = 0 := by decide
  omega
theorem nI_nat {n : Nat} (h : n < 2 ^ 31) : (nI n).toNatClampNeg = n := by
  show (nI n).toInt.toNat = n
  rw [nI_toInt h]
  omega
theorem set_last {α : Type} (l : List α) (a b : α) : (l ++ [a]).set l.length b = l ++ [b] := by
  rw [List.set_append_right _ _ (Nat.le_refl _)]
  simp
theorem met_cpy (l : Launch) (dC : Nat → ClassId) (dI : Nat → Nat → Nat) (kA : Nat → ClassId) (ws : va_W) (sz : Nat) {a n N q0 : Nat} {f : Nat → Int32} (ha : ws[q0]? = some (a, .inl (kA 0, n, .inl f))) (hn : n ≤ 400) {M : Nat} (hNM : N ≤ M) (hM : M ≤ 400) : Met l yJ7_copyOf_59c91 (wsU yJ7_copyOf_59c91 cJ7_copyOf_59c91 3 (some (.array .int))) { frames := 1, cells := 1, slots := M, locals := 120 } (va_Pc [.ref a, .int (nI N)] (fun U => PW dC dI kA ws sz U ∧ va_Nw (.castable "[I" "java/lang/Cloneable") U)) (cpQ dC dI kA ws N n f (va_A ws sz)) 1 M (va_A ws sz) := by
  refine Met.ofW (cc := cJ7_copyOf_59c91) (maxL := 3) (ret := some (.array .int)) (by decide +kernel) rfl ?_
  intro p e s m args below meth c s₁ B hml hv
  obtain ⟨rfl, ⟨hsz, hP, hK, hNw, hD0⟩, hcast⟩ := hv
  subst hsz
  have hl := lv_entry ([.ref a, .int (nI N)]) (n := 3) (Nat.le_of_ble_eq_true rfl)
  rw [lg_entry_eq]
  generalize (lg_sl ([.ref a, .int (nI N)]) ++ List.replicate (3 - (lg_sl ([.ref a, .int (nI N)])).length) Slot.unset).toArray = ls at hl ⊢
  have hl : lv_has ls 3 [(0, .ref a), (1, .int (nI N))] := hl
  have hx := B.exec
  have hb := B.bytes
  have hts : ∀ w ∈ lwG, w.before ([.ref a, .int (nI N)] : List Value).toArray s = true := fun w h => atoms_spec (ws := wsU yJ7_copyOf_59c91 cJ7_copyOf_59c91 3 (some (.array .int))) B.pre w (List.mem_cons_of_mem _ h)
  have hown : s.vm.findClass RJ7 = some m.cls := findClass_of_methodNamed B.named
  have hA : ∀ q, s.heap.size ≤ q → va_A ws s.heap.size q := fun q h => Or.inr h
  have hD : va_D (va_A ws s.heap.size) ws := hD0.self
  have hS : va_S (va_A ws s.heap.size) s.heap s.heap [] := va_S.rf
  have hty : (tyL kA)[0]? = some (kA 0, FieldType.int) := rfl
  have hnm : s.vm.findClass "[I" = some (kA 0) := (hK.2 0 _ hty).2
  refine lv_iload_n hx hb dJ7_copyOf_59c91_0 rfl (lv_at hl 1 rfl) ?_
  refine lv_aload_n hx hb dJ7_copyOf_59c91_1 rfl (lv_at hl 0 rfl) ?_
  refine va_alen hx hb hK hP q0 0 ha hty (v := nI n) rfl dJ7_copyOf_59c91_2 ?_
  refine lv_icmp_ne (tgt := 14) hx hb dJ7_copyOf_59c91_3 (by decide) (fun c1 => ?_) (fun c1 => ?_)
  · refine lv_iload_n hx hb dJ7_copyOf_59c91_14 rfl (lv_at hl 1 rfl) ?_
    refine nw_a (atype := .int) (ty := .int) (N' := N) (a0 := (N, .inl (fun _ => 0))) hx hb (hts _ rk_ar) rfl hK hP hD hS hA 0 rfl (va_zi N .int rfl) (nI_ltz (by omega)) (nI_nat (by omega)) (by show N * 4 ≤ 536870912; omega) (by show 0 + 1 ≤ 1; decide) (by show 0 + N ≤ M; omega) dJ7_copyOf_59c91_15 (fun q H2 hP hD hS => ?_)
    have ha2 : (ws ++ [(q, .inl (kA 0, N, .inl (fun _ => 0)))] : va_W)[q0]? = some (a, .inl (kA 0, n, .inl f)) := by
      rw [List.getElem?_append_left (List.getElem?_eq_some_iff.mp ha).1]
      exact ha
    have hq2 : (ws ++ [(q, .inl (kA 0, N, .inl (fun _ => 0)))] : va_W)[ws.length]? = some (q, .inl (kA 0, N, .inl (fun _ => 0))) := by simp
    refine lv_astore_n (lv' := [(2, .ref q), (0, .ref a), (1, .int (nI N))]) hx hb dJ7_copyOf_59c91_17 rfl hl (by decide) rfl (fun ls hl => ?_)
    refine lv_aload_n hx hb dJ7_copyOf_59c91_18 rfl (lv_at hl 1 rfl) ?_
    refine lv_iconst (v := 0) hx hb dJ7_copyOf_59c91_19 (by decide) ?_
    refine lv_aload_n hx hb dJ7_copyOf_59c91_20 rfl (lv_at hl 0 rfl) ?_
    refine lv_iconst (v := 0) hx hb dJ7_copyOf_59c91_21 (by decide) ?_
    refine lv_aload_n hx hb dJ7_copyOf_59c91_22 rfl (lv_at hl 1 rfl) ?_
    refine va_alen hx hb hK hP q0 0 ha2 hty (v := nI n) rfl dJ7_copyOf_59c91_23 ?_
    refine lv_iload_n hx hb dJ7_copyOf_59c91_24 rfl (lv_at hl 2 rfl) ?_
    refine va_mmin (x := nI n) (y := nI N) hx hb (by rw [hml]; exact hl.1.symm) hown (hts _ rk_mn) (hts _ rk_ms) (hts _ rk_mi) (hts _ rk_mc) (by show 1 ≤ 1; decide) (by show _ ≤ 120; simp [Value.category]) (by show _ ≤ 1; decide) (by show 0 + N + 0 ≤ M; omega) dJ7_copyOf_59c91_25 ?_
    obtain ⟨k, hk1, hk2, hk3⟩ : ∃ k : Nat, k ≤ n ∧ k ≤ N ∧ (if nI N < nI n then nI N else nI n) = nI k := by
      by_cases h : nI N < nI n
      · rw [if_pos h]
        rw [Int32.lt_iff_toInt_lt, nI_toInt (by omega), nI_toInt (by omega)] at h
        exact ⟨N, by omega, Nat.le_refl _, rfl⟩
      · rw [if_neg h]
        rw [Int32.lt_iff_toInt_lt, nI_toInt (by omega), nI_toInt (by omega)] at h
        exact ⟨n, Nat.le_refl _, by omega, rfl⟩
    refine lv_toc hk3 ?_
    have e0 : (0 : Int32).toNatClampNeg = 0 := by decide
    have ek : (nI k).toNatClampNeg = k := nI_nat (by omega)
    refine va_copyi hx hb (by rw [hml]; exact hl.1.symm) hown (hts _ rk_ac) (hts _ rk_an) (hts _ rk_as) (hts _ rk_ai) hK hP hD hS q0 ws.length 0 0 ha2 hq2 hty hty rfl (by decide) (by decide) (nI_ltz (by omega)) (by rw [e0, ek]; omega) (by rw [e0, ek]; omega) (fun i _ => rfl) (by show 1 ≤ 1; decide) (by show _ ≤ 120; simp [nativeFrameWords]) dJ7_copyOf_59c91_28 (fun H3 locs3 hP hD hS => ?_)
    rw [set_last, e0, ek] at hP hD
    refine lv_aload_n hx hb dJ7_copyOf_59c91_31 rfl (lv_at hl 0 rfl) ?_
    refine W.widen (k := 1) (n := M) (by decide) (by omega) ?_
    refine W.aret hx hb B.returns (Or.inr ⟨_, rfl⟩) (Or.inr ⟨_, rfl⟩) (fun t ht _ => ⟨⟨q, _, rfl, fun j hj => ?_, by rw [ht]; exact hP, hD⟩, hS.F ht⟩) hS.2.2 dJ7_copyOf_59c91_32 B.notSynchronized
    unfold va_cpy
    by_cases h : 0 ≤ j ∧ j < 0 + k
    · rw [if_pos h]
      exact Or.inl ⟨by omega, by rw [show 0 + (j - 0) = j by omega]⟩
    · rw [if_neg h]
      exact Or.inr rfl
  · have e1 : N = n := by
      have h3 : (nI N).toInt = (nI n).toInt := by rw [c1]
      rw [nI_toInt (by omega), nI_toInt (by omega)] at h3
      omega
    subst e1
    refine lv_aload_n hx hb dJ7_copyOf_59c91_6 rfl (lv_at hl 0 rfl) ?_
    refine va_clone (ad := "[I") (index := 316) hx hb (by rw [hml]; exact hl.1.symm) hown (hts _ rk_cl) (hts _ rk_sm) (hts _ rk_on) (hts _ rk_oi) (hts _ rk_os) hcast hK hP hD hS hA q0 0 ha hty hnm (fun i v h => ?_) (by show 1 ≤ 1; decide) (by show _ ≤ 120; simp) (by show 0 + 1 ≤ 1; decide) (by show 0 + N ≤ M; omega) dJ7_copyOf_59c91_7 (fun q H2 _ hP hD hS => ?_)
    · rw [vp_cell_i] at h
      have hi : i < N := by
        have h2 := (Array.getElem?_eq_some_iff.mp h).1
        rw [arrV_size] at h2
        exact h2
      rw [arrV_read _ _ hi] at h
      cases h
      rfl
    · have hq2 : (ws ++ [(q, .inl (kA 0, N, .inl f))] : va_W)[ws.length]? = some (q, .inl (kA 0, N, .inl f)) := by simp
      refine va_castA (nm := "[I") hx hb hown (hts _ rk_cc) hP ws.length hq2 hnm dJ7_copyOf_59c91_10 ?_
      refine W.widen (k := 1) (n := M) (by decide) (by show 0 + N ≤ M; omega) ?_
      exact W.aret hx hb B.returns (Or.inr ⟨_, rfl⟩) (Or.inr ⟨_, rfl⟩) (fun t ht _ => ⟨⟨q, f, rfl, fun j hj => Or.inl ⟨hj, rfl⟩, by rw [ht]; exact hP, hD⟩, hS.F ht⟩) hS.2.2 dJ7_copyOf_59c91_13 B.notSynchronized
