theorem dln_0 : decode cJ0_length_8abf5 0 = .ok (.aload_n 0, 1) := by decide +kernel
theorem dln_1 : decode cJ0_length_8abf5 1 = .ok (.getfield 9, 3) := by decide +kernel
theorem dln_4 : decode cJ0_length_8abf5 4 = .ok (.arraylength, 1) := by decide +kernel
theorem dln_5 : decode cJ0_length_8abf5 5 = .ok (.aload_n 0, 1) := by decide +kernel
theorem dln_6 : decode cJ0_length_8abf5 6 = .ok (.invokevirtual 335, 3) := by decide +kernel
theorem dln_9 : decode cJ0_length_8abf5 9 = .ok (.ishr, 1) := by decide +kernel
theorem dln_10 : decode cJ0_length_8abf5 10 = .ok (.ireturn, 1) := by decide +kernel
theorem dco_0 : decode cJ0_coder_7d493 0 = .ok (.getstatic 38, 3) := by decide +kernel
theorem dco_3 : decode cJ0_coder_7d493 3 = .ok (.ifCond .eq 10, 3) := by decide +kernel
theorem dco_6 : decode cJ0_coder_7d493 6 = .ok (.aload_n 0, 1) := by decide +kernel
theorem dco_7 : decode cJ0_coder_7d493 7 = .ok (.getfield 15, 3) := by decide +kernel
theorem dco_10 : decode cJ0_coder_7d493 10 = .ok (.goto 4, 3) := by decide +kernel
theorem dco_13 : decode cJ0_coder_7d493 13 = .ok (.iconst 1, 1) := by decide +kernel
theorem dco_14 : decode cJ0_coder_7d493 14 = .ok (.ireturn, 1) := by decide +kernel
theorem dla_0 : decode cJ0_isLatin1_aae02 0 = .ok (.getstatic 38, 3) := by decide +kernel
theorem dla_3 : decode cJ0_isLatin1_aae02 3 = .ok (.ifCond .eq 14, 3) := by decide +kernel
theorem dla_6 : decode cJ0_isLatin1_aae02 6 = .ok (.aload_n 0, 1) := by decide +kernel
theorem dla_7 : decode cJ0_isLatin1_aae02 7 = .ok (.getfield 15, 3) := by decide +kernel
theorem dla_10 : decode cJ0_isLatin1_aae02 10 = .ok (.ifCond .ne 7, 3) := by decide +kernel
theorem dla_13 : decode cJ0_isLatin1_aae02 13 = .ok (.iconst 1, 1) := by decide +kernel
theorem dla_14 : decode cJ0_isLatin1_aae02 14 = .ok (.goto 4, 3) := by decide +kernel
theorem dla_17 : decode cJ0_isLatin1_aae02 17 = .ok (.iconst 0, 1) := by decide +kernel
theorem dla_18 : decode cJ0_isLatin1_aae02 18 = .ok (.ireturn, 1) := by decide +kernel
theorem dca_0 : decode cJ0_charAt_5068e 0 = .ok (.aload_n 0, 1) := by decide +kernel
theorem dca_1 : decode cJ0_charAt_5068e 1 = .ok (.invokevirtual 492, 3) := by decide +kernel
theorem dca_4 : decode cJ0_charAt_5068e 4 = .ok (.ifCond .eq 12, 3) := by decide +kernel
theorem dca_7 : decode cJ0_charAt_5068e 7 = .ok (.aload_n 0, 1) := by decide +kernel
theorem dca_8 : decode cJ0_charAt_5068e 8 = .ok (.getfield 9, 3) := by decide +kernel
theorem dca_11 : decode cJ0_charAt_5068e 11 = .ok (.iload_n 1, 1) := by decide +kernel
theorem dca_12 : decode cJ0_charAt_5068e 12 = .ok (.invokestatic 495, 3) := by decide +kernel
theorem dca_15 : decode cJ0_charAt_5068e 15 = .ok (.ireturn, 1) := by decide +kernel
theorem dca_16 : decode cJ0_charAt_5068e 16 = .ok (.aload_n 0, 1) := by decide +kernel
theorem dca_17 : decode cJ0_charAt_5068e 17 = .ok (.getfield 9, 3) := by decide +kernel
theorem dca_20 : decode cJ0_charAt_5068e 20 = .ok (.iload_n 1, 1) := by decide +kernel
theorem dca_21 : decode cJ0_charAt_5068e 21 = .ok (.invokestatic 498, 3) := by decide +kernel
theorem dca_24 : decode cJ0_charAt_5068e 24 = .ok (.ireturn, 1) := by decide +kernel
theorem dc1_0 : decode cJ1_charAt_3b067 0 = .ok (.iload_n 1, 1) := by decide +kernel
theorem dc1_1 : decode cJ1_charAt_3b067 1 = .ok (.aload_n 0, 1) := by decide +kernel
theorem dc1_2 : decode cJ1_charAt_3b067 2 = .ok (.arraylength, 1) := by decide +kernel
theorem dc1_3 : decode cJ1_charAt_3b067 3 = .ok (.invokestatic 9, 3) := by decide +kernel
theorem dc1_6 : decode cJ1_charAt_3b067 6 = .ok (.aload_n 0, 1) := by decide +kernel
theorem dc1_7 : decode cJ1_charAt_3b067 7 = .ok (.iload_n 1, 1) := by decide +kernel
theorem dc1_8 : decode cJ1_charAt_3b067 8 = .ok (.baload, 1) := by decide +kernel
theorem dc1_9 : decode cJ1_charAt_3b067 9 = .ok (.sipush 255, 3) := by decide +kernel
theorem dc1_12 : decode cJ1_charAt_3b067 12 = .ok (.iand, 1) := by decide +kernel
theorem dc1_13 : decode cJ1_charAt_3b067 13 = .ok (.i2c, 1) := by decide +kernel
theorem dc1_14 : decode cJ1_charAt_3b067 14 = .ok (.ireturn, 1) := by decide +kernel
theorem dci_0 : decode cJ0_checkIndex_df160 0 = .ok (.iload_n 0, 1) := by decide +kernel
theorem dci_1 : decode cJ0_checkIndex_df160 1 = .ok (.iload_n 1, 1) := by decide +kernel
theorem dci_2 : decode cJ0_checkIndex_df160 2 = .ok (.getstatic 1053, 3) := by decide +kernel
theorem dci_5 : decode cJ0_checkIndex_df160 5 = .ok (.invokestatic 1059, 3) := by decide +kernel
theorem dci_8 : decode cJ0_checkIndex_df160 8 = .ok (.pop, 1) := by decide +kernel
theorem dci_9 : decode cJ0_checkIndex_df160 9 = .ok (.return_, 1) := by decide +kernel
theorem dpc_0 : decode cJ3_checkIndex_8e157 0 = .ok (.iload_n 0, 1) := by decide +kernel
theorem dpc_1 : decode cJ3_checkIndex_8e157 1 = .ok (.ifCond .lt 8, 3) := by decide +kernel
theorem dpc_4 : decode cJ3_checkIndex_8e157 4 = .ok (.iload_n 0, 1) := by decide +kernel
theorem dpc_5 : decode cJ3_checkIndex_8e157 5 = .ok (.iload_n 1, 1) := by decide +kernel
theorem dpc_6 : decode cJ3_checkIndex_8e157 6 = .ok (.if_icmp .lt 10, 3) := by decide +kernel
theorem dpc_9 : decode cJ3_checkIndex_8e157 9 = .ok (.aload_n 2, 1) := by decide +kernel
theorem dpc_10 : decode cJ3_checkIndex_8e157 10 = .ok (.iload_n 0, 1) := by decide +kernel
theorem dpc_11 : decode cJ3_checkIndex_8e157 11 = .ok (.iload_n 1, 1) := by decide +kernel
theorem dpc_12 : decode cJ3_checkIndex_8e157 12 = .ok (.invokestatic 95, 3) := by decide +kernel
theorem dpc_15 : decode cJ3_checkIndex_8e157 15 = .ok (.athrow, 1) := by decide +kernel
theorem dpc_16 : decode cJ3_checkIndex_8e157 16 = .ok (.iload_n 0, 1) := by decide +kernel
theorem dpc_17 : decode cJ3_checkIndex_8e157 17 = .ok (.ireturn, 1) := by decide +kernel
theorem dbc_0 : decode cJ6_bitCount_0f7a4 0 = .ok (.iload_n 0, 1) := by decide +kernel
theorem dbc_1 : decode cJ6_bitCount_0f7a4 1 = .ok (.iload_n 0, 1) := by decide +kernel
theorem dbc_2 : decode cJ6_bitCount_0f7a4 2 = .ok (.iconst 1, 1) := by decide +kernel
theorem dbc_3 : decode cJ6_bitCount_0f7a4 3 = .ok (.iushr, 1) := by decide +kernel
theorem dbc_4 : decode cJ6_bitCount_0f7a4 4 = .ok (.ldc_w 265, 3) := by decide +kernel
theorem dbc_7 : decode cJ6_bitCount_0f7a4 7 = .ok (.iand, 1) := by decide +kernel
theorem dbc_8 : decode cJ6_bitCount_0f7a4 8 = .ok (.isub, 1) := by decide +kernel
theorem dbc_9 : decode cJ6_bitCount_0f7a4 9 = .ok (.istore_n 0, 1) := by decide +kernel
theorem dbc_10 : decode cJ6_bitCount_0f7a4 10 = .ok (.iload_n 0, 1) := by decide +kernel
theorem dbc_11 : decode cJ6_bitCount_0f7a4 11 = .ok (.ldc_w 266, 3) := by decide +kernel
theorem dbc_14 : decode cJ6_bitCount_0f7a4 14 = .ok (.iand, 1) := by decide +kernel
theorem dbc_15 : decode cJ6_bitCount_0f7a4 15 = .ok (.iload_n 0, 1) := by decide +kernel
theorem dbc_16 : decode cJ6_bitCount_0f7a4 16 = .ok (.iconst 2, 1) := by decide +kernel
theorem dbc_17 : decode cJ6_bitCount_0f7a4 17 = .ok (.iushr, 1) := by decide +kernel
theorem dbc_18 : decode cJ6_bitCount_0f7a4 18 = .ok (.ldc_w 266, 3) := by decide +kernel
theorem dbc_21 : decode cJ6_bitCount_0f7a4 21 = .ok (.iand, 1) := by decide +kernel
theorem dbc_22 : decode cJ6_bitCount_0f7a4 22 = .ok (.iadd, 1) := by decide +kernel
theorem dbc_23 : decode cJ6_bitCount_0f7a4 23 = .ok (.istore_n 0, 1) := by decide +kernel
theorem dbc_24 : decode cJ6_bitCount_0f7a4 24 = .ok (.iload_n 0, 1) := by decide +kernel
theorem dbc_25 : decode cJ6_bitCount_0f7a4 25 = .ok (.iload_n 0, 1) := by decide +kernel
theorem dbc_26 : decode cJ6_bitCount_0f7a4 26 = .ok (.iconst 4, 1) := by decide +kernel
theorem dbc_27 : decode cJ6_bitCount_0f7a4 27 = .ok (.iushr, 1) := by decide +kernel
theorem dbc_28 : decode cJ6_bitCount_0f7a4 28 = .ok (.iadd, 1) := by decide +kernel
theorem dbc_29 : decode cJ6_bitCount_0f7a4 29 = .ok (.ldc_w 267, 3) := by decide +kernel
theorem dbc_32 : decode cJ6_bitCount_0f7a4 32 = .ok (.iand, 1) := by decide +kernel
theorem dbc_33 : decode cJ6_bitCount_0f7a4 33 = .ok (.istore_n 0, 1) := by decide +kernel
theorem dbc_34 : decode cJ6_bitCount_0f7a4 34 = .ok (.iload_n 0, 1) := by decide +kernel
theorem dbc_35 : decode cJ6_bitCount_0f7a4 35 = .ok (.iload_n 0, 1) := by decide +kernel
theorem dbc_36 : decode cJ6_bitCount_0f7a4 36 = .ok (.bipush 8, 2) := by decide +kernel
theorem dbc_38 : decode cJ6_bitCount_0f7a4 38 = .ok (.iushr, 1) := by decide +kernel
theorem dbc_39 : decode cJ6_bitCount_0f7a4 39 = .ok (.iadd, 1) := by decide +kernel
theorem dbc_40 : decode cJ6_bitCount_0f7a4 40 = .ok (.istore_n 0, 1) := by decide +kernel
theorem dbc_41 : decode cJ6_bitCount_0f7a4 41 = .ok (.iload_n 0, 1) := by decide +kernel
theorem dbc_42 : decode cJ6_bitCount_0f7a4 42 = .ok (.iload_n 0, 1) := by decide +kernel
theorem dbc_43 : decode cJ6_bitCount_0f7a4 43 = .ok (.bipush 16, 2) := by decide +kernel
theorem dbc_45 : decode cJ6_bitCount_0f7a4 45 = .ok (.iushr, 1) := by decide +kernel
theorem dbc_46 : decode cJ6_bitCount_0f7a4 46 = .ok (.iadd, 1) := by decide +kernel
theorem dbc_47 : decode cJ6_bitCount_0f7a4 47 = .ok (.istore_n 0, 1) := by decide +kernel
theorem dbc_48 : decode cJ6_bitCount_0f7a4 48 = .ok (.iload_n 0, 1) := by decide +kernel
theorem dbc_49 : decode cJ6_bitCount_0f7a4 49 = .ok (.bipush 63, 2) := by decide +kernel
theorem dbc_51 : decode cJ6_bitCount_0f7a4 51 = .ok (.iand, 1) := by decide +kernel
theorem dbc_52 : decode cJ6_bitCount_0f7a4 52 = .ok (.ireturn, 1) := by decide +kernel
/-! contracts by hand: Integer.bitCount, String.length, String.charAt -/
section SXHand
variable {PF : Nat → List Int → List (Nat → Int) → Prop} {RT : List sxG} {TK : (Nat → Option Nat) → va_W → State → Prop} {My : Nat → MethodName} {Mc : Nat → ByteArray} {ML : Nat → Nat} {Mr : Nat → Option FieldType}
theorem sx_hand {l : Launch} {I : sxI} (hpl : plainName (My I.1).cls = true) (hn : sx_argn I.2.2.2.1 ≤ ML I.1)
    (body : ∀ (dC : Nat → ClassId) (dI : Nat → Nat → Nat) (kA : Nat → ClassId) (τ : Nat → Option Nat) (ws : va_W) (σ : sxV) (ρ : sxR) (φ : sxF), sx_sat PF τ I.2.2.1 σ ρ φ ws → sx_wt RT kA τ ws → ∀ (p : Program) (e : Env) (s : State) (m : MethodId) (below : List Frame) (meth : Method) (c : Code) (ls : Array Slot), p.tables.exec = Jvm.exec → c.code = Mc I.1 → meth.sig.returnType = Mr I.1 → (∀ w ∈ lwG, w.before (I.2.2.2.1.map (sx_val σ ρ)).toArray s = true) → s.vm.findClass (My I.1).cls = some m.cls → meth.locks = false → c.maxLocals = ML I.1 → va_K (dC, dI) vwCl (tyL kA) s → nwK s → va_P (dC, dI) vwCl ws s.heap → va_D (va_A ws s.heap.size) ws → TK τ ws s → lv_has ls (ML I.1) (sx_loc σ ρ (sx_argl 0 I.2.2.2.1)) →
      (∀ E ∈ I.2.2.2.2.2, ∀ (σ' : sxV) (ρ' : sxR) (φ' : sxF), sx_ag I.2.2.1 σ σ' ρ ρ' φ φ' → sx_dsat PF τ I.2.2.1.1.length I.2.2.1.2.1.length E.1 σ' ρ' φ' ws → ∀ t : State, t.heap = s.heap → sx_QX PF RT dC dI kA τ I σ ρ φ ws (va_A ws s.heap.size) (I.2.2.2.1.map (sx_val σ ρ)).toArray s (.returned (sx_ret σ' ρ' E.2)) t) →
      W p l e (sx_rm I) s m (I.2.2.2.1.map (sx_val σ ρ)).toArray below meth c s.heap [] 0 0 (MQ below (sx_QX PF RT dC dI kA τ I σ ρ φ ws (va_A ws s.heap.size)) (I.2.2.2.1.map (sx_val σ ρ)).toArray s 0 0 (va_A ws s.heap.size)) (F0 m 0 ls [])) : sx_met PF RT My Mc ML Mr TK l I := by
  intro dC dI kA τ ws sz σ ρ φ hs hT
  refine Met.ofW (cc := Mc I.1) (maxL := ML I.1) (ret := Mr I.1) hpl rfl ?_
  intro p e s m args below meth c s₁ B hml hv
  obtain ⟨rfl, ⟨hsz, hP, hK, hN, hD0⟩, htk⟩ := hv
  subst hsz
  have hl := lv_entry (I.2.2.2.1.map (sx_val σ ρ)) (n := ML I.1) (by rw [sx_lgsl]; exact hn)
  rw [lg_entry_eq]
  rw [sx_argl_ok] at hl
  exact body dC dI kA τ ws σ ρ φ hs hT p e s m below meth c _ B.exec B.bytes B.returns (fun w hw => atoms_spec (ws := wsU (My I.1) (Mc I.1) (ML I.1) (Mr I.1)) B.pre w (List.mem_cons_of_mem _ hw)) (findClass_of_methodNamed B.named) B.notSynchronized hml hK hN hP hD0.self htk hl (fun E hE σ' ρ' φ' ha hd t ht => ⟨⟨E, hE, σ', ρ', φ', ws, ha, hd, rfl, by rw [ht]; exact hP, hD0.self, hT, sx_un.rfl⟩, va_S.rf.F ht⟩)
/-- an end with one number -/
theorem sx_hone {τ : Nat → Option Nat} {I : sxI} {lo hi : Int} {σ : sxV} {ρ : sxR} {φ : sxF} {ws : va_W} {P : Option Value → Prop} (hE : I.2.2.2.2.2 = [(([(lo, hi)], [], 0, [], [], [], []), some (0, I.2.2.1.1.length, 0))]) (hq : ∀ E ∈ I.2.2.2.2.2, ∀ (σ' : sxV) (ρ' : sxR) (φ' : sxF), sx_ag I.2.2.1 σ σ' ρ ρ' φ φ' → sx_dsat PF τ I.2.2.1.1.length I.2.2.1.2.1.length E.1 σ' ρ' φ' ws → P (sx_ret σ' ρ' E.2)) (y : Int32) (h1 : lo ≤ y.toInt) (h2 : y.toInt ≤ hi) : P (some (.int y)) := by
  have hd : sx_dsat PF τ I.2.2.1.1.length I.2.2.1.2.1.length ([(lo, hi)], [], 0, [], [], [], []) (fun i => if i = I.2.2.1.1.length then y.toInt else σ i) ρ φ ws := by
    refine ⟨fun i e he => ?_, fun i r hr => ?_, fun f hf => ?_, fun f hf => ?_, fun f hf => ?_, fun f hf => ?_⟩
    · match i, he with
      | 0, he =>
        cases he
        show lo ≤ (if I.2.2.1.1.length + 0 = I.2.2.1.1.length then y.toInt else _) ∧ (if I.2.2.1.1.length + 0 = I.2.2.1.1.length then y.toInt else _) ≤ hi
        rw [if_pos (Nat.add_zero _)]
        exact ⟨h1, h2⟩
      | i + 1, he => simp at he
    · simp at hr
    · cases hf
    · cases hf
    · cases hf
    · cases hf
  have h := hq (([(lo, hi)], [], 0, [], [], [], []), some (0, I.2.2.1.1.length, 0)) (by rw [hE]; exact List.mem_cons_self) (fun i => if i = I.2.2.1.1.length then y.toInt else σ i) ρ φ ⟨fun i hi => if_neg (Nat.ne_of_lt hi), fun _ _ => rfl, fun _ _ => rfl⟩ hd
  have e : sx_ret (fun i => if i = I.2.2.1.1.length then y.toInt else σ i) ρ (some (0, I.2.2.1.1.length, 0)) = some (.int y) := by
    show some (Value.int (Int32.ofInt ((if I.2.2.1.1.length = I.2.2.1.1.length then y.toInt else σ I.2.2.1.1.length) + 0))) = some (.int y)
    rw [if_pos rfl, Int.add_zero, Int32.ofInt_toInt]
  rw [e] at h
  exact h
end SXHand
def h_ush (x y : Int32) : Int32 := (x.toUInt32 >>> (y.toUInt32 &&& Int32.toUInt32 31)).toInt32
def h_b1 (x : Int32) : Int32 := x - (h_ush x 1 &&& Int32.ofInt (.ofNat 1431655765))
def h_b2 (x : Int32) : Int32 := (x &&& Int32.ofInt (.ofNat 858993459)) + (h_ush x 2 &&& Int32.ofInt (.ofNat 858993459))
def h_b3 (x : Int32) : Int32 := (x + h_ush x 4) &&& Int32.ofInt (.ofNat 252645135)
def h_b4 (x : Int32) : Int32 := x + h_ush x 8
def h_b5 (x : Int32) : Int32 := x + h_ush x 16
def h_bc (x : Int32) : Int32 := h_b5 (h_b4 (h_b3 (h_b2 (h_b1 x)))) &&& 63
theorem h_and (z : Int32) (n : Nat) (hn : n < 256) : ∃ k : Nat, k ≤ n ∧ z &&& Int32.ofNat n = Int32.ofNat k := by
  refine ⟨(z &&& Int32.ofNat n).toBitVec.toNat, ?_, ?_⟩
  · rw [Int32.toBitVec_and, BitVec.toNat_and]
    refine Nat.le_trans Nat.and_le_right ?_
    show n % 2 ^ 32 ≤ n
    exact Nat.mod_le _ _
  · apply Int32.toBitVec_inj.mp
    show _ = BitVec.ofNat 32 _
    rw [BitVec.ofNat_toNat, BitVec.setWidth_eq]
theorem h_rng {P : Int → Prop} {n : Nat} (h : ∀ k : Nat, k < n → P (k : Int)) (j : Int) (h1 : 0 ≤ j) (h2 : j < n) : P j := by
  have := h j.toNat (by omega)
  rw [Int.toNat_of_nonneg h1] at this
  exact this
theorem h_bit6 : ∀ j : Int, 0 ≤ j → j ≤ 126 → 0 ≤ (h_bc (Int32.ofInt j)).toInt ∧ (h_bc (Int32.ofInt j)).toInt ≤ 6 := fun j h1 h2 => h_rng (P := fun j => 0 ≤ (h_bc (Int32.ofInt j)).toInt ∧ (h_bc (Int32.ofInt j)).toInt ≤ 6) (n := 127) (by decide +kernel) j h1 (by omega)
theorem h_bit7 : ∀ j : Int, 0 ≤ j → j ≤ 127 → 0 ≤ (h_bc (Int32.ofInt j)).toInt ∧ (h_bc (Int32.ofInt j)).toInt ≤ 7 := fun j h1 h2 => h_rng (P := fun j => 0 ≤ (h_bc (Int32.ofInt j)).toInt ∧ (h_bc (Int32.ofInt j)).toInt ≤ 7) (n := 128) (by decide +kernel) j h1 (by omega)
theorem h_bit63 : ∀ j : Int, -2147483648 ≤ j → j ≤ 2147483647 → 0 ≤ (h_bc (Int32.ofInt j)).toInt ∧ (h_bc (Int32.ofInt j)).toInt ≤ 63 := fun j _ _ => by
  obtain ⟨k, hk, e⟩ := h_and (h_b5 (h_b4 (h_b3 (h_b2 (h_b1 (Int32.ofInt j)))))) 63 (by decide)
  have e2 : h_bc (Int32.ofInt j) = Int32.ofNat k := e
  rw [e2]
  exact (by decide +kernel : ∀ k : Nat, k < 64 → 0 ≤ (Int32.ofNat k).toInt ∧ (Int32.ofNat k).toInt ≤ 63) k (by omega)
set_option maxHeartbeats 4000000 in
theorem sx_hbit {PF : Nat → List Int → List (Nat → Int) → Prop} {l : Launch} {lo hi r : Int} (hbc : ∀ j : Int, lo ≤ j → j ≤ hi → 0 ≤ (h_bc (Int32.ofInt j)).toInt ∧ (h_bc (Int32.ofInt j)).toInt ≤ r) : sx_met PF sxRT sxMy sxMc sxML sxMr sxTK l (2, (3, 120), ([(0, 0), (lo, hi)], [], 0, [], [], [], []), [(0, 1, 0)], [], [(([(0, r)], [], 0, [], [], [], []), some (0, 2, 0))]) := by
  refine sx_hand rfl (Nat.le_of_ble_eq_true rfl) ?_
  intro dC dI kA τ ws σ ρ φ hs hT p e s m below meth c ls hx hb hr hts hown hlocks hml hK hN hP hD hk hl hq
  have hq := sx_hone (P := fun v => ∀ t : State, t.heap = s.heap → sx_QX PF sxRT dC dI kA τ _ σ ρ φ ws (va_A ws s.heap.size) _ s (.returned v) t) rfl hq
  have hj := hs.1 1 (lo, hi) rfl
  have hv := hbc (σ 1 + 0) (by rw [Int.add_zero]; exact hj.1) (by rw [Int.add_zero]; exact hj.2)
  have hl : lv_has ls 1 [(0, .int (Int32.ofInt (σ 1 + 0)))] := hl
  generalize Int32.ofInt (σ 1 + 0) = x at hl hv
  refine lv_iload_n hx hb dbc_0 rfl (lv_at hl 0 rfl) ?_
  refine lv_iload_n hx hb dbc_1 rfl (lv_at hl 0 rfl) ?_
  refine lv_iconst (v := 1) hx hb dbc_2 (by decide) ?_
  refine lv_iushr (v := h_ush x 1) hx hb dbc_3 rfl ?_
  refine lv_ldcw hx hb hown (hts _ lk_794) dbc_4 ?_
  refine lv_iand hx hb dbc_7 ?_
  refine lv_isub hx hb dbc_8 ?_
  refine lv_toc (y := h_b1 x) rfl ?_
  refine lv_istore_n hx hb dbc_9 rfl hl (by decide) rfl (fun ls hl => ?_)
  have hl : lv_has ls 1 [(0, .int (h_b1 x))] := hl
  have hv : 0 ≤ (h_b5 (h_b4 (h_b3 (h_b2 (h_b1 x)))) &&& 63).toInt ∧ (h_b5 (h_b4 (h_b3 (h_b2 (h_b1 x)))) &&& 63).toInt ≤ r := hv
  generalize h_b1 x = x at hl hv
  refine lv_iload_n hx hb dbc_10 rfl (lv_at hl 0 rfl) ?_
  refine lv_ldcw hx hb hown (hts _ lk_795) dbc_11 ?_
  refine lv_iand hx hb dbc_14 ?_
  refine lv_iload_n hx hb dbc_15 rfl (lv_at hl 0 rfl) ?_
  refine lv_iconst (v := 2) hx hb dbc_16 (by decide) ?_
  refine lv_iushr (v := h_ush x 2) hx hb dbc_17 rfl ?_
  refine lv_ldcw hx hb hown (hts _ lk_795) dbc_18 ?_
  refine lv_iand hx hb dbc_21 ?_
  refine lv_iadd hx hb dbc_22 ?_
  refine lv_toc (y := h_b2 x) rfl ?_
  refine lv_istore_n hx hb dbc_23 rfl hl (by decide) rfl (fun ls hl => ?_)
  have hl : lv_has ls 1 [(0, .int (h_b2 x))] := hl
  generalize h_b2 x = x at hl hv
  refine lv_iload_n hx hb dbc_24 rfl (lv_at hl 0 rfl) ?_
  refine lv_iload_n hx hb dbc_25 rfl (lv_at hl 0 rfl) ?_
  refine lv_iconst (v := 4) hx hb dbc_26 (by decide) ?_
  refine lv_iushr (v := h_ush x 4) hx hb dbc_27 rfl ?_
  refine lv_iadd hx hb dbc_28 ?_
  refine lv_ldcw hx hb hown (hts _ lk_796) dbc_29 ?_
  refine lv_iand hx hb dbc_32 ?_
  refine lv_toc (y := h_b3 x) rfl ?_
  refine lv_istore_n hx hb dbc_33 rfl hl (by decide) rfl (fun ls hl => ?_)
  have hl : lv_has ls 1 [(0, .int (h_b3 x))] := hl
  generalize h_b3 x = x at hl hv
  refine lv_iload_n hx hb dbc_34 rfl (lv_at hl 0 rfl) ?_
  refine lv_iload_n hx hb dbc_35 rfl (lv_at hl 0 rfl) ?_
  refine lv_bipush (v := 8) hx hb dbc_36 (by decide) ?_
  refine lv_iushr (v := h_ush x 8) hx hb dbc_38 rfl ?_
  refine lv_iadd hx hb dbc_39 ?_
  refine lv_toc (y := h_b4 x) rfl ?_
  refine lv_istore_n hx hb dbc_40 rfl hl (by decide) rfl (fun ls hl => ?_)
  have hl : lv_has ls 1 [(0, .int (h_b4 x))] := hl
  generalize h_b4 x = x at hl hv
  refine lv_iload_n hx hb dbc_41 rfl (lv_at hl 0 rfl) ?_
  refine lv_iload_n hx hb dbc_42 rfl (lv_at hl 0 rfl) ?_
  refine lv_bipush (v := 16) hx hb dbc_43 (by decide) ?_
  refine lv_iushr (v := h_ush x 16) hx hb dbc_45 rfl ?_
  refine lv_iadd hx hb dbc_46 ?_
  refine lv_toc (y := h_b5 x) rfl ?_
  refine lv_istore_n hx hb dbc_47 rfl hl (by decide) rfl (fun ls hl => ?_)
  have hl : lv_has ls 1 [(0, .int (h_b5 x))] := hl
  generalize h_b5 x = x at hl hv
  refine lv_iload_n hx hb dbc_48 rfl (lv_at hl 0 rfl) ?_
  refine lv_bipush (v := 63) hx hb dbc_49 (by decide) ?_
  refine lv_iand hx hb dbc_51 ?_
  exact W.iret hx hb hr (fun t ht _ => hq _ hv.1 hv.2 t ht) (fun q h => by cases h) dbc_52 hlocks
/-- Strings: a method's start with one of them -/
def PWS (dC : Nat → ClassId) (dI : Nat → Nat → Nat) (kA : Nat → ClassId) (sz k v n : Nat) (U : State) : Prop := PW dC dI kA [] sz U ∧ ST k v n (va_A [] sz) U U.heap
section PWSs
variable {s : State} {H : Heap} {dC : Nat → ClassId} {dI : Nat → Nat → Nat} {kA : Nat → ClassId} {A : Nat → Prop} {As : List Value} {locs : List Loc} {k v n : Nat}
theorem pws_bl {sz : Nat} {av : List Value} : FrameBlind (va_Pc av (PWS dC dI kA sz k v n)) := by
  intro a U g mk q
  obtain ⟨q0, q1, q2⟩ := q
  obtain ⟨r0, r1⟩ := pw_bl (av := av) a U g mk ⟨q0, q1⟩
  exact ⟨r0, r1, q2.to (u := U) (U := U.calling g mk a) (Vm.Alike.refl U.vm) (fun _ _ _ => rfl) (fun _ h => h)⟩
theorem pws_U (hK : va_K (dC, dI) vwCl (tyL kA) s) (hN : nwK s) (hA : ∀ q, s.heap.size ≤ q → A q) (hST : ST k v n A s s.heap) : ∀ U : State, U.heap = s.heap → s.WarmedH U.vm → va_Pc As (PWS dC dI kA s.heap.size k v n) As.toArray U := by
  intro U hU hW
  have h0 : va_P (dC, dI) vwCl [] s.heap := fun i q h => by simp at h
  have h1 : va_D A [] := ⟨fun i j p q h => by simp at h, fun i q h => by simp at h⟩
  refine ⟨rfl, ((pw_s (As := As) h0 h1 hK hN).2 U hU hW).2, ?_⟩
  rw [hU]
  refine hST.to hW.alike (fun a ha hn => rfl) (fun q hq => ?_)
  rcases hq with ⟨i, e, h⟩ | h
  · simp at h
  · exact hA q h
theorem pws_v (hK : va_K (dC, dI) vwCl (tyL kA) s) (hN : nwK s) (hA : ∀ q, s.heap.size ≤ q → A q) (hST : ST k v n A s s.heap) : PreV s s.heap "java/lang/String" k (va_Pc (.ref k :: As) (PWS dC dI kA s.heap.size k v n)) As := by
  refine ⟨pws_bl, ?_, pws_U hK hN hA hST⟩
  obtain ⟨cell, h1, h2, h3, -⟩ := hST.1
  exact ⟨cell, h1, h2, h3⟩
theorem pws_s (hK : va_K (dC, dI) vwCl (tyL kA) s) (hN : nwK s) (hA : ∀ q, s.heap.size ≤ q → A q) (hST : ST k v n A s s.heap) : PreS s s.heap (va_Pc As (PWS dC dI kA s.heap.size k v n)) As := ⟨pws_bl, pws_U hK hN hA hST⟩
end PWSs
/-- the answer is a byte's number -/
def QB : Array Value → State → Outcome → State → Prop := fun _ st o t => (∃ x : Int32, 0 ≤ x.toInt ∧ x.toInt ≤ 255 ∧ narrow .char (.int x) = .int x ∧ o = .returned (some (.int x))) ∧ t.heap = st.heap
theorem met_PS {l : Launch} {y : MethodName} {rm : Room} {av : List Value} {Q0 : Array Value → State → Outcome → State → Prop} {cc : ByteArray} {maxL : Nat} {ret : Option FieldType} {own : String} {dC : Nat → ClassId} {dI : Nat → Nat → Nat} {kA : Nat → ClassId} {sz k v n : Nat}
    (hy : plainName y.cls = true) (ho : y.cls = own) (hn : (lg_sl av).length ≤ maxL)
    (body : ∀ (p : Program) (e : Env) (s : State) (m : MethodId) (below : List Frame) (meth : Method) (c : Code) (ls : Array Slot) (A : Nat → Prop), p.tables.exec = Jvm.exec → c.code = cc → meth.sig.returnType = ret → (∀ w ∈ lwG, w.before av.toArray s = true) → s.vm.findClass own = some m.cls → meth.locks = false → c.maxLocals = maxL → va_K (dC, dI) vwCl (tyL kA) s → nwK s → (∀ q, s.heap.size ≤ q → A q) → va_S A s.heap s.heap [] → lv_has ls maxL (lv_args 0 av) → ST k v n A s s.heap →
      W p l e rm s m av.toArray below meth c s.heap [] 0 0 (MQ below Q0 av.toArray s 0 0 (fun _ => False)) (F0 m 0 ls [])) :
    Met l y (wsU y cc maxL ret) rm (va_Pc av (PWS dC dI kA sz k v n)) Q0 0 0 (fun _ => False) := by
  refine Met.ofW (cc := cc) (maxL := maxL) (ret := ret) hy rfl ?_
  intro p e s m args below meth c s₁ B hml hv
  obtain ⟨rfl, ⟨hsz, hP, hK, hN, hD0⟩, hST⟩ := hv
  subst hsz
  subst ho
  have hl := lv_entry av (n := maxL) hn
  rw [lg_entry_eq]
  exact body p e s m below meth c _ (va_A [] s.heap.size) B.exec B.bytes B.returns (fun w h => atoms_spec (ws := wsU y cc maxL ret) B.pre w (List.mem_cons_of_mem _ h)) (findClass_of_methodNamed B.named) B.notSynchronized hml hK hN (fun q h => Or.inr h) va_S.rf hl hST
theorem cB {p : Program} {l : Launch} {e : Env} {R : Room} {s : State} {m : MethodId} {args : Array Value} {below : List Frame} {meth : Method} {c : Code} {H : Heap} {locs : List Loc} {cells slots pc : Nat} {Q : State → Prop} {ls : Array Slot} {st0 rest : List Value} {aa : Array Value} (hr : va_Run p l e R s m args below meth c H locs cells slots 0 0 (F0 m pc ls st0) rest (QB aa) (fun _ => False)) (kk : ∀ x : Int32, 0 ≤ x.toInt → x.toInt ≤ 255 → narrow .char (.int x) = .int x → W p l e R s m args below meth c H locs cells slots Q (F0 m (pc + 3) ls (.int x :: rest))) : W p l e R s m args below meth c H locs cells slots Q (F0 m pc ls st0) := by
  intro T hT X
  obtain ⟨v', st₀, t, T', L, h0, X', hL, e1, -, ⟨⟨x, x1, x2, x3, hv⟩, hh⟩, st⟩ := hr T hT X
  cases hv
  obtain ⟨t2, a1, b1⟩ := kk x x1 x2 x3 T' (by rw [e1, hh, h0]) (Stand.forget X' (fun q h => (hL q h).elim))
  exact ⟨t2, st t2 a1, b1⟩
set_option maxHeartbeats 4000000 in
theorem h_co (l : Launch) (dC : Nat → ClassId) (dI : Nat → Nat → Nat) (kA : Nat → ClassId) (sz k v n : Nat) : Met l yJ0_coder_7d493 (wsU yJ0_coder_7d493 cJ0_coder_7d493 1 (some .byte)) ({ frames := 0, cells := 0, slots := 0, locals := 0 }) (va_Pc [.ref k] (PWS dC dI kA sz k v n)) (QP (some (.int 0))) 0 0 (fun _ => False) := by
  refine met_PS (own := RJ0) (by decide) rfl (Nat.le_of_ble_eq_true rfl) ?_
  intro p e s m below meth c ls A hx hb hr hts hown hlocks hml hK hN hA hS hl hST
  have hl : lv_has ls 1 [(0, .ref k)] := hl
  obtain ⟨h1, h2, h3, h4, h5, h6⟩ := hST
  refine va_gets hx hb h5 hS hown (hts _ lk_546) (fun _ h9 => h9) dco_0 ?_
  refine lv_if_eq (tgt := 13) hx hb dco_3 (by decide) (fun c1 => ?_) (fun c1 => ?_)
  · exact False.elim (by revert c1; decide)
  refine lv_aload_n hx hb dco_6 rfl (lv_at hl 0 rfl) ?_
  refine vk_getf hx hb h2 hS hown (hts _ lk_1705) (fun _ h9 => h9) dco_7 ?_
  refine lv_goto (tgt := 14) hx hb dco_10 (by decide) ?_
  exact W.zret (ty := .byte) hx hb hr (by decide) (fun t ht _ => ⟨rfl, ht⟩) (fun q h => by cases h) dco_14 hlocks
set_option maxHeartbeats 4000000 in
theorem h_la (l : Launch) (dC : Nat → ClassId) (dI : Nat → Nat → Nat) (kA : Nat → ClassId) (sz k v n : Nat) : Met l yJ0_isLatin1_aae02 (wsU yJ0_isLatin1_aae02 cJ0_isLatin1_aae02 1 (some .boolean)) ({ frames := 0, cells := 0, slots := 0, locals := 0 }) (va_Pc [.ref k] (PWS dC dI kA sz k v n)) (QP (some (.int 1))) 0 0 (fun _ => False) := by
  refine met_PS (own := RJ0) (by decide) rfl (Nat.le_of_ble_eq_true rfl) ?_
  intro p e s m below meth c ls A hx hb hr hts hown hlocks hml hK hN hA hS hl hST
  have hl : lv_has ls 1 [(0, .ref k)] := hl
  obtain ⟨h1, h2, h3, h4, h5, h6⟩ := hST
  refine va_gets hx hb h5 hS hown (hts _ lk_546) (fun _ h9 => h9) dla_0 ?_
  refine lv_if_eq (tgt := 17) hx hb dla_3 (by decide) (fun c1 => ?_) (fun c1 => ?_)
  · exact False.elim (by revert c1; decide)
  refine lv_aload_n hx hb dla_6 rfl (lv_at hl 0 rfl) ?_
  refine vk_getf hx hb h2 hS hown (hts _ lk_1705) (fun _ h9 => h9) dla_7 ?_
  refine lv_if_ne (tgt := 17) hx hb dla_10 (by decide) (fun c1 => ?_) (fun c1 => ?_)
  · exact False.elim (by revert c1; decide)
  refine lv_iconst (v := 1) hx hb dla_13 (by decide) ?_
  refine lv_goto (tgt := 18) hx hb dla_14 (by decide) ?_
  exact W.zret (ty := .boolean) hx hb hr (by decide) (fun t ht _ => ⟨rfl, ht⟩) (fun q h => by cases h) dla_18 hlocks
set_option maxHeartbeats 4000000 in
theorem h_pc (l : Launch) (dC : Nat → ClassId) (dI : Nat → Nat → Nat) (kA : Nat → ClassId) (sz k v n : Nat) {i j : Int32} (w : Value) (h0 : ¬ i < 0) (h1 : i < j) (hw : (lg_sl [.int i, .int j, w]).length ≤ 3) : Met l yJ3_checkIndex_8e157 (wsU yJ3_checkIndex_8e157 cJ3_checkIndex_8e157 3 (some .int)) ({ frames := 0, cells := 0, slots := 0, locals := 0 }) (va_Pc [.int i, .int j, w] (PWS dC dI kA sz k v n)) (QP (some (.int i))) 0 0 (fun _ => False) := by
  refine met_PS (own := RJ3) (by decide) rfl hw ?_
  intro p e s m below meth c ls A hx hb hr hts hown hlocks hml hK hN hA hS hl hST
  have hl : lv_has ls 3 [(0, .int i), (1, .int j), (2, w)] := hl
  refine lv_iload_n hx hb dpc_0 rfl (lv_at hl 0 rfl) ?_
  refine lv_if_lt (tgt := 9) hx hb dpc_1 (by decide) (fun c1 => absurd c1 h0) (fun c1 => ?_)
  refine lv_iload_n hx hb dpc_4 rfl (lv_at hl 0 rfl) ?_
  refine lv_iload_n hx hb dpc_5 rfl (lv_at hl 1 rfl) ?_
  refine lv_icmp_lt (tgt := 16) hx hb dpc_6 (by decide) (fun c1 => ?_) (fun c1 => absurd h1 c1)
  refine lv_iload_n hx hb dpc_16 rfl (lv_at hl 0 rfl) ?_
  exact rP_i hx hb hr hlocks dpc_17
set_option maxHeartbeats 4000000 in
theorem h_ci (l : Launch) (dC : Nat → ClassId) (dI : Nat → Nat → Nat) (kA : Nat → ClassId) (sz k v n : Nat) {i j : Int32} (h0 : ¬ i < 0) (h1 : i < j) : Met l yJ0_checkIndex_df160 (wsU yJ0_checkIndex_df160 cJ0_checkIndex_df160 2 none) ({ frames := 1, cells := 0, slots := 0, locals := 30 }) (va_Pc [.int i, .int j] (PWS dC dI kA sz k v n)) (QP none) 0 0 (fun _ => False) := by
  refine met_PS (own := RJ0) (by decide) rfl (Nat.le_of_ble_eq_true rfl) ?_
  intro p e s m below meth c ls A hx hb hr hts hown hlocks hml hK hN hA hS hl hST
  have hl : lv_has ls 2 [(0, .int i), (1, .int j)] := hl
  refine lv_iload_n hx hb dci_0 rfl (lv_at hl 0 rfl) ?_
  refine lv_iload_n hx hb dci_1 rfl (lv_at hl 1 rfl) ?_
  have go : ∀ w : Value, (w = .null ∨ ∃ t, w = .ref t) → W p l e ({ frames := 1, cells := 0, slots := 0, locals := 30 }) s m #[.int i, .int j] below meth c s.heap [] 0 0 (MQ below (QP none) #[.int i, .int j] s 0 0 (fun _ => False)) (F0 m 5 ls [w, .int j, .int i]) := by
    intro w hw
    have hw3 : (lg_sl [.int i, .int j, w]).length ≤ 3 := by
      rcases hw with rfl | ⟨t, rfl⟩ <;> exact Nat.le_of_ble_eq_true rfl
    refine cPn (va_runS (As := [.int i, .int j, w]) (rest := []) (Ts := lwG) ⟨hx, hb, hml, hown, hts⟩ (h_pc l dC dI kA s.heap.size k v n w h0 h1 hw3) (va_cwS 3 hts (gS2 lk_568 lk_569 lk_124 lk_570) rfl rfl rfl ⟨by decide, by decide, by decide +kernel⟩ ⟨Nat.le_of_ble_eq_true rfl, Nat.le_of_ble_eq_true rfl⟩) (pws_s hK hN hA hST) rfl rfl hl.1 rfl (lv_room (Nat.le_of_ble_eq_true rfl)) dci_5 ⟨Nat.le_of_ble_eq_true rfl, Nat.le_of_ble_eq_true rfl⟩) ?_
    refine W.eq (g2 := F0 m 8 ls [.int i]) rfl ?_
    refine lv_pop hx hb dci_8 rfl ?_
    exact W.vret hx hb hr (fun t ht _ => ⟨rfl, ht⟩) (fun q h => by cases h) dci_9 hlocks
  obtain ⟨g1, g2, g3, g4, g5, g6⟩ := id hST
  rcases g6 with g6 | ⟨t, g6⟩
  · exact va_gets hx hb g6 hS hown (hts _ lk_566) (fun _ h9 => h9) dci_2 (go .null (Or.inl rfl))
  · exact va_gets hx hb g6 hS hown (hts _ lk_566) (fun _ h9 => h9) dci_2 (go (.ref t) (Or.inr ⟨t, rfl⟩))
theorem h_chr (z : Int32) : 0 ≤ (((z &&& 255).toUInt32 % 65536).toInt32).toInt ∧ (((z &&& 255).toUInt32 % 65536).toInt32).toInt ≤ 255 ∧ narrow .char (.int (((z &&& 255).toUInt32 % 65536).toInt32)) = .int (((z &&& 255).toUInt32 % 65536).toInt32) := by
  obtain ⟨k, hk, e⟩ := h_and z 255 (by decide)
  have e2 : z &&& 255 = Int32.ofNat k := e
  rw [e2]
  exact (by decide +kernel : ∀ k : Nat, k < 256 → 0 ≤ (((Int32.ofNat k).toUInt32 % 65536).toInt32).toInt ∧ (((Int32.ofNat k).toUInt32 % 65536).toInt32).toInt ≤ 255 ∧ narrow .char (.int (((Int32.ofNat k).toUInt32 % 65536).toInt32)) = .int (((Int32.ofNat k).toUInt32 % 65536).toInt32)) k (by omega)
set_option maxHeartbeats 4000000 in
theorem h_c1 (l : Launch) (dC : Nat → ClassId) (dI : Nat → Nat → Nat) (kA : Nat → ClassId) (sz k v n : Nat) {i : Int32} (h0 : vp_in i n) (h1 : i < Int32.ofNat n) : Met l yJ1_charAt_3b067 (wsU yJ1_charAt_3b067 cJ1_charAt_3b067 2 (some .char)) ({ frames := 2, cells := 0, slots := 0, locals := 60 }) (va_Pc [.ref v, .int i] (PWS dC dI kA sz k v n)) QB 0 0 (fun _ => False) := by
  refine met_PS (own := RJ1) (by decide) rfl (Nat.le_of_ble_eq_true rfl) ?_
  intro p e s m below meth c ls A hx hb hr hts hown hlocks hml hK hN hA hS hl hST
  have hl : lv_has ls 2 [(0, .ref v), (1, .int i)] := hl
  obtain ⟨g1, g2, g3, ⟨f, g4⟩, g5, g6⟩ := id hST
  refine lv_iload_n hx hb dc1_0 rfl (lv_at hl 1 rfl) ?_
  refine lv_aload_n hx hb dc1_1 rfl (lv_at hl 0 rfl) ?_
  refine va_tlen hx hb g4 hS rfl dc1_2 ?_
  refine cPn (va_runS (As := [.int i, .int (Int32.ofNat n)]) (rest := []) (Ts := lwG) ⟨hx, hb, hml, hown, hts⟩ (h_ci l dC dI kA s.heap.size k v n (fun h => h0 (Or.inl h)) h1) (va_cwS 2 hts (gS2 lk_563 lk_564 lk_122 lk_565) rfl rfl rfl ⟨by decide, by decide, by decide +kernel⟩ ⟨Nat.le_of_ble_eq_true rfl, Nat.le_of_ble_eq_true rfl⟩) (pws_s hK hN hA hST) rfl rfl hl.1 rfl (lv_room (Nat.le_of_ble_eq_true rfl)) dc1_3 ⟨Nat.le_of_ble_eq_true rfl, Nat.le_of_ble_eq_true rfl⟩) ?_
  refine W.eq (g2 := F0 m 6 ls []) rfl ?_
  refine lv_aload_n hx hb dc1_6 rfl (lv_at hl 0 rfl) ?_
  refine lv_iload_n hx hb dc1_7 rfl (lv_at hl 1 rfl) ?_
  refine va_tb hx hb g4 hS h0 rfl dc1_8 ?_
  refine lv_sipush (v := 255) hx hb dc1_9 (by decide) ?_
  refine lv_iand hx hb dc1_12 ?_
  refine lv_i2c hx hb dc1_13 rfl ?_
  obtain ⟨r1, r2, r3⟩ := h_chr (f i.toNatClampNeg)
  exact W.zret (ty := .char) hx hb hr r3 (fun t ht _ => ⟨⟨_, r1, r2, r3, rfl⟩, ht⟩) (fun q h => by cases h) dc1_14 hlocks
theorem h_N : sxRT.length = 68 := by decide +kernel
set_option maxHeartbeats 4000000 in
theorem sx_hlen {PF : Nat → List Int → List (Nat → Int) → Prop} {l : Launch} {k n : Nat} (hsl : sxSL[k]? = some n) : sx_met PF sxRT sxMy sxMc sxML sxMr sxTK l (1, (3, 120), ([(0, 0)], [68 + k], 0, [], [], [], []), [(2, 0, 0)], [], [(([], [], 0, [], [], [], []), some (0, 0, (n : Int)))]) := by
  refine sx_hand rfl (Nat.le_of_ble_eq_true rfl) ?_
  intro dC dI kA τ ws σ ρ φ hs hT p e s m below meth c ls hx hb hr hts hown hlocks hml hK hN hP hD hk hl hq
  obtain ⟨v, n', e1, hST⟩ := hk.1 (ρ 0) (68 + k) (hs.2.1 0 _ rfl) (by rw [h_N]; exact Nat.le_add_right _ _)
  rw [h_N, Nat.add_sub_cancel_left, hsl] at e1
  cases e1
  have hl : lv_has ls 1 [(0, .ref (ρ 0))] := hl
  have hA : ∀ q, s.heap.size ≤ q → va_A ws s.heap.size q := fun q h => Or.inr h
  have hS : va_S (va_A ws s.heap.size) s.heap s.heap [] := va_S.rf
  have hz := hs.1 0 (0, 0) rfl
  obtain ⟨g1, g2, g3, ⟨f, g4⟩, g5, g6⟩ := id hST
  refine lv_aload_n hx hb dln_0 rfl (lv_at hl 0 rfl) ?_
  refine vk_getf hx hb g3 hS hown (hts _ lk_1704) (fun _ h9 => h9) dln_1 ?_
  refine va_tlen hx hb g4 hS rfl dln_4 ?_
  refine lv_aload_n hx hb dln_5 rfl (lv_at hl 0 rfl) ?_
  refine cP (W.runV (As := []) (rest := [.int (Int32.ofNat n)]) ⟨hx, hb, hml, hown, hts⟩ (h_co l dC dI kA s.heap.size (ρ 0) v n) (cwV 0 hts (gV lk_542 lk_543 lk_544 lk_122 lk_545) rfl rfl rfl (by decide +kernel) ⟨Nat.le_of_ble_eq_true rfl, Nat.le_of_ble_eq_true rfl⟩) (pws_v hK hN hA hST) rfl rfl hl.1 rfl (lv_room (Nat.le_of_ble_eq_true rfl)) dln_6 ⟨Nat.le_of_ble_eq_true rfl, Nat.le_of_ble_eq_true rfl⟩) ?_
  refine W.eq (g2 := F0 m 9 ls [.int 0, .int (Int32.ofNat n)]) rfl ?_
  refine lv_ishr hx hb dln_9 ?_
  have en : Int32.ofNat n >>> ((0 : Int32) &&& 31) = Int32.ofInt (σ 0 + (n : Int)) := by
    have z : σ 0 = 0 := by have := hz.1; have := hz.2; simp only at *; omega
    rw [z, Int.zero_add]
    exact (by decide +kernel : ∀ n ∈ sxSL, Int32.ofNat n >>> ((0 : Int32) &&& 31) = Int32.ofInt (n : Int)) n (List.mem_of_getElem? hsl)
  refine lv_toc en ?_
  have hd : sx_dsat PF τ 1 1 ([], [], 0, [], [], [], []) σ ρ φ ws := by
    refine ⟨fun i e he => ?_, fun i r hr => ?_, fun f hf => ?_, fun f hf => ?_, fun f hf => ?_, fun f hf => ?_⟩
    · simp at he
    · simp at hr
    · cases hf
    · cases hf
    · cases hf
    · cases hf
  exact W.iret hx hb hr (fun t ht _ => hq _ List.mem_cons_self σ ρ φ ⟨fun _ _ => rfl, fun _ _ => rfl, fun _ _ => rfl⟩ hd t ht) (fun q h => by cases h) dln_10 hlocks
set_option maxHeartbeats 4000000 in
theorem sx_hchr {PF : Nat → List Int → List (Nat → Int) → Prop} {l : Launch} {k n : Nat} (hsl : sxSL[k]? = some (n + 1)) : sx_met PF sxRT sxMy sxMc sxML sxMr sxTK l (0, (3, 120), ([(0, 0), (0, (n : Int))], [68 + k], 0, [], [], [], []), [(2, 0, 0), (0, 1, 0)], [], [(([(0, 255)], [], 0, [], [], [], []), some (0, 2, 0))]) := by
  refine sx_hand rfl (Nat.le_of_ble_eq_true rfl) ?_
  intro dC dI kA τ ws σ ρ φ hs hT p e s m below meth c ls hx hb hr hts hown hlocks hml hK hN hP hD hk hl hq
  have hq := sx_hone (P := fun v => ∀ t : State, t.heap = s.heap → sx_QX PF sxRT dC dI kA τ _ σ ρ φ ws (va_A ws s.heap.size) _ s (.returned v) t) rfl hq
  obtain ⟨v, n', e1, hST⟩ := hk.1 (ρ 0) (68 + k) (hs.2.1 0 _ rfl) (by rw [h_N]; exact Nat.le_add_right _ _)
  rw [h_N, Nat.add_sub_cancel_left, hsl] at e1
  cases e1
  have hl : lv_has ls 2 [(0, .ref (ρ 0)), (1, .int (Int32.ofInt (σ 1 + 0)))] := hl
  have hA : ∀ q, s.heap.size ≤ q → va_A ws s.heap.size q := fun q h => Or.inr h
  have hS : va_S (va_A ws s.heap.size) s.heap s.heap [] := va_S.rf
  have hz : 0 ≤ σ 1 ∧ σ 1 ≤ (n : Int) := hs.1 1 (0, (n : Int)) rfl
  have hn := (by decide +kernel : ∀ n ∈ sxSL, n < 2 ^ 31 ∧ (Int32.ofNat n).toInt = (n : Int)) (n + 1) (List.mem_of_getElem? hsl)
  have ei : (Int32.ofInt (σ 1 + 0)).toInt = σ 1 := by
    rw [Int.add_zero]
    exact Int32.toInt_ofInt_of_le (by omega) (by omega)
  have h0 : vp_in (Int32.ofInt (σ 1 + 0)) (n + 1) := vp_in_iff.mpr ⟨by rw [ei]; exact hz.1, by rw [ei]; omega⟩
  have h1 : Int32.ofInt (σ 1 + 0) < Int32.ofNat (n + 1) := by
    rw [Int32.lt_iff_toInt_lt, ei, hn.2]
    omega
  generalize Int32.ofInt (σ 1 + 0) = i at hl h0 h1
  obtain ⟨g1, g2, g3, ⟨f, g4⟩, g5, g6⟩ := id hST
  refine lv_aload_n hx hb dca_0 rfl (lv_at hl 0 rfl) ?_
  refine cP (W.runV (As := []) (rest := []) ⟨hx, hb, hml, hown, hts⟩ (h_la l dC dI kA s.heap.size (ρ 0) v (n + 1)) (cwV 0 hts (gV lk_556 lk_557 lk_558 lk_122 lk_559) rfl rfl rfl (by decide +kernel) ⟨Nat.le_of_ble_eq_true rfl, Nat.le_of_ble_eq_true rfl⟩) (pws_v hK hN hA hST) rfl rfl hl.1 rfl (lv_room (Nat.le_of_ble_eq_true rfl)) dca_1 ⟨Nat.le_of_ble_eq_true rfl, Nat.le_of_ble_eq_true rfl⟩) ?_
  refine W.eq (g2 := F0 m 4 ls [.int 1]) rfl ?_
  refine lv_if_eq (tgt := 16) hx hb dca_4 (by decide) (fun c1 => ?_) (fun c1 => ?_)
  · exact False.elim (by revert c1; decide)
  refine lv_aload_n hx hb dca_7 rfl (lv_at hl 0 rfl) ?_
  refine vk_getf hx hb g3 hS hown (hts _ lk_1704) (fun _ h9 => h9) dca_8 ?_
  refine lv_iload_n hx hb dca_11 rfl (lv_at hl 1 rfl) ?_
  refine cB (va_runS (As := [.ref v, .int i]) (rest := []) (Ts := lwG) ⟨hx, hb, hml, hown, hts⟩ (h_c1 l dC dI kA s.heap.size (ρ 0) v (n + 1) h0 h1) (va_cwS 2 hts (gS2 lk_560 lk_561 lk_123 lk_562) rfl rfl rfl ⟨by decide, by decide, by decide +kernel⟩ ⟨Nat.le_of_ble_eq_true rfl, Nat.le_of_ble_eq_true rfl⟩) (pws_s hK hN hA hST) rfl rfl hl.1 rfl (lv_room (Nat.le_of_ble_eq_true rfl)) dca_12 ⟨Nat.le_of_ble_eq_true rfl, Nat.le_of_ble_eq_true rfl⟩) (fun x r1 r2 r3 => ?_)
  refine W.eq (g2 := F0 m 15 ls [.int x]) rfl ?_
  exact W.zret (ty := .char) hx hb hr r3 (fun t ht _ => hq x r1 r2 t ht) (fun q h => by cases h) dca_15 hlocks
