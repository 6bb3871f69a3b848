set_option maxHeartbeats 4000000 in
set_option maxRecDepth 100000 in
theorem c_X10_init (l : Launch) (dC : Nat → ClassId) (dI : Nat → Nat → Nat) (kA : Nat → ClassId) (sz : Nat) (h0 : Nat)  : Met l yX10_init (wsU yX10_init cX10_init 1 none) ({ frames := 1, cells := 1, slots := 400, locals := 12 }) (va_Pc [.ref h0] (PW dC dI kA [(h0, .inr (10, [.null, .int 0, .int 0, .int 0, .int 0, .int 0]))] sz)) (QU dC dI none (fun w => ∃ (q1 : Nat), w = [(h0, .inr (10, [.ref q1, .int 0, .int 0, .int 0, .int 0, .int 0])), (q1, .inl (kA 1, 400, .inl (fun _ => 0)))]) (va_A [(h0, .inr (10, [.null, .int 0, .int 0, .int 0, .int 0, .int 0]))] sz)) 1 400 (va_A [(h0, .inr (10, [.null, .int 0, .int 0, .int 0, .int 0, .int 0]))] sz) := by
  refine met_M (own := RX10) (by decide) rfl (Nat.le_of_ble_eq_true rfl) ?_
  intro p e s m below meth c ls A hx hb hr hts hown hlocks hml hin hK hN hA hP hD hS hl
  have hl : lv_has ls 1 [(0, .ref h0)] := hl
  have hP : va_P (dC, dI) vwCl [(h0, .inr (10, [.null, .int 0, .int 0, .int 0, .int 0, .int 0]))] s.heap := hP
  have hD : va_D A [(h0, .inr (10, [.null, .int 0, .int 0, .int 0, .int 0, .int 0]))] := hD
  have hin : meth.name = "<init>" := hin
  refine lv_aload_n hx hb dX10_init_0 rfl (lv_at hl 0 rfl) ?_
  refine W.objInit hx hb hown (hts _ lk_144) (hts _ lk_137) (hts _ lk_138) rfl (by rw [hml]; exact hl.1) rfl dX10_init_1 (Nat.le_of_ble_eq_true rfl) (Nat.le_of_ble_eq_true rfl) ?_
  refine W.eq (g2 := F0 m 4 ls []) rfl ?_
  refine lv_aload_n hx hb dX10_init_4 rfl (lv_at hl 0 rfl) ?_
  refine lv_sipush (v := 400) hx hb dX10_init_5 (by decide) ?_
  refine nw_a (atype := .byte) (ty := .byte) (N' := 400) (a0 := (400, .inl (fun _ => 0))) hx hb (hts _ lk_168) rfl hK hP hD hS hA 1 rfl (va_zi 400 .byte rfl) (by decide +kernel) (by decide +kernel) (by decide +kernel) (Nat.le_of_ble_eq_true rfl) (Nat.le_of_ble_eq_true rfl) dX10_init_8 (fun q1 H2 hP hD hS => ?_)
  have hP : va_P (dC, dI) vwCl [(h0, .inr (10, [.null, .int 0, .int 0, .int 0, .int 0, .int 0])), (q1, .inl (kA 1, 400, .inl (fun _ => 0)))] H2 := hP
  have hD : va_D A [(h0, .inr (10, [.null, .int 0, .int 0, .int 0, .int 0, .int 0])), (q1, .inl (kA 1, 400, .inl (fun _ => 0)))] := hD
  refine W.widen (k := 1) (n := 400) (Nat.le_of_ble_eq_true rfl) (Nat.le_of_ble_eq_true rfl) ?_
  refine va_putF (D := (dC, dI)) (ci := 10) (v := .ref q1) (ty := .array .byte) (C := RX10) (T := TX10) (N := 6) hx hb hts uX10 tyX10 tyX10_ok nmX10 hown hK hP hD hS 0 rfl rfl 0 (by decide) (hts _ lk_145) (fun _ h9 => h9) rfl hin rfl (by decide +kernel) rfl rfl (Nat.le_of_ble_eq_true rfl) dX10_init_10 (fun H3 locs hP hD hS => ?_)
  have hP : va_P (dC, dI) vwCl [(h0, .inr (10, [.ref q1, .int 0, .int 0, .int 0, .int 0, .int 0])), (q1, .inl (kA 1, 400, .inl (fun _ => 0)))] H3 := hP
  have hD : va_D A [(h0, .inr (10, [.ref q1, .int 0, .int 0, .int 0, .int 0, .int 0])), (q1, .inl (kA 1, 400, .inl (fun _ => 0)))] := hD
  refine W.widen (k := 1) (n := 400) (Nat.le_of_ble_eq_true rfl) (Nat.le_of_ble_eq_true rfl) ?_
  have hP9 := hP.sub (ws' := [(h0, .inr (10, [.ref q1, .int 0, .int 0, .int 0, .int 0, .int 0])), (q1, .inl (kA 1, 400, .inl (fun _ => 0)))]) [0, 1] rfl
  have hD9 := hD.sub (ws' := [(h0, .inr (10, [.ref q1, .int 0, .int 0, .int 0, .int 0, .int 0])), (q1, .inl (kA 1, 400, .inl (fun _ => 0)))]) [0, 1] (by decide) rfl
  exact rM_v hx hb hr hlocks hP9 hD9 hS ⟨q1, rfl⟩ dX10_init_13

set_option maxHeartbeats 4000000 in
set_option maxRecDepth 100000 in
theorem c_X2_init (l : Launch) (dC : Nat → ClassId) (dI : Nat → Nat → Nat) (kA : Nat → ClassId) (sz : Nat) (h0 : Nat)  : Met l yX2_init (wsU yX2_init cX2_init 1 none) ({ frames := 1, cells := 0, slots := 0, locals := 12 }) (va_Pc [.ref h0] (PW dC dI kA [(h0, .inr (2, []))] sz)) (QU dC dI none (fun w => w = [(h0, .inr (2, []))]) (va_A [(h0, .inr (2, []))] sz)) 0 0 (va_A [(h0, .inr (2, []))] sz) := by
  refine met_M (own := RX2) (by decide) rfl (Nat.le_of_ble_eq_true rfl) ?_
  intro p e s m below meth c ls A hx hb hr hts hown hlocks hml hin hK hN hA hP hD hS hl
  have hl : lv_has ls 1 [(0, .ref h0)] := hl
  have hP : va_P (dC, dI) vwCl [(h0, .inr (2, []))] s.heap := hP
  have hD : va_D A [(h0, .inr (2, []))] := hD
  have hin : meth.name = "<init>" := hin
  refine lv_aload_n hx hb dX2_init_0 rfl (lv_at hl 0 rfl) ?_
  refine W.objInit hx hb hown (hts _ lk_174) (hts _ lk_137) (hts _ lk_138) rfl (by rw [hml]; exact hl.1) rfl dX2_init_1 (Nat.le_of_ble_eq_true rfl) (Nat.le_of_ble_eq_true rfl) ?_
  refine W.eq (g2 := F0 m 4 ls []) rfl ?_
  refine W.widen (k := 0) (n := 0) (Nat.le_of_ble_eq_true rfl) (Nat.le_of_ble_eq_true rfl) ?_
  have hP9 := hP.sub (ws' := [(h0, .inr (2, []))]) [0] rfl
  have hD9 := hD.sub (ws' := [(h0, .inr (2, []))]) [0] (by decide) rfl
  exact rM_v hx hb hr hlocks hP9 hD9 hS rfl dX2_init_4

set_option maxHeartbeats 4000000 in
set_option maxRecDepth 100000 in
theorem c_X9_init (l : Launch) (dC : Nat → ClassId) (dI : Nat → Nat → Nat) (kA : Nat → ClassId) (sz : Nat) (h0 : Nat)  : Met l yX9_init (wsU yX9_init cX9_init 1 none) ({ frames := 1, cells := 2, slots := 424, locals := 12 }) (va_Pc [.ref h0] (PW dC dI kA [(h0, .inr (9, [.null, .null, .null, .int 0, .int 0]))] sz)) (QU dC dI none (fun w => ∃ (q1 : Nat) (q4 : Nat), w = [(h0, .inr (9, [.ref q1, .ref q4, .null, .int 0, .int 0]))]) (va_A [(h0, .inr (9, [.null, .null, .null, .int 0, .int 0]))] sz)) 2 424 (va_A [(h0, .inr (9, [.null, .null, .null, .int 0, .int 0]))] sz) := by
  refine met_M (own := RX9) (by decide) rfl (Nat.le_of_ble_eq_true rfl) ?_
  intro p e s m below meth c ls A hx hb hr hts hown hlocks hml hin hK hN hA hP hD hS hl
  have hl : lv_has ls 1 [(0, .ref h0)] := hl
  have hP : va_P (dC, dI) vwCl [(h0, .inr (9, [.null, .null, .null, .int 0, .int 0]))] s.heap := hP
  have hD : va_D A [(h0, .inr (9, [.null, .null, .null, .int 0, .int 0]))] := hD
  have hin : meth.name = "<init>" := hin
  refine lv_aload_n hx hb dX9_init_0 rfl (lv_at hl 0 rfl) ?_
  refine W.objInit hx hb hown (hts _ lk_181) (hts _ lk_137) (hts _ lk_138) rfl (by rw [hml]; exact hl.1) rfl dX9_init_1 (Nat.le_of_ble_eq_true rfl) (Nat.le_of_ble_eq_true rfl) ?_
  refine W.eq (g2 := F0 m 4 ls []) rfl ?_
  refine lv_aload_n hx hb dX9_init_4 rfl (lv_at hl 0 rfl) ?_
  refine lv_sipush (v := 400) hx hb dX9_init_5 (by decide) ?_
  refine nw_a (atype := .int) (ty := .int) (N' := 400) (a0 := (400, .inl (fun _ => 0))) hx hb (hts _ lk_198) rfl hK hP hD hS hA 0 rfl (va_zi 400 .int rfl) (by decide +kernel) (by decide +kernel) (by decide +kernel) (Nat.le_of_ble_eq_true rfl) (Nat.le_of_ble_eq_true rfl) dX9_init_8 (fun q1 H2 hP hD hS => ?_)
  have hP : va_P (dC, dI) vwCl [(h0, .inr (9, [.null, .null, .null, .int 0, .int 0])), (q1, .inl (kA 0, 400, .inl (fun _ => 0)))] H2 := hP
  have hD : va_D A [(h0, .inr (9, [.null, .null, .null, .int 0, .int 0])), (q1, .inl (kA 0, 400, .inl (fun _ => 0)))] := hD
  refine W.widen (k := 1) (n := 400) (Nat.le_of_ble_eq_true rfl) (Nat.le_of_ble_eq_true rfl) ?_
  refine va_putF (D := (dC, dI)) (ci := 9) (v := .ref q1) (ty := .array .int) (C := RX9) (T := TX9) (N := 5) hx hb hts uX9 tyX9 tyX9_ok nmX9 hown hK hP hD hS 0 rfl rfl 0 (by decide) (hts _ lk_182) (fun _ h9 => h9) rfl hin rfl (by decide +kernel) rfl rfl (Nat.le_of_ble_eq_true rfl) dX9_init_10 (fun H3 locs hP hD hS => ?_)
  have hP : va_P (dC, dI) vwCl [(h0, .inr (9, [.ref q1, .null, .null, .int 0, .int 0])), (q1, .inl (kA 0, 400, .inl (fun _ => 0)))] H3 := hP
  have hD : va_D A [(h0, .inr (9, [.ref q1, .null, .null, .int 0, .int 0])), (q1, .inl (kA 0, 400, .inl (fun _ => 0)))] := hD
  refine lv_aload_n hx hb dX9_init_13 rfl (lv_at hl 0 rfl) ?_
  refine lv_bipush (v := 24) hx hb dX9_init_14 (by decide) ?_
  refine nw_a (atype := .int) (ty := .int) (N' := 24) (a0 := (24, .inl (fun _ => 0))) hx hb (hts _ lk_198) rfl hK hP hD hS hA 0 rfl (va_zi 24 .int rfl) (by decide +kernel) (by decide +kernel) (by decide +kernel) (Nat.le_of_ble_eq_true rfl) (Nat.le_of_ble_eq_true rfl) dX9_init_16 (fun q4 H5 hP hD hS => ?_)
  have hP : va_P (dC, dI) vwCl [(h0, .inr (9, [.ref q1, .null, .null, .int 0, .int 0])), (q1, .inl (kA 0, 400, .inl (fun _ => 0))), (q4, .inl (kA 0, 24, .inl (fun _ => 0)))] H5 := hP
  have hD : va_D A [(h0, .inr (9, [.ref q1, .null, .null, .int 0, .int 0])), (q1, .inl (kA 0, 400, .inl (fun _ => 0))), (q4, .inl (kA 0, 24, .inl (fun _ => 0)))] := hD
  refine W.widen (k := 2) (n := 424) (Nat.le_of_ble_eq_true rfl) (Nat.le_of_ble_eq_true rfl) ?_
  refine va_putF (D := (dC, dI)) (ci := 9) (v := .ref q4) (ty := .array .int) (C := RX9) (T := TX9) (N := 5) hx hb hts uX9 tyX9 tyX9_ok nmX9 hown hK hP hD hS 0 rfl rfl 1 (by decide) (hts _ lk_183) (fun _ h9 => h9) rfl hin rfl (by decide +kernel) rfl rfl (Nat.le_of_ble_eq_true rfl) dX9_init_18 (fun H6 locs hP hD hS => ?_)
  have hP : va_P (dC, dI) vwCl [(h0, .inr (9, [.ref q1, .ref q4, .null, .int 0, .int 0])), (q1, .inl (kA 0, 400, .inl (fun _ => 0))), (q4, .inl (kA 0, 24, .inl (fun _ => 0)))] H6 := hP
  have hD : va_D A [(h0, .inr (9, [.ref q1, .ref q4, .null, .int 0, .int 0])), (q1, .inl (kA 0, 400, .inl (fun _ => 0))), (q4, .inl (kA 0, 24, .inl (fun _ => 0)))] := hD
  refine W.widen (k := 2) (n := 424) (Nat.le_of_ble_eq_true rfl) (Nat.le_of_ble_eq_true rfl) ?_
  have hP9 := hP.sub (ws' := [(h0, .inr (9, [.ref q1, .ref q4, .null, .int 0, .int 0]))]) [0] rfl
  have hD9 := hD.sub (ws' := [(h0, .inr (9, [.ref q1, .ref q4, .null, .int 0, .int 0]))]) [0] (by decide) rfl
  exact rM_v hx hb hr hlocks hP9 hD9 hS ⟨q1, q4, rfl⟩ dX9_init_21

set_option maxHeartbeats 4000000 in
set_option maxRecDepth 100000 in
theorem c_X1_init (l : Launch) (dC : Nat → ClassId) (dI : Nat → Nat → Nat) (kA : Nat → ClassId) (sz : Nat) (h0 : Nat)  : Met l yX1_init (wsU yX1_init cX1_init 1 none) ({ frames := 1, cells := 5, slots := 38, locals := 12 }) (va_Pc [.ref h0] (PW dC dI kA [(h0, .inr (1, [.int 0, .int 0, .int 0, .int 0, .int 0, .null, .null, .null, .null, .null]))] sz)) (QU dC dI none (fun w => ∃ (q1 : Nat) (q4 : Nat) (q7 : Nat) (q10 : Nat) (q13 : Nat), w = [(h0, .inr (1, [.int 0, .int 0, .int 0, .int 0, .int 0, .ref q1, .ref q4, .ref q7, .ref q10, .ref q13])), (q1, .inl (kA 0, 7, .inl (fun _ => 0))), (q4, .inl (kA 0, 7, .inl (fun _ => 0))), (q7, .inl (kA 0, 8, .inl (fun _ => 0))), (q10, .inl (kA 0, 8, .inl (fun _ => 0))), (q13, .inl (kA 0, 8, .inl (fun _ => 0)))]) (va_A [(h0, .inr (1, [.int 0, .int 0, .int 0, .int 0, .int 0, .null, .null, .null, .null, .null]))] sz)) 5 38 (va_A [(h0, .inr (1, [.int 0, .int 0, .int 0, .int 0, .int 0, .null, .null, .null, .null, .null]))] sz) := by
  refine met_M (own := RX1) (by decide) rfl (Nat.le_of_ble_eq_true rfl) ?_
  intro p e s m below meth c ls A hx hb hr hts hown hlocks hml hin hK hN hA hP hD hS hl
  have hl : lv_has ls 1 [(0, .ref h0)] := hl
  have hP : va_P (dC, dI) vwCl [(h0, .inr (1, [.int 0, .int 0, .int 0, .int 0, .int 0, .null, .null, .null, .null, .null]))] s.heap := hP
  have hD : va_D A [(h0, .inr (1, [.int 0, .int 0, .int 0, .int 0, .int 0, .null, .null, .null, .null, .null]))] := hD
  have hin : meth.name = "<init>" := hin
  refine lv_aload_n hx hb dX1_init_0 rfl (lv_at hl 0 rfl) ?_
  refine W.objInit hx hb hown (hts _ lk_212) (hts _ lk_137) (hts _ lk_138) rfl (by rw [hml]; exact hl.1) rfl dX1_init_1 (Nat.le_of_ble_eq_true rfl) (Nat.le_of_ble_eq_true rfl) ?_
  refine W.eq (g2 := F0 m 4 ls []) rfl ?_
  refine lv_aload_n hx hb dX1_init_4 rfl (lv_at hl 0 rfl) ?_
  refine lv_bipush (v := 7) hx hb dX1_init_5 (by decide) ?_
  refine nw_a (atype := .int) (ty := .int) (N' := 7) (a0 := (7, .inl (fun _ => 0))) hx hb (hts _ lk_198) rfl hK hP hD hS hA 0 rfl (va_zi 7 .int rfl) (by decide +kernel) (by decide +kernel) (by decide +kernel) (Nat.le_of_ble_eq_true rfl) (Nat.le_of_ble_eq_true rfl) dX1_init_7 (fun q1 H2 hP hD hS => ?_)
  have hP : va_P (dC, dI) vwCl [(h0, .inr (1, [.int 0, .int 0, .int 0, .int 0, .int 0, .null, .null, .null, .null, .null])), (q1, .inl (kA 0, 7, .inl (fun _ => 0)))] H2 := hP
  have hD : va_D A [(h0, .inr (1, [.int 0, .int 0, .int 0, .int 0, .int 0, .null, .null, .null, .null, .null])), (q1, .inl (kA 0, 7, .inl (fun _ => 0)))] := hD
  refine W.widen (k := 1) (n := 7) (Nat.le_of_ble_eq_true rfl) (Nat.le_of_ble_eq_true rfl) ?_
  refine va_putF (D := (dC, dI)) (ci := 1) (v := .ref q1) (ty := .array .int) (C := RX1) (T := TX1) (N := 10) hx hb hts uX1 tyX1 tyX1_ok nmX1 hown hK hP hD hS 0 rfl rfl 5 (by decide) (hts _ lk_233) (fun _ h9 => h9) rfl hin rfl (by decide +kernel) rfl rfl (Nat.le_of_ble_eq_true rfl) dX1_init_9 (fun H3 locs hP hD hS => ?_)
  have hP : va_P (dC, dI) vwCl [(h0, .inr (1, [.int 0, .int 0, .int 0, .int 0, .int 0, .ref q1, .null, .null, .null, .null])), (q1, .inl (kA 0, 7, .inl (fun _ => 0)))] H3 := hP
  have hD : va_D A [(h0, .inr (1, [.int 0, .int 0, .int 0, .int 0, .int 0, .ref q1, .null, .null, .null, .null])), (q1, .inl (kA 0, 7, .inl (fun _ => 0)))] := hD
  refine lv_aload_n hx hb dX1_init_12 rfl (lv_at hl 0 rfl) ?_
  refine lv_bipush (v := 7) hx hb dX1_init_13 (by decide) ?_
  refine nw_a (atype := .int) (ty := .int) (N' := 7) (a0 := (7, .inl (fun _ => 0))) hx hb (hts _ lk_198) rfl hK hP hD hS hA 0 rfl (va_zi 7 .int rfl) (by decide +kernel) (by decide +kernel) (by decide +kernel) (Nat.le_of_ble_eq_true rfl) (Nat.le_of_ble_eq_true rfl) dX1_init_15 (fun q4 H5 hP hD hS => ?_)
  have hP : va_P (dC, dI) vwCl [(h0, .inr (1, [.int 0, .int 0, .int 0, .int 0, .int 0, .ref q1, .null, .null, .null, .null])), (q1, .inl (kA 0, 7, .inl (fun _ => 0))), (q4, .inl (kA 0, 7, .inl (fun _ => 0)))] H5 := hP
  have hD : va_D A [(h0, .inr (1, [.int 0, .int 0, .int 0, .int 0, .int 0, .ref q1, .null, .null, .null, .null])), (q1, .inl (kA 0, 7, .inl (fun _ => 0))), (q4, .inl (kA 0, 7, .inl (fun _ => 0)))] := hD
  refine W.widen (k := 2) (n := 14) (Nat.le_of_ble_eq_true rfl) (Nat.le_of_ble_eq_true rfl) ?_
  refine va_putF (D := (dC, dI)) (ci := 1) (v := .ref q4) (ty := .array .int) (C := RX1) (T := TX1) (N := 10) hx hb hts uX1 tyX1 tyX1_ok nmX1 hown hK hP hD hS 0 rfl rfl 6 (by decide) (hts _ lk_235) (fun _ h9 => h9) rfl hin rfl (by decide +kernel) rfl rfl (Nat.le_of_ble_eq_true rfl) dX1_init_17 (fun H6 locs hP hD hS => ?_)
  have hP : va_P (dC, dI) vwCl [(h0, .inr (1, [.int 0, .int 0, .int 0, .int 0, .int 0, .ref q1, .ref q4, .null, .null, .null])), (q1, .inl (kA 0, 7, .inl (fun _ => 0))), (q4, .inl (kA 0, 7, .inl (fun _ => 0)))] H6 := hP
  have hD : va_D A [(h0, .inr (1, [.int 0, .int 0, .int 0, .int 0, .int 0, .ref q1, .ref q4, .null, .null, .null])), (q1, .inl (kA 0, 7, .inl (fun _ => 0))), (q4, .inl (kA 0, 7, .inl (fun _ => 0)))] := hD
  refine lv_aload_n hx hb dX1_init_20 rfl (lv_at hl 0 rfl) ?_
  refine lv_bipush (v := 8) hx hb dX1_init_21 (by decide) ?_
  refine nw_a (atype := .int) (ty := .int) (N' := 8) (a0 := (8, .inl (fun _ => 0))) hx hb (hts _ lk_198) rfl hK hP hD hS hA 0 rfl (va_zi 8 .int rfl) (by decide +kernel) (by decide +kernel) (by decide +kernel) (Nat.le_of_ble_eq_true rfl) (Nat.le_of_ble_eq_true rfl) dX1_init_23 (fun q7 H8 hP hD hS => ?_)
  have hP : va_P (dC, dI) vwCl [(h0, .inr (1, [.int 0, .int 0, .int 0, .int 0, .int 0, .ref q1, .ref q4, .null, .null, .null])), (q1, .inl (kA 0, 7, .inl (fun _ => 0))), (q4, .inl (kA 0, 7, .inl (fun _ => 0))), (q7, .inl (kA 0, 8, .inl (fun _ => 0)))] H8 := hP
  have hD : va_D A [(h0, .inr (1, [.int 0, .int 0, .int 0, .int 0, .int 0, .ref q1, .ref q4, .null, .null, .null])), (q1, .inl (kA 0, 7, .inl (fun _ => 0))), (q4, .inl (kA 0, 7, .inl (fun _ => 0))), (q7, .inl (kA 0, 8, .inl (fun _ => 0)))] := hD
  refine W.widen (k := 3) (n := 22) (Nat.le_of_ble_eq_true rfl) (Nat.le_of_ble_eq_true rfl) ?_
  refine va_putF (D := (dC, dI)) (ci := 1) (v := .ref q7) (ty := .array .int) (C := RX1) (T := TX1) (N := 10) hx hb hts uX1 tyX1 tyX1_ok nmX1 hown hK hP hD hS 0 rfl rfl 7 (by decide) (hts _ lk_241) (fun _ h9 => h9) rfl hin rfl (by decide +kernel) rfl rfl (Nat.le_of_ble_eq_true rfl) dX1_init_25 (fun H9 locs hP hD hS => ?_)
  have hP : va_P (dC, dI) vwCl [(h0, .inr (1, [.int 0, .int 0, .int 0, .int 0, .int 0, .ref q1, .ref q4, .ref q7, .null, .null])), (q1, .inl (kA 0, 7, .inl (fun _ => 0))), (q4, .inl (kA 0, 7, .inl (fun _ => 0))), (q7, .inl (kA 0, 8, .inl (fun _ => 0)))] H9 := hP
  have hD : va_D A [(h0, .inr (1, [.int 0, .int 0, .int 0, .int 0, .int 0, .ref q1, .ref q4, .ref q7, .null, .null])), (q1, .inl (kA 0, 7, .inl (fun _ => 0))), (q4, .inl (kA 0, 7, .inl (fun _ => 0))), (q7, .inl (kA 0, 8, .inl (fun _ => 0)))] := hD
  refine lv_aload_n hx hb dX1_init_28 rfl (lv_at hl 0 rfl) ?_
  refine lv_bipush (v := 8) hx hb dX1_init_29 (by decide) ?_
  refine nw_a (atype := .int) (ty := .int) (N' := 8) (a0 := (8, .inl (fun _ => 0))) hx hb (hts _ lk_198) rfl hK hP hD hS hA 0 rfl (va_zi 8 .int rfl) (by decide +kernel) (by decide +kernel) (by decide +kernel) (Nat.le_of_ble_eq_true rfl) (Nat.le_of_ble_eq_true rfl) dX1_init_31 (fun q10 H11 hP hD hS => ?_)
  have hP : va_P (dC, dI) vwCl [(h0, .inr (1, [.int 0, .int 0, .int 0, .int 0, .int 0, .ref q1, .ref q4, .ref q7, .null, .null])), (q1, .inl (kA 0, 7, .inl (fun _ => 0))), (q4, .inl (kA 0, 7, .inl (fun _ => 0))), (q7, .inl (kA 0, 8, .inl (fun _ => 0))), (q10, .inl (kA 0, 8, .inl (fun _ => 0)))] H11 := hP
  have hD : va_D A [(h0, .inr (1, [.int 0, .int 0, .int 0, .int 0, .int 0, .ref q1, .ref q4, .ref q7, .null, .null])), (q1, .inl (kA 0, 7, .inl (fun _ => 0))), (q4, .inl (kA 0, 7, .inl (fun _ => 0))), (q7, .inl (kA 0, 8, .inl (fun _ => 0))), (q10, .inl (kA 0, 8, .inl (fun _ => 0)))] := hD
  refine W.widen (k := 4) (n := 30) (Nat.le_of_ble_eq_true rfl) (Nat.le_of_ble_eq_true rfl) ?_
  refine va_putF (D := (dC, dI)) (ci := 1) (v := .ref q10) (ty := .array .int) (C := RX1) (T := TX1) (N := 10) hx hb hts uX1 tyX1 tyX1_ok nmX1 hown hK hP hD hS 0 rfl rfl 8 (by decide) (hts _ lk_244) (fun _ h9 => h9) rfl hin rfl (by decide +kernel) rfl rfl (Nat.le_of_ble_eq_true rfl) dX1_init_33 (fun H12 locs hP hD hS => ?_)
  have hP : va_P (dC, dI) vwCl [(h0, .inr (1, [.int 0, .int 0, .int 0, .int 0, .int 0, .ref q1, .ref q4, .ref q7, .ref q10, .null])), (q1, .inl (kA 0, 7, .inl (fun _ => 0))), (q4, .inl (kA 0, 7, .inl (fun _ => 0))), (q7, .inl (kA 0, 8, .inl (fun _ => 0))), (q10, .inl (kA 0, 8, .inl (fun _ => 0)))] H12 := hP
  have hD : va_D A [(h0, .inr (1, [.int 0, .int 0, .int 0, .int 0, .int 0, .ref q1, .ref q4, .ref q7, .ref q10, .null])), (q1, .inl (kA 0, 7, .inl (fun _ => 0))), (q4, .inl (kA 0, 7, .inl (fun _ => 0))), (q7, .inl (kA 0, 8, .inl (fun _ => 0))), (q10, .inl (kA 0, 8, .inl (fun _ => 0)))] := hD
  refine lv_aload_n hx hb dX1_init_36 rfl (lv_at hl 0 rfl) ?_
  refine lv_bipush (v := 8) hx hb dX1_init_37 (by decide) ?_
  refine nw_a (atype := .int) (ty := .int) (N' := 8) (a0 := (8, .inl (fun _ => 0))) hx hb (hts _ lk_198) rfl hK hP hD hS hA 0 rfl (va_zi 8 .int rfl) (by decide +kernel) (by decide +kernel) (by decide +kernel) (Nat.le_of_ble_eq_true rfl) (Nat.le_of_ble_eq_true rfl) dX1_init_39 (fun q13 H14 hP hD hS => ?_)
  have hP : va_P (dC, dI) vwCl [(h0, .inr (1, [.int 0, .int 0, .int 0, .int 0, .int 0, .ref q1, .ref q4, .ref q7, .ref q10, .null])), (q1, .inl (kA 0, 7, .inl (fun _ => 0))), (q4, .inl (kA 0, 7, .inl (fun _ => 0))), (q7, .inl (kA 0, 8, .inl (fun _ => 0))), (q10, .inl (kA 0, 8, .inl (fun _ => 0))), (q13, .inl (kA 0, 8, .inl (fun _ => 0)))] H14 := hP
  have hD : va_D A [(h0, .inr (1, [.int 0, .int 0, .int 0, .int 0, .int 0, .ref q1, .ref q4, .ref q7, .ref q10, .null])), (q1, .inl (kA 0, 7, .inl (fun _ => 0))), (q4, .inl (kA 0, 7, .inl (fun _ => 0))), (q7, .inl (kA 0, 8, .inl (fun _ => 0))), (q10, .inl (kA 0, 8, .inl (fun _ => 0))), (q13, .inl (kA 0, 8, .inl (fun _ => 0)))] := hD
  refine W.widen (k := 5) (n := 38) (Nat.le_of_ble_eq_true rfl) (Nat.le_of_ble_eq_true rfl) ?_
  refine va_putF (D := (dC, dI)) (ci := 1) (v := .ref q13) (ty := .array .int) (C := RX1) (T := TX1) (N := 10) hx hb hts uX1 tyX1 tyX1_ok nmX1 hown hK hP hD hS 0 rfl rfl 9 (by decide) (hts _ lk_247) (fun _ h9 => h9) rfl hin rfl (by decide +kernel) rfl rfl (Nat.le_of_ble_eq_true rfl) dX1_init_41 (fun H15 locs hP hD hS => ?_)
  have hP : va_P (dC, dI) vwCl [(h0, .inr (1, [.int 0, .int 0, .int 0, .int 0, .int 0, .ref q1, .ref q4, .ref q7, .ref q10, .ref q13])), (q1, .inl (kA 0, 7, .inl (fun _ => 0))), (q4, .inl (kA 0, 7, .inl (fun _ => 0))), (q7, .inl (kA 0, 8, .inl (fun _ => 0))), (q10, .inl (kA 0, 8, .inl (fun _ => 0))), (q13, .inl (kA 0, 8, .inl (fun _ => 0)))] H15 := hP
  have hD : va_D A [(h0, .inr (1, [.int 0, .int 0, .int 0, .int 0, .int 0, .ref q1, .ref q4, .ref q7, .ref q10, .ref q13])), (q1, .inl (kA 0, 7, .inl (fun _ => 0))), (q4, .inl (kA 0, 7, .inl (fun _ => 0))), (q7, .inl (kA 0, 8, .inl (fun _ => 0))), (q10, .inl (kA 0, 8, .inl (fun _ => 0))), (q13, .inl (kA 0, 8, .inl (fun _ => 0)))] := hD
  refine W.widen (k := 5) (n := 38) (Nat.le_of_ble_eq_true rfl) (Nat.le_of_ble_eq_true rfl) ?_
  have hP9 := hP.sub (ws' := [(h0, .inr (1, [.int 0, .int 0, .int 0, .int 0, .int 0, .ref q1, .ref q4, .ref q7, .ref q10, .ref q13])), (q1, .inl (kA 0, 7, .inl (fun _ => 0))), (q4, .inl (kA 0, 7, .inl (fun _ => 0))), (q7, .inl (kA 0, 8, .inl (fun _ => 0))), (q10, .inl (kA 0, 8, .inl (fun _ => 0))), (q13, .inl (kA 0, 8, .inl (fun _ => 0)))]) [0, 1, 2, 3, 4, 5] rfl
  have hD9 := hD.sub (ws' := [(h0, .inr (1, [.int 0, .int 0, .int 0, .int 0, .int 0, .ref q1, .ref q4, .ref q7, .ref q10, .ref q13])), (q1, .inl (kA 0, 7, .inl (fun _ => 0))), (q4, .inl (kA 0, 7, .inl (fun _ => 0))), (q7, .inl (kA 0, 8, .inl (fun _ => 0))), (q10, .inl (kA 0, 8, .inl (fun _ => 0))), (q13, .inl (kA 0, 8, .inl (fun _ => 0)))]) [0, 1, 2, 3, 4, 5] (by decide) rfl
  exact rM_v hx hb hr hlocks hP9 hD9 hS ⟨q1, q4, q7, q10, q13, rfl⟩ dX1_init_44

set_option maxHeartbeats 4000000 in
set_option maxRecDepth 100000 in
theorem c_X5_init (l : Launch) (dC : Nat → ClassId) (dI : Nat → Nat → Nat) (kA : Nat → ClassId) (sz : Nat) (h0 : Nat)  : Met l yX5_init (wsU yX5_init cX5_init 1 none) ({ frames := 1, cells := 4, slots := 28, locals := 12 }) (va_Pc [.ref h0] (PW dC dI kA [(h0, .inr (5, [.null, .null, .null, .null, .int 0]))] sz)) (QU dC dI none (fun w => ∃ (q1 : Nat) (q4 : Nat) (q7 : Nat) (q10 : Nat), w = [(h0, .inr (5, [.ref q1, .ref q4, .ref q7, .ref q10, .int 0])), (q1, .inl (kA 0, 7, .inl (fun _ => 0))), (q4, .inl (kA 0, 7, .inl (fun _ => 0))), (q7, .inl (kA 0, 7, .inl (fun _ => 0))), (q10, .inl (kA 0, 7, .inl (fun _ => 0)))]) (va_A [(h0, .inr (5, [.null, .null, .null, .null, .int 0]))] sz)) 4 28 (va_A [(h0, .inr (5, [.null, .null, .null, .null, .int 0]))] sz) := by
  refine met_M (own := RX5) (by decide) rfl (Nat.le_of_ble_eq_true rfl) ?_
  intro p e s m below meth c ls A hx hb hr hts hown hlocks hml hin hK hN hA hP hD hS hl
  have hl : lv_has ls 1 [(0, .ref h0)] := hl
  have hP : va_P (dC, dI) vwCl [(h0, .inr (5, [.null, .null, .null, .null, .int 0]))] s.heap := hP
  have hD : va_D A [(h0, .inr (5, [.null, .null, .null, .null, .int 0]))] := hD
  have hin : meth.name = "<init>" := hin
  refine lv_aload_n hx hb dX5_init_0 rfl (lv_at hl 0 rfl) ?_
  refine W.objInit hx hb hown (hts _ lk_276) (hts _ lk_137) (hts _ lk_138) rfl (by rw [hml]; exact hl.1) rfl dX5_init_1 (Nat.le_of_ble_eq_true rfl) (Nat.le_of_ble_eq_true rfl) ?_
  refine W.eq (g2 := F0 m 4 ls []) rfl ?_
  refine lv_aload_n hx hb dX5_init_4 rfl (lv_at hl 0 rfl) ?_
  refine lv_bipush (v := 7) hx hb dX5_init_5 (by decide) ?_
  refine nw_a (atype := .int) (ty := .int) (N' := 7) (a0 := (7, .inl (fun _ => 0))) hx hb (hts _ lk_198) rfl hK hP hD hS hA 0 rfl (va_zi 7 .int rfl) (by decide +kernel) (by decide +kernel) (by decide +kernel) (Nat.le_of_ble_eq_true rfl) (Nat.le_of_ble_eq_true rfl) dX5_init_7 (fun q1 H2 hP hD hS => ?_)
  have hP : va_P (dC, dI) vwCl [(h0, .inr (5, [.null, .null, .null, .null, .int 0])), (q1, .inl (kA 0, 7, .inl (fun _ => 0)))] H2 := hP
  have hD : va_D A [(h0, .inr (5, [.null, .null, .null, .null, .int 0])), (q1, .inl (kA 0, 7, .inl (fun _ => 0)))] := hD
  refine W.widen (k := 1) (n := 7) (Nat.le_of_ble_eq_true rfl) (Nat.le_of_ble_eq_true rfl) ?_
  refine va_putF (D := (dC, dI)) (ci := 5) (v := .ref q1) (ty := .array .int) (C := RX5) (T := TX5) (N := 5) hx hb hts uX5 tyX5 tyX5_ok nmX5 hown hK hP hD hS 0 rfl rfl 0 (by decide) (hts _ lk_277) (fun _ h9 => h9) rfl hin rfl (by decide +kernel) rfl rfl (Nat.le_of_ble_eq_true rfl) dX5_init_9 (fun H3 locs hP hD hS => ?_)
  have hP : va_P (dC, dI) vwCl [(h0, .inr (5, [.ref q1, .null, .null, .null, .int 0])), (q1, .inl (kA 0, 7, .inl (fun _ => 0)))] H3 := hP
  have hD : va_D A [(h0, .inr (5, [.ref q1, .null, .null, .null, .int 0])), (q1, .inl (kA 0, 7, .inl (fun _ => 0)))] := hD
  refine lv_aload_n hx hb dX5_init_12 rfl (lv_at hl 0 rfl) ?_
  refine lv_bipush (v := 7) hx hb dX5_init_13 (by decide) ?_
  refine nw_a (atype := .int) (ty := .int) (N' := 7) (a0 := (7, .inl (fun _ => 0))) hx hb (hts _ lk_198) rfl hK hP hD hS hA 0 rfl (va_zi 7 .int rfl) (by decide +kernel) (by decide +kernel) (by decide +kernel) (Nat.le_of_ble_eq_true rfl) (Nat.le_of_ble_eq_true rfl) dX5_init_15 (fun q4 H5 hP hD hS => ?_)
  have hP : va_P (dC, dI) vwCl [(h0, .inr (5, [.ref q1, .null, .null, .null, .int 0])), (q1, .inl (kA 0, 7, .inl (fun _ => 0))), (q4, .inl (kA 0, 7, .inl (fun _ => 0)))] H5 := hP
  have hD : va_D A [(h0, .inr (5, [.ref q1, .null, .null, .null, .int 0])), (q1, .inl (kA 0, 7, .inl (fun _ => 0))), (q4, .inl (kA 0, 7, .inl (fun _ => 0)))] := hD
  refine W.widen (k := 2) (n := 14) (Nat.le_of_ble_eq_true rfl) (Nat.le_of_ble_eq_true rfl) ?_
  refine va_putF (D := (dC, dI)) (ci := 5) (v := .ref q4) (ty := .array .int) (C := RX5) (T := TX5) (N := 5) hx hb hts uX5 tyX5 tyX5_ok nmX5 hown hK hP hD hS 0 rfl rfl 1 (by decide) (hts _ lk_283) (fun _ h9 => h9) rfl hin rfl (by decide +kernel) rfl rfl (Nat.le_of_ble_eq_true rfl) dX5_init_17 (fun H6 locs hP hD hS => ?_)
  have hP : va_P (dC, dI) vwCl [(h0, .inr (5, [.ref q1, .ref q4, .null, .null, .int 0])), (q1, .inl (kA 0, 7, .inl (fun _ => 0))), (q4, .inl (kA 0, 7, .inl (fun _ => 0)))] H6 := hP
  have hD : va_D A [(h0, .inr (5, [.ref q1, .ref q4, .null, .null, .int 0])), (q1, .inl (kA 0, 7, .inl (fun _ => 0))), (q4, .inl (kA 0, 7, .inl (fun _ => 0)))] := hD
  refine lv_aload_n hx hb dX5_init_20 rfl (lv_at hl 0 rfl) ?_
  refine lv_bipush (v := 7) hx hb dX5_init_21 (by decide) ?_
  refine nw_a (atype := .int) (ty := .int) (N' := 7) (a0 := (7, .inl (fun _ => 0))) hx hb (hts _ lk_198) rfl hK hP hD hS hA 0 rfl (va_zi 7 .int rfl) (by decide +kernel) (by decide +kernel) (by decide +kernel) (Nat.le_of_ble_eq_true rfl) (Nat.le_of_ble_eq_true rfl) dX5_init_23 (fun q7 H8 hP hD hS => ?_)
  have hP : va_P (dC, dI) vwCl [(h0, .inr (5, [.ref q1, .ref q4, .null, .null, .int 0])), (q1, .inl (kA 0, 7, .inl (fun _ => 0))), (q4, .inl (kA 0, 7, .inl (fun _ => 0))), (q7, .inl (kA 0, 7, .inl (fun _ => 0)))] H8 := hP
  have hD : va_D A [(h0, .inr (5, [.ref q1, .ref q4, .null, .null, .int 0])), (q1, .inl (kA 0, 7, .inl (fun _ => 0))), (q4, .inl (kA 0, 7, .inl (fun _ => 0))), (q7, .inl (kA 0, 7, .inl (fun _ => 0)))] := hD
  refine W.widen (k := 3) (n := 21) (Nat.le_of_ble_eq_true rfl) (Nat.le_of_ble_eq_true rfl) ?_
  refine va_putF (D := (dC, dI)) (ci := 5) (v := .ref q7) (ty := .array .int) (C := RX5) (T := TX5) (N := 5) hx hb hts uX5 tyX5 tyX5_ok nmX5 hown hK hP hD hS 0 rfl rfl 2 (by decide) (hts _ lk_289) (fun _ h9 => h9) rfl hin rfl (by decide +kernel) rfl rfl (Nat.le_of_ble_eq_true rfl) dX5_init_25 (fun H9 locs hP hD hS => ?_)
  have hP : va_P (dC, dI) vwCl [(h0, .inr (5, [.ref q1, .ref q4, .ref q7, .null, .int 0])), (q1, .inl (kA 0, 7, .inl (fun _ => 0))), (q4, .inl (kA 0, 7, .inl (fun _ => 0))), (q7, .inl (kA 0, 7, .inl (fun _ => 0)))] H9 := hP
  have hD : va_D A [(h0, .inr (5, [.ref q1, .ref q4, .ref q7, .null, .int 0])), (q1, .inl (kA 0, 7, .inl (fun _ => 0))), (q4, .inl (kA 0, 7, .inl (fun _ => 0))), (q7, .inl (kA 0, 7, .inl (fun _ => 0)))] := hD
  refine lv_aload_n hx hb dX5_init_28 rfl (lv_at hl 0 rfl) ?_
  refine lv_bipush (v := 7) hx hb dX5_init_29 (by decide) ?_
  refine nw_a (atype := .int) (ty := .int) (N' := 7) (a0 := (7, .inl (fun _ => 0))) hx hb (hts _ lk_198) rfl hK hP hD hS hA 0 rfl (va_zi 7 .int rfl) (by decide +kernel) (by decide +kernel) (by decide +kernel) (Nat.le_of_ble_eq_true rfl) (Nat.le_of_ble_eq_true rfl) dX5_init_31 (fun q10 H11 hP hD hS => ?_)
  have hP : va_P (dC, dI) vwCl [(h0, .inr (5, [.ref q1, .ref q4, .ref q7, .null, .int 0])), (q1, .inl (kA 0, 7, .inl (fun _ => 0))), (q4, .inl (kA 0, 7, .inl (fun _ => 0))), (q7, .inl (kA 0, 7, .inl (fun _ => 0))), (q10, .inl (kA 0, 7, .inl (fun _ => 0)))] H11 := hP
  have hD : va_D A [(h0, .inr (5, [.ref q1, .ref q4, .ref q7, .null, .int 0])), (q1, .inl (kA 0, 7, .inl (fun _ => 0))), (q4, .inl (kA 0, 7, .inl (fun _ => 0))), (q7, .inl (kA 0, 7, .inl (fun _ => 0))), (q10, .inl (kA 0, 7, .inl (fun _ => 0)))] := hD
  refine W.widen (k := 4) (n := 28) (Nat.le_of_ble_eq_true rfl) (Nat.le_of_ble_eq_true rfl) ?_
  refine va_putF (D := (dC, dI)) (ci := 5) (v := .ref q10) (ty := .array .int) (C := RX5) (T := TX5) (N := 5) hx hb hts uX5 tyX5 tyX5_ok nmX5 hown hK hP hD hS 0 rfl rfl 3 (by decide) (hts _ lk_293) (fun _ h9 => h9) rfl hin rfl (by decide +kernel) rfl rfl (Nat.le_of_ble_eq_true rfl) dX5_init_33 (fun H12 locs hP hD hS => ?_)
  have hP : va_P (dC, dI) vwCl [(h0, .inr (5, [.ref q1, .ref q4, .ref q7, .ref q10, .int 0])), (q1, .inl (kA 0, 7, .inl (fun _ => 0))), (q4, .inl (kA 0, 7, .inl (fun _ => 0))), (q7, .inl (kA 0, 7, .inl (fun _ => 0))), (q10, .inl (kA 0, 7, .inl (fun _ => 0)))] H12 := hP
  have hD : va_D A [(h0, .inr (5, [.ref q1, .ref q4, .ref q7, .ref q10, .int 0])), (q1, .inl (kA 0, 7, .inl (fun _ => 0))), (q4, .inl (kA 0, 7, .inl (fun _ => 0))), (q7, .inl (kA 0, 7, .inl (fun _ => 0))), (q10, .inl (kA 0, 7, .inl (fun _ => 0)))] := hD
  refine W.widen (k := 4) (n := 28) (Nat.le_of_ble_eq_true rfl) (Nat.le_of_ble_eq_true rfl) ?_
  have hP9 := hP.sub (ws' := [(h0, .inr (5, [.ref q1, .ref q4, .ref q7, .ref q10, .int 0])), (q1, .inl (kA 0, 7, .inl (fun _ => 0))), (q4, .inl (kA 0, 7, .inl (fun _ => 0))), (q7, .inl (kA 0, 7, .inl (fun _ => 0))), (q10, .inl (kA 0, 7, .inl (fun _ => 0)))]) [0, 1, 2, 3, 4] rfl
  have hD9 := hD.sub (ws' := [(h0, .inr (5, [.ref q1, .ref q4, .ref q7, .ref q10, .int 0])), (q1, .inl (kA 0, 7, .inl (fun _ => 0))), (q4, .inl (kA 0, 7, .inl (fun _ => 0))), (q7, .inl (kA 0, 7, .inl (fun _ => 0))), (q10, .inl (kA 0, 7, .inl (fun _ => 0)))]) [0, 1, 2, 3, 4] (by decide) rfl
  exact rM_v hx hb hr hlocks hP9 hD9 hS ⟨q1, q4, q7, q10, rfl⟩ dX5_init_36

set_option maxHeartbeats 4000000 in
set_option maxRecDepth 100000 in
theorem c_X4_init (l : Launch) (dC : Nat → ClassId) (dI : Nat → Nat → Nat) (kA : Nat → ClassId) (sz : Nat) (h0 : Nat)  : Met l yX4_init (wsU yX4_init cX4_init 1 none) ({ frames := 1, cells := 2, slots := 76, locals := 12 }) (va_Pc [.ref h0] (PW dC dI kA [(h0, .inr (4, [.null, .null]))] sz)) (QU dC dI none (fun w => ∃ (q1 : Nat) (q4 : Nat), w = [(h0, .inr (4, [.ref q1, .ref q4]))]) (va_A [(h0, .inr (4, [.null, .null]))] sz)) 2 76 (va_A [(h0, .inr (4, [.null, .null]))] sz) := by
  refine met_M (own := RX4) (by decide) rfl (Nat.le_of_ble_eq_true rfl) ?_
  intro p e s m below meth c ls A hx hb hr hts hown hlocks hml hin hK hN hA hP hD hS hl
  have hl : lv_has ls 1 [(0, .ref h0)] := hl
  have hP : va_P (dC, dI) vwCl [(h0, .inr (4, [.null, .null]))] s.heap := hP
  have hD : va_D A [(h0, .inr (4, [.null, .null]))] := hD
  have hin : meth.name = "<init>" := hin
  refine lv_aload_n hx hb dX4_init_0 rfl (lv_at hl 0 rfl) ?_
  refine W.objInit hx hb hown (hts _ lk_374) (hts _ lk_137) (hts _ lk_138) rfl (by rw [hml]; exact hl.1) rfl dX4_init_1 (Nat.le_of_ble_eq_true rfl) (Nat.le_of_ble_eq_true rfl) ?_
  refine W.eq (g2 := F0 m 4 ls []) rfl ?_
  refine lv_aload_n hx hb dX4_init_4 rfl (lv_at hl 0 rfl) ?_
  refine lv_bipush (v := 12) hx hb dX4_init_5 (by decide) ?_
  refine nw_a (atype := .long) (ty := .long) (N' := 12) (a0 := (12, .inr (.inl (fun _ => 0)))) hx hb (hts _ lk_382) rfl hK hP hD hS hA 2 rfl (va_zl 12) (by decide +kernel) (by decide +kernel) (by decide +kernel) (Nat.le_of_ble_eq_true rfl) (Nat.le_of_ble_eq_true rfl) dX4_init_7 (fun q1 H2 hP hD hS => ?_)
  have hP : va_P (dC, dI) vwCl [(h0, .inr (4, [.null, .null])), (q1, .inl (kA 2, 12, .inr (.inl (fun _ => 0))))] H2 := hP
  have hD : va_D A [(h0, .inr (4, [.null, .null])), (q1, .inl (kA 2, 12, .inr (.inl (fun _ => 0))))] := hD
  refine W.widen (k := 1) (n := 12) (Nat.le_of_ble_eq_true rfl) (Nat.le_of_ble_eq_true rfl) ?_
  refine va_putF (D := (dC, dI)) (ci := 4) (v := .ref q1) (ty := .array .long) (C := RX4) (T := TX4) (N := 2) hx hb hts uX4 tyX4 tyX4_ok nmX4 hown hK hP hD hS 0 rfl rfl 0 (by decide) (hts _ lk_375) (fun _ h9 => h9) rfl hin rfl (by decide +kernel) rfl rfl (Nat.le_of_ble_eq_true rfl) dX4_init_9 (fun H3 locs hP hD hS => ?_)
  have hP : va_P (dC, dI) vwCl [(h0, .inr (4, [.ref q1, .null])), (q1, .inl (kA 2, 12, .inr (.inl (fun _ => 0))))] H3 := hP
  have hD : va_D A [(h0, .inr (4, [.ref q1, .null])), (q1, .inl (kA 2, 12, .inr (.inl (fun _ => 0))))] := hD
  refine lv_aload_n hx hb dX4_init_12 rfl (lv_at hl 0 rfl) ?_
  refine lv_bipush (v := 64) hx hb dX4_init_13 (by decide) ?_
  refine nw_a (atype := .long) (ty := .long) (N' := 64) (a0 := (64, .inr (.inl (fun _ => 0)))) hx hb (hts _ lk_382) rfl hK hP hD hS hA 2 rfl (va_zl 64) (by decide +kernel) (by decide +kernel) (by decide +kernel) (Nat.le_of_ble_eq_true rfl) (Nat.le_of_ble_eq_true rfl) dX4_init_15 (fun q4 H5 hP hD hS => ?_)
  have hP : va_P (dC, dI) vwCl [(h0, .inr (4, [.ref q1, .null])), (q1, .inl (kA 2, 12, .inr (.inl (fun _ => 0)))), (q4, .inl (kA 2, 64, .inr (.inl (fun _ => 0))))] H5 := hP
  have hD : va_D A [(h0, .inr (4, [.ref q1, .null])), (q1, .inl (kA 2, 12, .inr (.inl (fun _ => 0)))), (q4, .inl (kA 2, 64, .inr (.inl (fun _ => 0))))] := hD
  refine W.widen (k := 2) (n := 76) (Nat.le_of_ble_eq_true rfl) (Nat.le_of_ble_eq_true rfl) ?_
  refine va_putF (D := (dC, dI)) (ci := 4) (v := .ref q4) (ty := .array .long) (C := RX4) (T := TX4) (N := 2) hx hb hts uX4 tyX4 tyX4_ok nmX4 hown hK hP hD hS 0 rfl rfl 1 (by decide) (hts _ lk_376) (fun _ h9 => h9) rfl hin rfl (by decide +kernel) rfl rfl (Nat.le_of_ble_eq_true rfl) dX4_init_17 (fun H6 locs hP hD hS => ?_)
  have hP : va_P (dC, dI) vwCl [(h0, .inr (4, [.ref q1, .ref q4])), (q1, .inl (kA 2, 12, .inr (.inl (fun _ => 0)))), (q4, .inl (kA 2, 64, .inr (.inl (fun _ => 0))))] H6 := hP
  have hD : va_D A [(h0, .inr (4, [.ref q1, .ref q4])), (q1, .inl (kA 2, 12, .inr (.inl (fun _ => 0)))), (q4, .inl (kA 2, 64, .inr (.inl (fun _ => 0))))] := hD
  refine W.widen (k := 2) (n := 76) (Nat.le_of_ble_eq_true rfl) (Nat.le_of_ble_eq_true rfl) ?_
  have hP9 := hP.sub (ws' := [(h0, .inr (4, [.ref q1, .ref q4]))]) [0] rfl
  have hD9 := hD.sub (ws' := [(h0, .inr (4, [.ref q1, .ref q4]))]) [0] (by decide) rfl
  exact rM_v hx hb hr hlocks hP9 hD9 hS ⟨q1, q4, rfl⟩ dX4_init_20

set_option maxHeartbeats 4000000 in
set_option maxRecDepth 100000 in
theorem c_X0_init (l : Launch) (dC : Nat → ClassId) (dI : Nat → Nat → Nat) (kA : Nat → ClassId) (sz : Nat) (h0 : Nat)  : Met l yX0_init (wsU yX0_init cX0_init 1 none) ({ frames := 2, cells := 5, slots := 33, locals := 32 }) (va_Pc [.ref h0] (PW dC dI kA [(h0, .inr (0, [.null, .int 0, .int 0, .int 0, .int 0, .int 0]))] sz)) (QU dC dI none (fun w => ∃ (q1 : Nat), w = [(h0, .inr (0, [.ref q1, .int 0, .int 0, .int 0, .int 0, .int 0]))]) (va_A [(h0, .inr (0, [.null, .int 0, .int 0, .int 0, .int 0, .int 0]))] sz)) 5 33 (va_A [(h0, .inr (0, [.null, .int 0, .int 0, .int 0, .int 0, .int 0]))] sz) := by
  refine met_M (own := RX0) (by decide) rfl (Nat.le_of_ble_eq_true rfl) ?_
  intro p e s m below meth c ls A hx hb hr hts hown hlocks hml hin hK hN hA hP hD hS hl
  have hl : lv_has ls 1 [(0, .ref h0)] := hl
  have hP : va_P (dC, dI) vwCl [(h0, .inr (0, [.null, .int 0, .int 0, .int 0, .int 0, .int 0]))] s.heap := hP
  have hD : va_D A [(h0, .inr (0, [.null, .int 0, .int 0, .int 0, .int 0, .int 0]))] := hD
  have hin : meth.name = "<init>" := hin
  refine lv_aload_n hx hb dX0_init_0 rfl (lv_at hl 0 rfl) ?_
  refine W.objInit hx hb hown (hts _ lk_415) (hts _ lk_137) (hts _ lk_138) rfl (by rw [hml]; exact hl.1) rfl dX0_init_1 (Nat.le_of_ble_eq_true rfl) (Nat.le_of_ble_eq_true rfl) ?_
  refine W.eq (g2 := F0 m 4 ls []) rfl ?_
  refine lv_aload_n hx hb dX0_init_4 rfl (lv_at hl 0 rfl) ?_
  refine va_new (D := (dC, dI)) (ci := 5) (fs := [.null, .null, .null, .null, .int 0]) (C := RX5) (T := TX5) (N := 5) hx hb hts uX5 tyX5 tyX5_ok hown (hts _ lk_416) (hts _ lk_272) (hts _ lk_116) hK hP hD hS hA rfl vX5 (Nat.le_of_ble_eq_true rfl) (Nat.le_of_ble_eq_true rfl) dX0_init_5 (fun q1 H2 hP hD hS => ?_)
  have hP : va_P (dC, dI) vwCl [(h0, .inr (0, [.null, .int 0, .int 0, .int 0, .int 0, .int 0])), (q1, .inr (5, [.null, .null, .null, .null, .int 0]))] H2 := hP
  have hD : va_D A [(h0, .inr (0, [.null, .int 0, .int 0, .int 0, .int 0, .int 0])), (q1, .inr (5, [.null, .null, .null, .null, .int 0]))] := hD
  refine W.widen (k := 1) (n := 5) (Nat.le_of_ble_eq_true rfl) (Nat.le_of_ble_eq_true rfl) ?_
  refine lv_dup hx hb dX0_init_8 rfl ?_
  have hPc := hP.sub (ws' := [(q1, .inr (5, [.null, .null, .null, .null, .int 0]))]) [1] rfl
  have hDc := hD.sub (ws' := [(q1, .inr (5, [.null, .null, .null, .null, .int 0]))]) [1] (by decide) rfl
  refine cM (wc := [(q1, .inr (5, [.null, .null, .null, .null, .int 0]))]) (wr := [(h0, .inr (0, [.null, .int 0, .int 0, .int 0, .int 0, .int 0]))]) [1] [0] hP hD hS hA rfl rfl (by decide) (by decide) (va_runIN (As := []) (rest := [.ref q1, .ref h0]) ⟨hx, hb, hml, hown, hts⟩ (c_X5_init l dC dI kA H2.size q1 ) ⟨va_cnB 0 hts (gI lk_275) rfl rfl rfl (hN.at 9 rfl) (hts _ lk_116) (by decide +kernel) ⟨Nat.le_of_ble_eq_true rfl, Nat.le_of_ble_eq_true rfl⟩, rfl, hts _ lk_274⟩ (pw_s hPc hDc hK hN) rfl rfl hl.1 rfl (lv_room (Nat.le_of_ble_eq_true rfl)) dX0_init_9 ⟨Nat.le_of_ble_eq_true rfl, Nat.le_of_ble_eq_true rfl⟩) (fun w1 H3 locs hw hP hD hS => ?_)
  obtain ⟨q4, q5, q6, q7, rfl⟩ := hw
  have hP : va_P (dC, dI) vwCl [(h0, .inr (0, [.null, .int 0, .int 0, .int 0, .int 0, .int 0])), (q1, .inr (5, [.ref q4, .ref q5, .ref q6, .ref q7, .int 0])), (q4, .inl (kA 0, 7, .inl (fun _ => 0))), (q5, .inl (kA 0, 7, .inl (fun _ => 0))), (q6, .inl (kA 0, 7, .inl (fun _ => 0))), (q7, .inl (kA 0, 7, .inl (fun _ => 0)))] H3 := hP
  have hD : va_D A [(h0, .inr (0, [.null, .int 0, .int 0, .int 0, .int 0, .int 0])), (q1, .inr (5, [.ref q4, .ref q5, .ref q6, .ref q7, .int 0])), (q4, .inl (kA 0, 7, .inl (fun _ => 0))), (q5, .inl (kA 0, 7, .inl (fun _ => 0))), (q6, .inl (kA 0, 7, .inl (fun _ => 0))), (q7, .inl (kA 0, 7, .inl (fun _ => 0)))] := hD
  refine W.widen (k := 5) (n := 33) (Nat.le_of_ble_eq_true rfl) (Nat.le_of_ble_eq_true rfl) ?_
  refine W.eq (g2 := F0 m 12 ls [.ref q1, .ref h0]) rfl ?_
  refine va_putF (D := (dC, dI)) (ci := 0) (v := .ref q1) (ty := .object "LinenName$Linen") (C := RX0) (T := TX0) (N := 6) hx hb hts uX0 tyX0 tyX0_ok nmX0 hown hK hP hD hS 0 rfl rfl 0 (by decide) (hts _ lk_418) (fun _ h9 => h9) rfl hin rfl (by decide +kernel) rfl rfl (Nat.le_of_ble_eq_true rfl) dX0_init_12 (fun H8 locs hP hD hS => ?_)
  have hP : va_P (dC, dI) vwCl [(h0, .inr (0, [.ref q1, .int 0, .int 0, .int 0, .int 0, .int 0])), (q1, .inr (5, [.ref q4, .ref q5, .ref q6, .ref q7, .int 0])), (q4, .inl (kA 0, 7, .inl (fun _ => 0))), (q5, .inl (kA 0, 7, .inl (fun _ => 0))), (q6, .inl (kA 0, 7, .inl (fun _ => 0))), (q7, .inl (kA 0, 7, .inl (fun _ => 0)))] H8 := hP
  have hD : va_D A [(h0, .inr (0, [.ref q1, .int 0, .int 0, .int 0, .int 0, .int 0])), (q1, .inr (5, [.ref q4, .ref q5, .ref q6, .ref q7, .int 0])), (q4, .inl (kA 0, 7, .inl (fun _ => 0))), (q5, .inl (kA 0, 7, .inl (fun _ => 0))), (q6, .inl (kA 0, 7, .inl (fun _ => 0))), (q7, .inl (kA 0, 7, .inl (fun _ => 0)))] := hD
  refine W.widen (k := 5) (n := 33) (Nat.le_of_ble_eq_true rfl) (Nat.le_of_ble_eq_true rfl) ?_
  have hP9 := hP.sub (ws' := [(h0, .inr (0, [.ref q1, .int 0, .int 0, .int 0, .int 0, .int 0]))]) [0] rfl
  have hD9 := hD.sub (ws' := [(h0, .inr (0, [.ref q1, .int 0, .int 0, .int 0, .int 0, .int 0]))]) [0] (by decide) rfl
  exact rM_v hx hb hr hlocks hP9 hD9 hS ⟨q1, rfl⟩ dX0_init_15

set_option maxHeartbeats 4000000 in
set_option maxRecDepth 100000 in
theorem c_X3_init (l : Launch) (dC : Nat → ClassId) (dI : Nat → Nat → Nat) (kA : Nat → ClassId) (sz : Nat) (h0 : Nat)  : Met l yX3_init (wsU yX3_init cX3_init 1 none) ({ frames := 2, cells := 14, slots := 111, locals := 32 }) (va_Pc [.ref h0] (PW dC dI kA [(h0, .inr (3, [.null, .null, .null, .null, .null, .int 0, .int 0, .int 0, .int 0]))] sz)) (QU dC dI none (fun w => ∃ (q1 : Nat) (q10 : Nat) (q18 : Nat) (q21 : Nat) (q24 : Nat) (q4 : Nat) (q5 : Nat) (q6 : Nat) (q7 : Nat) (q8 : Nat) (q13 : Nat) (q14 : Nat) (q15 : Nat) (q16 : Nat), w = [(h0, .inr (3, [.ref q1, .ref q10, .ref q18, .ref q21, .ref q24, .int 0, .int (-1), .int 0, .int 0])), (q1, .inr (1, [.int 0, .int 0, .int 0, .int 0, .int 0, .ref q4, .ref q5, .ref q6, .ref q7, .ref q8])), (q10, .inr (5, [.ref q13, .ref q14, .ref q15, .ref q16, .int 0])), (q4, .inl (kA 0, 7, .inl (fun _ => 0))), (q5, .inl (kA 0, 7, .inl (fun _ => 0))), (q6, .inl (kA 0, 8, .inl (fun _ => 0))), (q7, .inl (kA 0, 8, .inl (fun _ => 0))), (q8, .inl (kA 0, 8, .inl (fun _ => 0))), (q13, .inl (kA 0, 7, .inl (fun _ => 0))), (q14, .inl (kA 0, 7, .inl (fun _ => 0))), (q15, .inl (kA 0, 7, .inl (fun _ => 0))), (q16, .inl (kA 0, 7, .inl (fun _ => 0))), (q18, .inl (kA 0, 10, .inl (fun _ => 0))), (q21, .inl (kA 0, 10, .inl (fun _ => 0))), (q24, .inl (kA 0, 10, .inl (fun _ => 0)))]) (va_A [(h0, .inr (3, [.null, .null, .null, .null, .null, .int 0, .int 0, .int 0, .int 0]))] sz)) 14 111 (va_A [(h0, .inr (3, [.null, .null, .null, .null, .null, .int 0, .int 0, .int 0, .int 0]))] sz) := by
  refine met_M (own := RX3) (by decide) rfl (Nat.le_of_ble_eq_true rfl) ?_
  intro p e s m below meth c ls A hx hb hr hts hown hlocks hml hin hK hN hA hP hD hS hl
  have hl : lv_has ls 1 [(0, .ref h0)] := hl
  have hP : va_P (dC, dI) vwCl [(h0, .inr (3, [.null, .null, .null, .null, .null, .int 0, .int 0, .int 0, .int 0]))] s.heap := hP
  have hD : va_D A [(h0, .inr (3, [.null, .null, .null, .null, .null, .int 0, .int 0, .int 0, .int 0]))] := hD
  have hin : meth.name = "<init>" := hin
  refine lv_aload_n hx hb dX3_init_0 rfl (lv_at hl 0 rfl) ?_
  refine W.objInit hx hb hown (hts _ lk_206) (hts _ lk_137) (hts _ lk_138) rfl (by rw [hml]; exact hl.1) rfl dX3_init_1 (Nat.le_of_ble_eq_true rfl) (Nat.le_of_ble_eq_true rfl) ?_
  refine W.eq (g2 := F0 m 4 ls []) rfl ?_
  refine lv_aload_n hx hb dX3_init_4 rfl (lv_at hl 0 rfl) ?_
  refine va_new (D := (dC, dI)) (ci := 1) (fs := [.int 0, .int 0, .int 0, .int 0, .int 0, .null, .null, .null, .null, .null]) (C := RX1) (T := TX1) (N := 10) hx hb hts uX1 tyX1 tyX1_ok hown (hts _ lk_207) (hts _ lk_208) (hts _ lk_115) hK hP hD hS hA rfl vX1 (Nat.le_of_ble_eq_true rfl) (Nat.le_of_ble_eq_true rfl) dX3_init_5 (fun q1 H2 hP hD hS => ?_)
  have hP : va_P (dC, dI) vwCl [(h0, .inr (3, [.null, .null, .null, .null, .null, .int 0, .int 0, .int 0, .int 0])), (q1, .inr (1, [.int 0, .int 0, .int 0, .int 0, .int 0, .null, .null, .null, .null, .null]))] H2 := hP
  have hD : va_D A [(h0, .inr (3, [.null, .null, .null, .null, .null, .int 0, .int 0, .int 0, .int 0])), (q1, .inr (1, [.int 0, .int 0, .int 0, .int 0, .int 0, .null, .null, .null, .null, .null]))] := hD
  refine W.widen (k := 1) (n := 10) (Nat.le_of_ble_eq_true rfl) (Nat.le_of_ble_eq_true rfl) ?_
  refine lv_dup hx hb dX3_init_8 rfl ?_
  have hPc := hP.sub (ws' := [(q1, .inr (1, [.int 0, .int 0, .int 0, .int 0, .int 0, .null, .null, .null, .null, .null]))]) [1] rfl
  have hDc := hD.sub (ws' := [(q1, .inr (1, [.int 0, .int 0, .int 0, .int 0, .int 0, .null, .null, .null, .null, .null]))]) [1] (by decide) rfl
  refine cM (wc := [(q1, .inr (1, [.int 0, .int 0, .int 0, .int 0, .int 0, .null, .null, .null, .null, .null]))]) (wr := [(h0, .inr (3, [.null, .null, .null, .null, .null, .int 0, .int 0, .int 0, .int 0]))]) [1] [0] hP hD hS hA rfl rfl (by decide) (by decide) (va_runIN (As := []) (rest := [.ref q1, .ref h0]) ⟨hx, hb, hml, hown, hts⟩ (c_X1_init l dC dI kA H2.size q1 ) ⟨va_cnB 0 hts (gI lk_211) rfl rfl rfl (hN.at 10 rfl) (hts _ lk_115) (by decide +kernel) ⟨Nat.le_of_ble_eq_true rfl, Nat.le_of_ble_eq_true rfl⟩, rfl, hts _ lk_210⟩ (pw_s hPc hDc hK hN) rfl rfl hl.1 rfl (lv_room (Nat.le_of_ble_eq_true rfl)) dX3_init_9 ⟨Nat.le_of_ble_eq_true rfl, Nat.le_of_ble_eq_true rfl⟩) (fun w1 H3 locs hw hP hD hS => ?_)
  obtain ⟨q4, q5, q6, q7, q8, rfl⟩ := hw
  have hP : va_P (dC, dI) vwCl [(h0, .inr (3, [.null, .null, .null, .null, .null, .int 0, .int 0, .int 0, .int 0])), (q1, .inr (1, [.int 0, .int 0, .int 0, .int 0, .int 0, .ref q4, .ref q5, .ref q6, .ref q7, .ref q8])), (q4, .inl (kA 0, 7, .inl (fun _ => 0))), (q5, .inl (kA 0, 7, .inl (fun _ => 0))), (q6, .inl (kA 0, 8, .inl (fun _ => 0))), (q7, .inl (kA 0, 8, .inl (fun _ => 0))), (q8, .inl (kA 0, 8, .inl (fun _ => 0)))] H3 := hP
  have hD : va_D A [(h0, .inr (3, [.null, .null, .null, .null, .null, .int 0, .int 0, .int 0, .int 0])), (q1, .inr (1, [.int 0, .int 0, .int 0, .int 0, .int 0, .ref q4, .ref q5, .ref q6, .ref q7, .ref q8])), (q4, .inl (kA 0, 7, .inl (fun _ => 0))), (q5, .inl (kA 0, 7, .inl (fun _ => 0))), (q6, .inl (kA 0, 8, .inl (fun _ => 0))), (q7, .inl (kA 0, 8, .inl (fun _ => 0))), (q8, .inl (kA 0, 8, .inl (fun _ => 0)))] := hD
  refine W.widen (k := 6) (n := 48) (Nat.le_of_ble_eq_true rfl) (Nat.le_of_ble_eq_true rfl) ?_
  refine W.eq (g2 := F0 m 12 ls [.ref q1, .ref h0]) rfl ?_
  refine va_put (D := (dC, dI)) (ci := 3) (v := .ref q1) (ty := .object "LinenName$House") (C := RX3) (T := TX3) (N := 9) hx hb hts uX3 tyX3 tyX3_ok nmX3 hown hK hP hD hS 0 rfl rfl 0 (by decide) (hts _ lk_312) (fun _ h9 => h9) rfl (by decide +kernel) rfl rfl (Nat.le_of_ble_eq_true rfl) dX3_init_12 (fun H9 locs hP hD hS => ?_)
  have hP : va_P (dC, dI) vwCl [(h0, .inr (3, [.ref q1, .null, .null, .null, .null, .int 0, .int 0, .int 0, .int 0])), (q1, .inr (1, [.int 0, .int 0, .int 0, .int 0, .int 0, .ref q4, .ref q5, .ref q6, .ref q7, .ref q8])), (q4, .inl (kA 0, 7, .inl (fun _ => 0))), (q5, .inl (kA 0, 7, .inl (fun _ => 0))), (q6, .inl (kA 0, 8, .inl (fun _ => 0))), (q7, .inl (kA 0, 8, .inl (fun _ => 0))), (q8, .inl (kA 0, 8, .inl (fun _ => 0)))] H9 := hP
  have hD : va_D A [(h0, .inr (3, [.ref q1, .null, .null, .null, .null, .int 0, .int 0, .int 0, .int 0])), (q1, .inr (1, [.int 0, .int 0, .int 0, .int 0, .int 0, .ref q4, .ref q5, .ref q6, .ref q7, .ref q8])), (q4, .inl (kA 0, 7, .inl (fun _ => 0))), (q5, .inl (kA 0, 7, .inl (fun _ => 0))), (q6, .inl (kA 0, 8, .inl (fun _ => 0))), (q7, .inl (kA 0, 8, .inl (fun _ => 0))), (q8, .inl (kA 0, 8, .inl (fun _ => 0)))] := hD
  refine lv_aload_n hx hb dX3_init_15 rfl (lv_at hl 0 rfl) ?_
  refine va_new (D := (dC, dI)) (ci := 5) (fs := [.null, .null, .null, .null, .int 0]) (C := RX5) (T := TX5) (N := 5) hx hb hts uX5 tyX5 tyX5_ok hown (hts _ lk_271) (hts _ lk_272) (hts _ lk_116) hK hP hD hS hA rfl vX5 (Nat.le_of_ble_eq_true rfl) (Nat.le_of_ble_eq_true rfl) dX3_init_16 (fun q10 H11 hP hD hS => ?_)
  have hP : va_P (dC, dI) vwCl [(h0, .inr (3, [.ref q1, .null, .null, .null, .null, .int 0, .int 0, .int 0, .int 0])), (q1, .inr (1, [.int 0, .int 0, .int 0, .int 0, .int 0, .ref q4, .ref q5, .ref q6, .ref q7, .ref q8])), (q4, .inl (kA 0, 7, .inl (fun _ => 0))), (q5, .inl (kA 0, 7, .inl (fun _ => 0))), (q6, .inl (kA 0, 8, .inl (fun _ => 0))), (q7, .inl (kA 0, 8, .inl (fun _ => 0))), (q8, .inl (kA 0, 8, .inl (fun _ => 0))), (q10, .inr (5, [.null, .null, .null, .null, .int 0]))] H11 := hP
  have hD : va_D A [(h0, .inr (3, [.ref q1, .null, .null, .null, .null, .int 0, .int 0, .int 0, .int 0])), (q1, .inr (1, [.int 0, .int 0, .int 0, .int 0, .int 0, .ref q4, .ref q5, .ref q6, .ref q7, .ref q8])), (q4, .inl (kA 0, 7, .inl (fun _ => 0))), (q5, .inl (kA 0, 7, .inl (fun _ => 0))), (q6, .inl (kA 0, 8, .inl (fun _ => 0))), (q7, .inl (kA 0, 8, .inl (fun _ => 0))), (q8, .inl (kA 0, 8, .inl (fun _ => 0))), (q10, .inr (5, [.null, .null, .null, .null, .int 0]))] := hD
  refine W.widen (k := 7) (n := 53) (Nat.le_of_ble_eq_true rfl) (Nat.le_of_ble_eq_true rfl) ?_
  refine lv_dup hx hb dX3_init_19 rfl ?_
  have hPc := hP.sub (ws' := [(q10, .inr (5, [.null, .null, .null, .null, .int 0]))]) [7] rfl
  have hDc := hD.sub (ws' := [(q10, .inr (5, [.null, .null, .null, .null, .int 0]))]) [7] (by decide) rfl
  refine cM (wc := [(q10, .inr (5, [.null, .null, .null, .null, .int 0]))]) (wr := [(h0, .inr (3, [.ref q1, .null, .null, .null, .null, .int 0, .int 0, .int 0, .int 0])), (q1, .inr (1, [.int 0, .int 0, .int 0, .int 0, .int 0, .ref q4, .ref q5, .ref q6, .ref q7, .ref q8])), (q4, .inl (kA 0, 7, .inl (fun _ => 0))), (q5, .inl (kA 0, 7, .inl (fun _ => 0))), (q6, .inl (kA 0, 8, .inl (fun _ => 0))), (q7, .inl (kA 0, 8, .inl (fun _ => 0))), (q8, .inl (kA 0, 8, .inl (fun _ => 0)))]) [7] [0, 1, 2, 3, 4, 5, 6] hP hD hS hA rfl rfl (by decide) (by decide) (va_runIN (As := []) (rest := [.ref q10, .ref h0]) ⟨hx, hb, hml, hown, hts⟩ (c_X5_init l dC dI kA H11.size q10 ) ⟨va_cnB 0 hts (gI lk_275) rfl rfl rfl (hN.at 11 rfl) (hts _ lk_116) (by decide +kernel) ⟨Nat.le_of_ble_eq_true rfl, Nat.le_of_ble_eq_true rfl⟩, rfl, hts _ lk_274⟩ (pw_s hPc hDc hK hN) rfl rfl hl.1 rfl (lv_room (Nat.le_of_ble_eq_true rfl)) dX3_init_20 ⟨Nat.le_of_ble_eq_true rfl, Nat.le_of_ble_eq_true rfl⟩) (fun w1 H12 locs hw hP hD hS => ?_)
  obtain ⟨q13, q14, q15, q16, rfl⟩ := hw
  have hP : va_P (dC, dI) vwCl [(h0, .inr (3, [.ref q1, .null, .null, .null, .null, .int 0, .int 0, .int 0, .int 0])), (q1, .inr (1, [.int 0, .int 0, .int 0, .int 0, .int 0, .ref q4, .ref q5, .ref q6, .ref q7, .ref q8])), (q4, .inl (kA 0, 7, .inl (fun _ => 0))), (q5, .inl (kA 0, 7, .inl (fun _ => 0))), (q6, .inl (kA 0, 8, .inl (fun _ => 0))), (q7, .inl (kA 0, 8, .inl (fun _ => 0))), (q8, .inl (kA 0, 8, .inl (fun _ => 0))), (q10, .inr (5, [.ref q13, .ref q14, .ref q15, .ref q16, .int 0])), (q13, .inl (kA 0, 7, .inl (fun _ => 0))), (q14, .inl (kA 0, 7, .inl (fun _ => 0))), (q15, .inl (kA 0, 7, .inl (fun _ => 0))), (q16, .inl (kA 0, 7, .inl (fun _ => 0)))] H12 := hP
  have hD : va_D A [(h0, .inr (3, [.ref q1, .null, .null, .null, .null, .int 0, .int 0, .int 0, .int 0])), (q1, .inr (1, [.int 0, .int 0, .int 0, .int 0, .int 0, .ref q4, .ref q5, .ref q6, .ref q7, .ref q8])), (q4, .inl (kA 0, 7, .inl (fun _ => 0))), (q5, .inl (kA 0, 7, .inl (fun _ => 0))), (q6, .inl (kA 0, 8, .inl (fun _ => 0))), (q7, .inl (kA 0, 8, .inl (fun _ => 0))), (q8, .inl (kA 0, 8, .inl (fun _ => 0))), (q10, .inr (5, [.ref q13, .ref q14, .ref q15, .ref q16, .int 0])), (q13, .inl (kA 0, 7, .inl (fun _ => 0))), (q14, .inl (kA 0, 7, .inl (fun _ => 0))), (q15, .inl (kA 0, 7, .inl (fun _ => 0))), (q16, .inl (kA 0, 7, .inl (fun _ => 0)))] := hD
  refine W.widen (k := 11) (n := 81) (Nat.le_of_ble_eq_true rfl) (Nat.le_of_ble_eq_true rfl) ?_
  refine W.eq (g2 := F0 m 23 ls [.ref q10, .ref h0]) rfl ?_
  refine va_putF (D := (dC, dI)) (ci := 3) (v := .ref q10) (ty := .object "LinenName$Linen") (C := RX3) (T := TX3) (N := 9) hx hb hts uX3 tyX3 tyX3_ok nmX3 hown hK hP hD hS 0 rfl rfl 1 (by decide) (hts _ lk_314) (fun _ h9 => h9) rfl hin rfl (by decide +kernel) rfl rfl (Nat.le_of_ble_eq_true rfl) dX3_init_23 (fun H17 locs hP hD hS => ?_)
  have hP : va_P (dC, dI) vwCl [(h0, .inr (3, [.ref q1, .ref q10, .null, .null, .null, .int 0, .int 0, .int 0, .int 0])), (q1, .inr (1, [.int 0, .int 0, .int 0, .int 0, .int 0, .ref q4, .ref q5, .ref q6, .ref q7, .ref q8])), (q4, .inl (kA 0, 7, .inl (fun _ => 0))), (q5, .inl (kA 0, 7, .inl (fun _ => 0))), (q6, .inl (kA 0, 8, .inl (fun _ => 0))), (q7, .inl (kA 0, 8, .inl (fun _ => 0))), (q8, .inl (kA 0, 8, .inl (fun _ => 0))), (q10, .inr (5, [.ref q13, .ref q14, .ref q15, .ref q16, .int 0])), (q13, .inl (kA 0, 7, .inl (fun _ => 0))), (q14, .inl (kA 0, 7, .inl (fun _ => 0))), (q15, .inl (kA 0, 7, .inl (fun _ => 0))), (q16, .inl (kA 0, 7, .inl (fun _ => 0)))] H17 := hP
  have hD : va_D A [(h0, .inr (3, [.ref q1, .ref q10, .null, .null, .null, .int 0, .int 0, .int 0, .int 0])), (q1, .inr (1, [.int 0, .int 0, .int 0, .int 0, .int 0, .ref q4, .ref q5, .ref q6, .ref q7, .ref q8])), (q4, .inl (kA 0, 7, .inl (fun _ => 0))), (q5, .inl (kA 0, 7, .inl (fun _ => 0))), (q6, .inl (kA 0, 8, .inl (fun _ => 0))), (q7, .inl (kA 0, 8, .inl (fun _ => 0))), (q8, .inl (kA 0, 8, .inl (fun _ => 0))), (q10, .inr (5, [.ref q13, .ref q14, .ref q15, .ref q16, .int 0])), (q13, .inl (kA 0, 7, .inl (fun _ => 0))), (q14, .inl (kA 0, 7, .inl (fun _ => 0))), (q15, .inl (kA 0, 7, .inl (fun _ => 0))), (q16, .inl (kA 0, 7, .inl (fun _ => 0)))] := hD
  refine lv_aload_n hx hb dX3_init_26 rfl (lv_at hl 0 rfl) ?_
  refine lv_bipush (v := 10) hx hb dX3_init_27 (by decide) ?_
  refine nw_a (atype := .int) (ty := .int) (N' := 10) (a0 := (10, .inl (fun _ => 0))) hx hb (hts _ lk_198) rfl hK hP hD hS hA 0 rfl (va_zi 10 .int rfl) (by decide +kernel) (by decide +kernel) (by decide +kernel) (Nat.le_of_ble_eq_true rfl) (Nat.le_of_ble_eq_true rfl) dX3_init_29 (fun q18 H19 hP hD hS => ?_)
  have hP : va_P (dC, dI) vwCl [(h0, .inr (3, [.ref q1, .ref q10, .null, .null, .null, .int 0, .int 0, .int 0, .int 0])), (q1, .inr (1, [.int 0, .int 0, .int 0, .int 0, .int 0, .ref q4, .ref q5, .ref q6, .ref q7, .ref q8])), (q4, .inl (kA 0, 7, .inl (fun _ => 0))), (q5, .inl (kA 0, 7, .inl (fun _ => 0))), (q6, .inl (kA 0, 8, .inl (fun _ => 0))), (q7, .inl (kA 0, 8, .inl (fun _ => 0))), (q8, .inl (kA 0, 8, .inl (fun _ => 0))), (q10, .inr (5, [.ref q13, .ref q14, .ref q15, .ref q16, .int 0])), (q13, .inl (kA 0, 7, .inl (fun _ => 0))), (q14, .inl (kA 0, 7, .inl (fun _ => 0))), (q15, .inl (kA 0, 7, .inl (fun _ => 0))), (q16, .inl (kA 0, 7, .inl (fun _ => 0))), (q18, .inl (kA 0, 10, .inl (fun _ => 0)))] H19 := hP
  have hD : va_D A [(h0, .inr (3, [.ref q1, .ref q10, .null, .null, .null, .int 0, .int 0, .int 0, .int 0])), (q1, .inr (1, [.int 0, .int 0, .int 0, .int 0, .int 0, .ref q4, .ref q5, .ref q6, .ref q7, .ref q8])), (q4, .inl (kA 0, 7, .inl (fun _ => 0))), (q5, .inl (kA 0, 7, .inl (fun _ => 0))), (q6, .inl (kA 0, 8, .inl (fun _ => 0))), (q7, .inl (kA 0, 8, .inl (fun _ => 0))), (q8, .inl (kA 0, 8, .inl (fun _ => 0))), (q10, .inr (5, [.ref q13, .ref q14, .ref q15, .ref q16, .int 0])), (q13, .inl (kA 0, 7, .inl (fun _ => 0))), (q14, .inl (kA 0, 7, .inl (fun _ => 0))), (q15, .inl (kA 0, 7, .inl (fun _ => 0))), (q16, .inl (kA 0, 7, .inl (fun _ => 0))), (q18, .inl (kA 0, 10, .inl (fun _ => 0)))] := hD
  refine W.widen (k := 12) (n := 91) (Nat.le_of_ble_eq_true rfl) (Nat.le_of_ble_eq_true rfl) ?_
  refine va_putF (D := (dC, dI)) (ci := 3) (v := .ref q18) (ty := .array .int) (C := RX3) (T := TX3) (N := 9) hx hb hts uX3 tyX3 tyX3_ok nmX3 hown hK hP hD hS 0 rfl rfl 2 (by decide) (hts _ lk_316) (fun _ h9 => h9) rfl hin rfl (by decide +kernel) rfl rfl (Nat.le_of_ble_eq_true rfl) dX3_init_31 (fun H20 locs hP hD hS => ?_)
  have hP : va_P (dC, dI) vwCl [(h0, .inr (3, [.ref q1, .ref q10, .ref q18, .null, .null, .int 0, .int 0, .int 0, .int 0])), (q1, .inr (1, [.int 0, .int 0, .int 0, .int 0, .int 0, .ref q4, .ref q5, .ref q6, .ref q7, .ref q8])), (q4, .inl (kA 0, 7, .inl (fun _ => 0))), (q5, .inl (kA 0, 7, .inl (fun _ => 0))), (q6, .inl (kA 0, 8, .inl (fun _ => 0))), (q7, .inl (kA 0, 8, .inl (fun _ => 0))), (q8, .inl (kA 0, 8, .inl (fun _ => 0))), (q10, .inr (5, [.ref q13, .ref q14, .ref q15, .ref q16, .int 0])), (q13, .inl (kA 0, 7, .inl (fun _ => 0))), (q14, .inl (kA 0, 7, .inl (fun _ => 0))), (q15, .inl (kA 0, 7, .inl (fun _ => 0))), (q16, .inl (kA 0, 7, .inl (fun _ => 0))), (q18, .inl (kA 0, 10, .inl (fun _ => 0)))] H20 := hP
  have hD : va_D A [(h0, .inr (3, [.ref q1, .ref q10, .ref q18, .null, .null, .int 0, .int 0, .int 0, .int 0])), (q1, .inr (1, [.int 0, .int 0, .int 0, .int 0, .int 0, .ref q4, .ref q5, .ref q6, .ref q7, .ref q8])), (q4, .inl (kA 0, 7, .inl (fun _ => 0))), (q5, .inl (kA 0, 7, .inl (fun _ => 0))), (q6, .inl (kA 0, 8, .inl (fun _ => 0))), (q7, .inl (kA 0, 8, .inl (fun _ => 0))), (q8, .inl (kA 0, 8, .inl (fun _ => 0))), (q10, .inr (5, [.ref q13, .ref q14, .ref q15, .ref q16, .int 0])), (q13, .inl (kA 0, 7, .inl (fun _ => 0))), (q14, .inl (kA 0, 7, .inl (fun _ => 0))), (q15, .inl (kA 0, 7, .inl (fun _ => 0))), (q16, .inl (kA 0, 7, .inl (fun _ => 0))), (q18, .inl (kA 0, 10, .inl (fun _ => 0)))] := hD
  refine lv_aload_n hx hb dX3_init_34 rfl (lv_at hl 0 rfl) ?_
  refine lv_bipush (v := 10) hx hb dX3_init_35 (by decide) ?_
  refine nw_a (atype := .int) (ty := .int) (N' := 10) (a0 := (10, .inl (fun _ => 0))) hx hb (hts _ lk_198) rfl hK hP hD hS hA 0 rfl (va_zi 10 .int rfl) (by decide +kernel) (by decide +kernel) (by decide +kernel) (Nat.le_of_ble_eq_true rfl) (Nat.le_of_ble_eq_true rfl) dX3_init_37 (fun q21 H22 hP hD hS => ?_)
  have hP : va_P (dC, dI) vwCl [(h0, .inr (3, [.ref q1, .ref q10, .ref q18, .null, .null, .int 0, .int 0, .int 0, .int 0])), (q1, .inr (1, [.int 0, .int 0, .int 0, .int 0, .int 0, .ref q4, .ref q5, .ref q6, .ref q7, .ref q8])), (q4, .inl (kA 0, 7, .inl (fun _ => 0))), (q5, .inl (kA 0, 7, .inl (fun _ => 0))), (q6, .inl (kA 0, 8, .inl (fun _ => 0))), (q7, .inl (kA 0, 8, .inl (fun _ => 0))), (q8, .inl (kA 0, 8, .inl (fun _ => 0))), (q10, .inr (5, [.ref q13, .ref q14, .ref q15, .ref q16, .int 0])), (q13, .inl (kA 0, 7, .inl (fun _ => 0))), (q14, .inl (kA 0, 7, .inl (fun _ => 0))), (q15, .inl (kA 0, 7, .inl (fun _ => 0))), (q16, .inl (kA 0, 7, .inl (fun _ => 0))), (q18, .inl (kA 0, 10, .inl (fun _ => 0))), (q21, .inl (kA 0, 10, .inl (fun _ => 0)))] H22 := hP
  have hD : va_D A [(h0, .inr (3, [.ref q1, .ref q10, .ref q18, .null, .null, .int 0, .int 0, .int 0, .int 0])), (q1, .inr (1, [.int 0, .int 0, .int 0, .int 0, .int 0, .ref q4, .ref q5, .ref q6, .ref q7, .ref q8])), (q4, .inl (kA 0, 7, .inl (fun _ => 0))), (q5, .inl (kA 0, 7, .inl (fun _ => 0))), (q6, .inl (kA 0, 8, .inl (fun _ => 0))), (q7, .inl (kA 0, 8, .inl (fun _ => 0))), (q8, .inl (kA 0, 8, .inl (fun _ => 0))), (q10, .inr (5, [.ref q13, .ref q14, .ref q15, .ref q16, .int 0])), (q13, .inl (kA 0, 7, .inl (fun _ => 0))), (q14, .inl (kA 0, 7, .inl (fun _ => 0))), (q15, .inl (kA 0, 7, .inl (fun _ => 0))), (q16, .inl (kA 0, 7, .inl (fun _ => 0))), (q18, .inl (kA 0, 10, .inl (fun _ => 0))), (q21, .inl (kA 0, 10, .inl (fun _ => 0)))] := hD
  refine W.widen (k := 13) (n := 101) (Nat.le_of_ble_eq_true rfl) (Nat.le_of_ble_eq_true rfl) ?_
  refine va_putF (D := (dC, dI)) (ci := 3) (v := .ref q21) (ty := .array .int) (C := RX3) (T := TX3) (N := 9) hx hb hts uX3 tyX3 tyX3_ok nmX3 hown hK hP hD hS 0 rfl rfl 3 (by decide) (hts _ lk_318) (fun _ h9 => h9) rfl hin rfl (by decide +kernel) rfl rfl (Nat.le_of_ble_eq_true rfl) dX3_init_39 (fun H23 locs hP hD hS => ?_)
  have hP : va_P (dC, dI) vwCl [(h0, .inr (3, [.ref q1, .ref q10, .ref q18, .ref q21, .null, .int 0, .int 0, .int 0, .int 0])), (q1, .inr (1, [.int 0, .int 0, .int 0, .int 0, .int 0, .ref q4, .ref q5, .ref q6, .ref q7, .ref q8])), (q4, .inl (kA 0, 7, .inl (fun _ => 0))), (q5, .inl (kA 0, 7, .inl (fun _ => 0))), (q6, .inl (kA 0, 8, .inl (fun _ => 0))), (q7, .inl (kA 0, 8, .inl (fun _ => 0))), (q8, .inl (kA 0, 8, .inl (fun _ => 0))), (q10, .inr (5, [.ref q13, .ref q14, .ref q15, .ref q16, .int 0])), (q13, .inl (kA 0, 7, .inl (fun _ => 0))), (q14, .inl (kA 0, 7, .inl (fun _ => 0))), (q15, .inl (kA 0, 7, .inl (fun _ => 0))), (q16, .inl (kA 0, 7, .inl (fun _ => 0))), (q18, .inl (kA 0, 10, .inl (fun _ => 0))), (q21, .inl (kA 0, 10, .inl (fun _ => 0)))] H23 := hP
  have hD : va_D A [(h0, .inr (3, [.ref q1, .ref q10, .ref q18, .ref q21, .null, .int 0, .int 0, .int 0, .int 0])), (q1, .inr (1, [.int 0, .int 0, .int 0, .int 0, .int 0, .ref q4, .ref q5, .ref q6, .ref q7, .ref q8])), (q4, .inl (kA 0, 7, .inl (fun _ => 0))), (q5, .inl (kA 0, 7, .inl (fun _ => 0))), (q6, .inl (kA 0, 8, .inl (fun _ => 0))), (q7, .inl (kA 0, 8, .inl (fun _ => 0))), (q8, .inl (kA 0, 8, .inl (fun _ => 0))), (q10, .inr (5, [.ref q13, .ref q14, .ref q15, .ref q16, .int 0])), (q13, .inl (kA 0, 7, .inl (fun _ => 0))), (q14, .inl (kA 0, 7, .inl (fun _ => 0))), (q15, .inl (kA 0, 7, .inl (fun _ => 0))), (q16, .inl (kA 0, 7, .inl (fun _ => 0))), (q18, .inl (kA 0, 10, .inl (fun _ => 0))), (q21, .inl (kA 0, 10, .inl (fun _ => 0)))] := hD
  refine lv_aload_n hx hb dX3_init_42 rfl (lv_at hl 0 rfl) ?_
  refine lv_bipush (v := 10) hx hb dX3_init_43 (by decide) ?_
  refine nw_a (atype := .int) (ty := .int) (N' := 10) (a0 := (10, .inl (fun _ => 0))) hx hb (hts _ lk_198) rfl hK hP hD hS hA 0 rfl (va_zi 10 .int rfl) (by decide +kernel) (by decide +kernel) (by decide +kernel) (Nat.le_of_ble_eq_true rfl) (Nat.le_of_ble_eq_true rfl) dX3_init_45 (fun q24 H25 hP hD hS => ?_)
  have hP : va_P (dC, dI) vwCl [(h0, .inr (3, [.ref q1, .ref q10, .ref q18, .ref q21, .null, .int 0, .int 0, .int 0, .int 0])), (q1, .inr (1, [.int 0, .int 0, .int 0, .int 0, .int 0, .ref q4, .ref q5, .ref q6, .ref q7, .ref q8])), (q4, .inl (kA 0, 7, .inl (fun _ => 0))), (q5, .inl (kA 0, 7, .inl (fun _ => 0))), (q6, .inl (kA 0, 8, .inl (fun _ => 0))), (q7, .inl (kA 0, 8, .inl (fun _ => 0))), (q8, .inl (kA 0, 8, .inl (fun _ => 0))), (q10, .inr (5, [.ref q13, .ref q14, .ref q15, .ref q16, .int 0])), (q13, .inl (kA 0, 7, .inl (fun _ => 0))), (q14, .inl (kA 0, 7, .inl (fun _ => 0))), (q15, .inl (kA 0, 7, .inl (fun _ => 0))), (q16, .inl (kA 0, 7, .inl (fun _ => 0))), (q18, .inl (kA 0, 10, .inl (fun _ => 0))), (q21, .inl (kA 0, 10, .inl (fun _ => 0))), (q24, .inl (kA 0, 10, .inl (fun _ => 0)))] H25 := hP
  have hD : va_D A [(h0, .inr (3, [.ref q1, .ref q10, .ref q18, .ref q21, .null, .int 0, .int 0, .int 0, .int 0])), (q1, .inr (1, [.int 0, .int 0, .int 0, .int 0, .int 0, .ref q4, .ref q5, .ref q6, .ref q7, .ref q8])), (q4, .inl (kA 0, 7, .inl (fun _ => 0))), (q5, .inl (kA 0, 7, .inl (fun _ => 0))), (q6, .inl (kA 0, 8, .inl (fun _ => 0))), (q7, .inl (kA 0, 8, .inl (fun _ => 0))), (q8, .inl (kA 0, 8, .inl (fun _ => 0))), (q10, .inr (5, [.ref q13, .ref q14, .ref q15, .ref q16, .int 0])), (q13, .inl (kA 0, 7, .inl (fun _ => 0))), (q14, .inl (kA 0, 7, .inl (fun _ => 0))), (q15, .inl (kA 0, 7, .inl (fun _ => 0))), (q16, .inl (kA 0, 7, .inl (fun _ => 0))), (q18, .inl (kA 0, 10, .inl (fun _ => 0))), (q21, .inl (kA 0, 10, .inl (fun _ => 0))), (q24, .inl (kA 0, 10, .inl (fun _ => 0)))] := hD
  refine W.widen (k := 14) (n := 111) (Nat.le_of_ble_eq_true rfl) (Nat.le_of_ble_eq_true rfl) ?_
  refine va_putF (D := (dC, dI)) (ci := 3) (v := .ref q24) (ty := .array .int) (C := RX3) (T := TX3) (N := 9) hx hb hts uX3 tyX3 tyX3_ok nmX3 hown hK hP hD hS 0 rfl rfl 4 (by decide) (hts _ lk_320) (fun _ h9 => h9) rfl hin rfl (by decide +kernel) rfl rfl (Nat.le_of_ble_eq_true rfl) dX3_init_47 (fun H26 locs hP hD hS => ?_)
  have hP : va_P (dC, dI) vwCl [(h0, .inr (3, [.ref q1, .ref q10, .ref q18, .ref q21, .ref q24, .int 0, .int 0, .int 0, .int 0])), (q1, .inr (1, [.int 0, .int 0, .int 0, .int 0, .int 0, .ref q4, .ref q5, .ref q6, .ref q7, .ref q8])), (q4, .inl (kA 0, 7, .inl (fun _ => 0))), (q5, .inl (kA 0, 7, .inl (fun _ => 0))), (q6, .inl (kA 0, 8, .inl (fun _ => 0))), (q7, .inl (kA 0, 8, .inl (fun _ => 0))), (q8, .inl (kA 0, 8, .inl (fun _ => 0))), (q10, .inr (5, [.ref q13, .ref q14, .ref q15, .ref q16, .int 0])), (q13, .inl (kA 0, 7, .inl (fun _ => 0))), (q14, .inl (kA 0, 7, .inl (fun _ => 0))), (q15, .inl (kA 0, 7, .inl (fun _ => 0))), (q16, .inl (kA 0, 7, .inl (fun _ => 0))), (q18, .inl (kA 0, 10, .inl (fun _ => 0))), (q21, .inl (kA 0, 10, .inl (fun _ => 0))), (q24, .inl (kA 0, 10, .inl (fun _ => 0)))] H26 := hP
  have hD : va_D A [(h0, .inr (3, [.ref q1, .ref q10, .ref q18, .ref q21, .ref q24, .int 0, .int 0, .int 0, .int 0])), (q1, .inr (1, [.int 0, .int 0, .int 0, .int 0, .int 0, .ref q4, .ref q5, .ref q6, .ref q7, .ref q8])), (q4, .inl (kA 0, 7, .inl (fun _ => 0))), (q5, .inl (kA 0, 7, .inl (fun _ => 0))), (q6, .inl (kA 0, 8, .inl (fun _ => 0))), (q7, .inl (kA 0, 8, .inl (fun _ => 0))), (q8, .inl (kA 0, 8, .inl (fun _ => 0))), (q10, .inr (5, [.ref q13, .ref q14, .ref q15, .ref q16, .int 0])), (q13, .inl (kA 0, 7, .inl (fun _ => 0))), (q14, .inl (kA 0, 7, .inl (fun _ => 0))), (q15, .inl (kA 0, 7, .inl (fun _ => 0))), (q16, .inl (kA 0, 7, .inl (fun _ => 0))), (q18, .inl (kA 0, 10, .inl (fun _ => 0))), (q21, .inl (kA 0, 10, .inl (fun _ => 0))), (q24, .inl (kA 0, 10, .inl (fun _ => 0)))] := hD
  refine lv_aload_n hx hb dX3_init_50 rfl (lv_at hl 0 rfl) ?_
  refine lv_iconst (v := (-1)) hx hb dX3_init_51 (by decide) ?_
  refine va_put (D := (dC, dI)) (ci := 3) (v := .int (-1)) (ty := .int) (C := RX3) (T := TX3) (N := 9) hx hb hts uX3 tyX3 tyX3_ok nmX3 hown hK hP hD hS 0 rfl rfl 6 (by decide) (hts _ lk_324) (fun _ h9 => h9) rfl (by decide +kernel) rfl rfl (Nat.le_of_ble_eq_true rfl) dX3_init_52 (fun H27 locs hP hD hS => ?_)
  have hP : va_P (dC, dI) vwCl [(h0, .inr (3, [.ref q1, .ref q10, .ref q18, .ref q21, .ref q24, .int 0, .int (-1), .int 0, .int 0])), (q1, .inr (1, [.int 0, .int 0, .int 0, .int 0, .int 0, .ref q4, .ref q5, .ref q6, .ref q7, .ref q8])), (q4, .inl (kA 0, 7, .inl (fun _ => 0))), (q5, .inl (kA 0, 7, .inl (fun _ => 0))), (q6, .inl (kA 0, 8, .inl (fun _ => 0))), (q7, .inl (kA 0, 8, .inl (fun _ => 0))), (q8, .inl (kA 0, 8, .inl (fun _ => 0))), (q10, .inr (5, [.ref q13, .ref q14, .ref q15, .ref q16, .int 0])), (q13, .inl (kA 0, 7, .inl (fun _ => 0))), (q14, .inl (kA 0, 7, .inl (fun _ => 0))), (q15, .inl (kA 0, 7, .inl (fun _ => 0))), (q16, .inl (kA 0, 7, .inl (fun _ => 0))), (q18, .inl (kA 0, 10, .inl (fun _ => 0))), (q21, .inl (kA 0, 10, .inl (fun _ => 0))), (q24, .inl (kA 0, 10, .inl (fun _ => 0)))] H27 := hP
  have hD : va_D A [(h0, .inr (3, [.ref q1, .ref q10, .ref q18, .ref q21, .ref q24, .int 0, .int (-1), .int 0, .int 0])), (q1, .inr (1, [.int 0, .int 0, .int 0, .int 0, .int 0, .ref q4, .ref q5, .ref q6, .ref q7, .ref q8])), (q4, .inl (kA 0, 7, .inl (fun _ => 0))), (q5, .inl (kA 0, 7, .inl (fun _ => 0))), (q6, .inl (kA 0, 8, .inl (fun _ => 0))), (q7, .inl (kA 0, 8, .inl (fun _ => 0))), (q8, .inl (kA 0, 8, .inl (fun _ => 0))), (q10, .inr (5, [.ref q13, .ref q14, .ref q15, .ref q16, .int 0])), (q13, .inl (kA 0, 7, .inl (fun _ => 0))), (q14, .inl (kA 0, 7, .inl (fun _ => 0))), (q15, .inl (kA 0, 7, .inl (fun _ => 0))), (q16, .inl (kA 0, 7, .inl (fun _ => 0))), (q18, .inl (kA 0, 10, .inl (fun _ => 0))), (q21, .inl (kA 0, 10, .inl (fun _ => 0))), (q24, .inl (kA 0, 10, .inl (fun _ => 0)))] := hD
  refine W.widen (k := 14) (n := 111) (Nat.le_of_ble_eq_true rfl) (Nat.le_of_ble_eq_true rfl) ?_
  have hP9 := hP.sub (ws' := [(h0, .inr (3, [.ref q1, .ref q10, .ref q18, .ref q21, .ref q24, .int 0, .int (-1), .int 0, .int 0])), (q1, .inr (1, [.int 0, .int 0, .int 0, .int 0, .int 0, .ref q4, .ref q5, .ref q6, .ref q7, .ref q8])), (q10, .inr (5, [.ref q13, .ref q14, .ref q15, .ref q16, .int 0])), (q4, .inl (kA 0, 7, .inl (fun _ => 0))), (q5, .inl (kA 0, 7, .inl (fun _ => 0))), (q6, .inl (kA 0, 8, .inl (fun _ => 0))), (q7, .inl (kA 0, 8, .inl (fun _ => 0))), (q8, .inl (kA 0, 8, .inl (fun _ => 0))), (q13, .inl (kA 0, 7, .inl (fun _ => 0))), (q14, .inl (kA 0, 7, .inl (fun _ => 0))), (q15, .inl (kA 0, 7, .inl (fun _ => 0))), (q16, .inl (kA 0, 7, .inl (fun _ => 0))), (q18, .inl (kA 0, 10, .inl (fun _ => 0))), (q21, .inl (kA 0, 10, .inl (fun _ => 0))), (q24, .inl (kA 0, 10, .inl (fun _ => 0)))]) [0, 1, 7, 2, 3, 4, 5, 6, 8, 9, 10, 11, 12, 13, 14] rfl
  have hD9 := hD.sub (ws' := [(h0, .inr (3, [.ref q1, .ref q10, .ref q18, .ref q21, .ref q24, .int 0, .int (-1), .int 0, .int 0])), (q1, .inr (1, [.int 0, .int 0, .int 0, .int 0, .int 0, .ref q4, .ref q5, .ref q6, .ref q7, .ref q8])), (q10, .inr (5, [.ref q13, .ref q14, .ref q15, .ref q16, .int 0])), (q4, .inl (kA 0, 7, .inl (fun _ => 0))), (q5, .inl (kA 0, 7, .inl (fun _ => 0))), (q6, .inl (kA 0, 8, .inl (fun _ => 0))), (q7, .inl (kA 0, 8, .inl (fun _ => 0))), (q8, .inl (kA 0, 8, .inl (fun _ => 0))), (q13, .inl (kA 0, 7, .inl (fun _ => 0))), (q14, .inl (kA 0, 7, .inl (fun _ => 0))), (q15, .inl (kA 0, 7, .inl (fun _ => 0))), (q16, .inl (kA 0, 7, .inl (fun _ => 0))), (q18, .inl (kA 0, 10, .inl (fun _ => 0))), (q21, .inl (kA 0, 10, .inl (fun _ => 0))), (q24, .inl (kA 0, 10, .inl (fun _ => 0)))]) [0, 1, 7, 2, 3, 4, 5, 6, 8, 9, 10, 11, 12, 13, 14] (by decide) rfl
  exact rM_v hx hb hr hlocks hP9 hD9 hS ⟨q1, q10, q18, q21, q24, q4, q5, q6, q7, q8, q13, q14, q15, q16, rfl⟩ dX3_init_55
