set_option maxHeartbeats 4000000 in
set_option maxRecDepth 100000 in
theorem c_X10_init (l : Launch) (dC : Nat → ClassId) (dI : Nat → Nat → Nat) (kA : Nat → ClassId) (sz : Nat) (h0 : Nat)  : Met l yX10_init (wsU yX10_init cX10_init 1 none) ({ frames := 1, cells := 1, slots := 400, locals := 12 }) (va_Pc [.ref h0] (PW dC dI kA [(h0, .inr (10, [.null, .int 0, .int 0, .int 0, .int 0, .int 0]))] sz)) (QU dC dI none (fun w => ∃ (q1 : Nat), w = [(h0, .inr (10, [.ref q1, .int 0, .int 0, .int 0, .int 0, .int 0])), (q1, .inl (kA 1, 400, .inl (fun _ => 0)))]) (va_A [(h0, .inr (10, [.null, .int 0, .int 0, .int 0, .int 0, .int 0]))] sz)) 1 400 (va_A [(h0, .inr (10, [.null, .int 0, .int 0, .int 0, .int 0, .int 0]))] sz) := by
  refine met_M (own := RX10) (by decide) rfl (Nat.le_of_ble_eq_true rfl) ?_
  intro p e s m below meth c ls A hx hb hr hts hown hlocks hml hin hK hN hA hP hD hS hl
  have hl : lv_has ls 1 [(0, .ref h0)] := hl
  have hP : va_P (dC, dI) vwCl [(h0, .inr (10, [.null, .int 0, .int 0, .int 0, .int 0, .int 0]))] s.heap := hP
  have hD : va_D A [(h0, .inr (10, [.null, .int 0, .int 0, .int 0, .int 0, .int 0]))] := hD
  have hin : meth.name = "<init>" := hin
  refine lv_aload_n hx hb dX10_init_0 rfl (lv_at hl 0 rfl) ?_
  refine W.objInit hx hb hown (hts _ lk_144) (hts _ lk_137) (hts _ lk_138) rfl (by rw [hml]; exact hl.1) rfl dX10_init_1 (Nat.le_of_ble_eq_true rfl) (Nat.le_of_ble_eq_true rfl) ?_
  refine W.eq (g2 := F0 m 4 ls []) rfl ?_
  refine lv_aload_n hx hb dX10_init_4 rfl (lv_at hl 0 rfl) ?_
  refine lv_sipush (v := 400) hx hb dX10_init_5 (by decide) ?_
  refine nw_a (atype := .byte) (ty := .byte) (N' := 400) (a0 := (400, .inl (fun _ => 0))) hx hb (hts _ lk_168) rfl hK hP hD hS hA 1 rfl (va_zi 400 .byte rfl) (by decide +kernel) (by decide +kernel) (by decide +kernel) (Nat.le_of_ble_eq_true rfl) (Nat.le_of_ble_eq_true rfl) dX10_init_8 (fun q1 H2 hP hD hS => ?_)
  have hP : va_P (dC, dI) vwCl [(h0, .inr (10, [.null, .int 0, .int 0, .int 0, .int 0, .int 0])), (q1, .inl (kA 1, 400, .inl (fun _ => 0)))] H2 := hP
  have hD : va_D A [(h0, .inr (10, [.null, .int 0, .int 0, .int 0, .int 0, .int 0])), (q1, .inl (kA 1, 400, .inl (fun _ => 0)))] := hD
  refine W.widen (k := 1) (n := 400) (Nat.le_of_ble_eq_true rfl) (Nat.le_of_ble_eq_true rfl) ?_
  refine va_putF (D := (dC, dI)) (ci := 10) (v := .ref q1) (ty := .array .byte) (C := RX10) (T := TX10) (N := 6) hx hb hts uX10 tyX10 tyX10_ok nmX10 hown hK hP hD hS 0 rfl rfl 0 (by decide) (hts _ lk_145) (fun _ h9 => h9) rfl hin rfl (by decide +kernel) rfl rfl (Nat.le_of_ble_eq_true rfl) dX10_init_10 (fun H3 locs hP hD hS => ?_)
  have hP : va_P (dC, dI) vwCl [(h0, .inr (10, [.ref q1, .int 0, .int 0, .int 0, .int 0, .int 0])), (q1, .inl (kA 1, 400, .inl (fun _ => 0)))] H3 := hP
  have hD : va_D A [(h0, .inr (10, [.ref q1, .int 0, .int 0, .int 0, .int 0, .int 0])), (q1, .inl (kA 1, 400, .inl (fun _ => 0)))] := hD
  refine W.widen (k := 1) (n := 400) (Nat.le_of_ble_eq_true rfl) (Nat.le_of_ble_eq_true rfl) ?_
  have hP9 := hP.sub (ws' := [(h0, .inr (10, [.ref q1, .int 0, .int 0, .int 0, .int 0, .int 0])), (q1, .inl (kA 1, 400, .inl (fun _ => 0)))]) [0, 1] rfl
  have hD9 := hD.sub (ws' := [(h0, .inr (10, [.ref q1, .int 0, .int 0, .int 0, .int 0, .int 0])), (q1, .inl (kA 1, 400, .inl (fun _ => 0)))]) [0, 1] (by decide) rfl
  exact rM_v hx hb hr hlocks hP9 hD9 hS ⟨q1, rfl⟩ dX10_init_13

set_option maxHeartbeats 4000000 in
set_option maxRecDepth 100000 in
theorem c_X2_init (l : Launch) (dC : Nat → ClassId) (dI : Nat → Nat → Nat) (kA : Nat → ClassId) (sz : Nat) (h0 : Nat)  : Met l yX2_init (wsU yX2_init cX2_init 1 none) ({ frames := 1, cells := 0, slots := 0, locals := 12 }) (va_Pc [.ref h0] (PW dC dI kA [(h0, .inr (2, []))] sz)) (QU dC dI none (fun w => w = [(h0, .inr (2, []))]) (va_A [(h0, .inr (2, []))] sz)) 0 0 (va_A [(h0, .inr (2, []))] sz) := by
  refine met_M (own := RX2) (by decide) rfl (Nat.le_of_ble_eq_true rfl) ?_
  intro p e s m below meth c ls A hx hb hr hts hown hlocks hml hin hK hN hA hP hD hS hl
  have hl : lv_has ls 1 [(0, .ref h0)] := hl
  have hP : va_P (dC, dI) vwCl [(h0, .inr (2, []))] s.heap := hP
  have hD : va_D A [(h0, .inr (2, []))] := hD
  have hin : meth.name = "<init>" := hin
  refine lv_aload_n hx hb dX2_init_0 rfl (lv_at hl 0 rfl) ?_
  refine W.objInit hx hb hown (hts _ lk_174) (hts _ lk_137) (hts _ lk_138) rfl (by rw [hml]; exact hl.1) rfl dX2_init_1 (Nat.le_of_ble_eq_true rfl) (Nat.le_of_ble_eq_true rfl) ?_
  refine W.eq (g2 := F0 m 4 ls []) rfl ?_
  refine W.widen (k := 0) (n := 0) (Nat.le_of_ble_eq_true rfl) (Nat.le_of_ble_eq_true rfl) ?_
  have hP9 := hP.sub (ws' := [(h0, .inr (2, []))]) [0] rfl
  have hD9 := hD.sub (ws' := [(h0, .inr (2, []))]) [0] (by decide) rfl
  exact rM_v hx hb hr hlocks hP9 hD9 hS rfl dX2_init_4

set_option maxHeartbeats 4000000 in
set_option maxRecDepth 100000 in
theorem c_X9_init (l : Launch) (dC : Nat → ClassId) (dI : Nat → Nat → Nat) (kA : Nat → ClassId) (sz : Nat) (h0 : Nat)  : Met l yX9_init (wsU yX9_init cX9_init 1 none) ({ frames := 1, cells := 2, slots := 424, locals := 12 }) (va_Pc [.ref h0] (PW dC dI kA [(h0, .inr (9, [.null, .null, .null, .int 0, .int 0]))] sz)) (QU dC dI none (fun w => ∃ (q1 : Nat) (q4 : Nat), w = [(h0, .inr (9, [.ref q1, .ref q4, .null, .int 0, .int 0]))]) (va_A [(h0, .inr (9, [.null, .null, .null, .int 0, .int 0]))] sz)) 2 424 (va_A [(h0, .inr (9, [.null, .null, .null, .int 0, .int 0]))] sz) := by
  refine met_M (own := RX9) (by decide) rfl (Nat.le_of_ble_eq_true rfl) ?_
  intro p e s m below meth c ls A hx hb hr hts hown hlocks hml hin hK hN hA hP hD hS hl
  have hl : lv_has ls 1 [(0, .ref h0)] := hl
  have hP : va_P (dC, dI) vwCl [(h0, .inr (9, [.null, .null, .null, .int 0, .int 0]))] s.heap := hP
  have hD : va_D A [(h0, .inr (9, [.null, .null, .null, .int 0, .int 0]))] := hD
  have hin : meth.name = "<init>" := hin
  refine lv_aload_n hx hb dX9_init_0 rfl (lv_at hl 0 rfl) ?_
  refine W.objInit hx hb hown (hts _ lk_181) (hts _ lk_137) (hts _ lk_138) rfl (by rw [hml]; exact hl.1) rfl dX9_init_1 (Nat.le_of_ble_eq_true rfl) (Nat.le_of_ble_eq_true rfl) ?_
  refine W.eq (g2 := F0 m 4 ls []) rfl ?_
  refine lv_aload_n hx hb dX9_init_4 rfl (lv_at hl 0 rfl) ?_
  refine lv_sipush (v := 400) hx hb dX9_init_5 (by decide) ?_
  refine nw_a (atype := .int) (ty := .int) (N' := 400) (a0 := (400, .inl (fun _ => 0))) hx hb (hts _ lk_198) rfl hK hP hD hS hA 0 rfl (va_zi 400 .int rfl) (by decide +kernel) (by decide +kernel) (by decide +kernel) (Nat.le_of_ble_eq_true rfl) (Nat.le_of_ble_eq_true rfl) dX9_init_8 (fun q1 H2 hP hD hS => ?_)
  have hP : va_P (dC, dI) vwCl [(h0, .inr (9, [.null, .null, .null, .int 0, .int 0])), (q1, .inl (kA 0, 400, .inl (fun _ => 0)))] H2 := hP
  have hD : va_D A [(h0, .inr (9, [.null, .null, .null, .int 0, .int 0])), (q1, .inl (kA 0, 400, .inl (fun _ => 0)))] := hD
  refine W.widen (k := 1) (n := 400) (Nat.le_of_ble_eq_true rfl) (Nat.le_of_ble_eq_true rfl) ?_
  refine va_putF (D := (dC, dI)) (ci := 9) (v := .ref q1) (ty := .array .int) (C := RX9) (T := TX9) (N := 5) hx hb hts uX9 tyX9 tyX9_ok nmX9 hown hK hP hD hS 0 rfl rfl 0 (by decide) (hts _ lk_182) (fun _ h9 => h9) rfl hin rfl (by decide +kernel) rfl rfl (Nat.le_of_ble_eq_true rfl) dX9_init_10 (fun H3 locs hP hD hS => ?_)
  have hP : va_P (dC, dI) vwCl [(h0, .inr (9, [.ref q1, .null, .null, .int 0, .int 0])), (q1, .inl (kA 0, 400, .inl (fun _ => 0)))] H3 := hP
  have hD : va_D A [(h0, .inr (9, [.ref q1, .null, .null, .int 0, .int 0])), (q1, .inl (kA 0, 400, .inl (fun _ => 0)))] := hD
  refine lv_aload_n hx hb dX9_init_13 rfl (lv_at hl 0 rfl) ?_
  refine lv_bipush (v := 24) hx hb dX9_init_14 (by decide) ?_
  refine nw_a (atype := .int) (ty := .int) (N' := 24) (a0 := (24, .inl (fun _ => 0))) hx hb (hts _ lk_198) rfl hK hP hD hS hA 0 rfl (va_zi 24 .int rfl) (by decide +kernel) (by decide +kernel) (by decide +kernel) (Nat.le_of_ble_eq_true rfl) (Nat.le_of_ble_eq_true rfl) dX9_init_16 (fun q4 H5 hP hD hS => ?_)
  have hP : va_P (dC, dI) vwCl [(h0, .inr (9, [.ref q1, .null, .null, .int 0, .int 0])), (q1, .inl (kA 0, 400, .inl (fun _ => 0))), (q4, .inl (kA 0, 24, .inl (fun _ => 0)))] H5 := hP
  have hD : va_D A [(h0, .inr (9, [.ref q1, .null, .null, .int 0, .int 0])), (q1, .inl (kA 0, 400, .inl (fun _ => 0))), (q4, .inl (kA 0, 24, .inl (fun _ => 0)))] := hD
  refine W.widen (k := 2) (n := 424) (Nat.le_of_ble_eq_true rfl) (Nat.le_of_ble_eq_true rfl) ?_
  refine va_putF (D := (dC, dI)) (ci := 9) (v := .ref q4) (ty := .array .int) (C := RX9) (T := TX9) (N := 5) hx hb hts uX9 tyX9 tyX9_ok nmX9 hown hK hP hD hS 0 rfl rfl 1 (by decide) (hts _ lk_183) (fun _ h9 => h9) rfl hin rfl (by decide +kernel) rfl rfl (Nat.le_of_ble_eq_true rfl) dX9_init_18 (fun H6 locs hP hD hS => ?_)
  have hP : va_P (dC, dI) vwCl [(h0, .inr (9, [.ref q1, .ref q4, .null, .int 0, .int 0])), (q1, .inl (kA 0, 400, .inl (fun _ => 0))), (q4, .inl (kA 0, 24, .inl (fun _ => 0)))] H6 := hP
  have hD : va_D A [(h0, .inr (9, [.ref q1, .ref q4, .null, .int 0, .int 0])), (q1, .inl (kA 0, 400, .inl (fun _ => 0))), (q4, .inl (kA 0, 24, .inl (fun _ => 0)))] := hD
  refine W.widen (k := 2) (n := 424) (Nat.le_of_ble_eq_true rfl) (Nat.le_of_ble_eq_true rfl) ?_
  have hP9 := hP.sub (ws' := [(h0, .inr (9, [.ref q1, .ref q4, .null, .int 0, .int 0]))]) [0] rfl
  have hD9 := hD.sub (ws' := [(h0, .inr (9, [.ref q1, .ref q4, .null, .int 0, .int 0]))]) [0] (by decide) rfl
  exact rM_v hx hb hr hlocks hP9 hD9 hS ⟨q1, q4, rfl⟩ dX9_init_21

set_option maxHeartbeats 4000000 in
set_option maxRecDepth 100000 in
theorem c_X1_init (l : Launch) (dC : Nat → ClassId) (dI : Nat → Nat → Nat) (kA : Nat → ClassId) (sz : Nat) (h0 : Nat)  : Met l yX1_init (wsU yX1_init cX1_init 1 none) ({ frames := 1, cells := 5, slots := 38, locals := 12 }) (va_Pc [.ref h0] (PW dC dI kA [(h0, .inr (1, [.int 0, .int 0, .int 0, .int 0, .int 0, .null, .null, .null, .null, .null]))] sz)) (QU dC dI none (fun w => ∃ (q1 : Nat) (q4 : Nat) (q7 : Nat) (q10 : Nat) (q13 : Nat), w = [(h0, .inr (1, [.int 0, .int 0, .int 0, .int 0, .int 0, .ref q1, .ref q4, .ref q7, .ref q10, .ref q13])), (q1, .inl (kA 0, 7, .inl (fun _ => 0))), (q4, .inl (kA 0, 7, .inl (fun _ => 0))), (q7, .inl (kA 0, 8, .inl (fun _ => 0))), (q10, .inl (kA 0, 8, .inl (fun _ => 0))), (q13, .inl (kA 0, 8, .inl (fun _ => 0)))]) (va_A [(h0, .inr (1, [.int 0, .int 0, .int 0, .int 0, .int 0, .null, .null, .null, .null, .null]))] sz)) 5 38 (va_A [(h0, .inr (1, [.int 0, .int 0, .int 0, .int 0, .int 0, .null, .null, .null, .null, .null]))] sz) := by
  refine met_M (own := RX1) (by decide) rfl (Nat.le_of_ble_eq_true rfl) ?_
  intro p e s m below meth c ls A hx hb hr hts hown hlocks hml hin hK hN hA hP hD hS hl
  have hl : lv_has ls 1 [(0, .ref h0)] := hl
  have hP : va_P (dC, dI) vwCl [(h0, .inr (1, [.int 0, .int 0, .int 0, .int 0, .int 0, .null, .null, .null, .null, .null]))] s.heap := hP
  have hD : va_D A [(h0, .inr (1, [.int 0, .int 0, .int 0, .int 0, .int 0, .null, .null, .null, .null, .null]))] := hD
  have hin : meth.name = "<init>" := hin
  refine lv_aload_n hx hb dX1_init_0 rfl (lv_at hl 0 rfl) ?_
  refine W.objInit hx hb hown (hts _ lk_212) (hts _ lk_137) (hts _ lk_138) rfl (by rw [hml]; exact hl.1) rfl dX1_init_1 (Nat.le_of_ble_eq_true rfl) (Nat.le_of_ble_eq_true rfl) ?_
  refine W.eq (g2 := F0 m 4 ls []) rfl ?_
  refine lv_aload_n hx hb dX1_init_4 rfl (lv_at hl 0 rfl) ?_
  refine lv_bipush (v := 7) hx hb dX1_init_5 (by decide) ?_
  refine nw_a (atype := .int) (ty := .int) (N' := 7) (a0 := (7, .inl (fun _ => 0))) hx hb (hts _ lk_198) rfl hK hP hD hS hA 0 rfl (va_zi 7 .int rfl) (by decide +kernel) (by decide +kernel) (by decide +kernel) (Nat.le_of_ble_eq_true rfl) (Nat.le_of_ble_eq_true rfl) dX1_init_7 (fun q1 H2 hP hD hS => ?_)
  have hP : va_P (dC, dI) vwCl [(h0, .inr (1, [.int 0, .int 0, .int 0, .int 0, .int 0, .null, .null, .null, .null, .null])), (q1, .inl (kA 0, 7, .inl (fun _ => 0)))] H2 := hP
  have hD : va_D A [(h0, .inr (1, [.int 0, .int 0, .int 0, .int 0, .int 0, .null, .null, .null, .null, .null])), (q1, .inl (kA 0, 7, .inl (fun _ => 0)))] := hD
  refine W.widen (k := 1) (n := 7) (Nat.le_of_ble_eq_true rfl) (Nat.le_of_ble_eq_true rfl) ?_
  refine va_putF (D := (dC, dI)) (ci := 1) (v := .ref q1) (ty := .array .int) (C := RX1) (T := TX1) (N := 10) hx hb hts uX1 tyX1 tyX1_ok nmX1 hown hK hP hD hS 0 rfl rfl 5 (by decide) (hts _ lk_233) (fun _ h9 => h9) rfl hin rfl (by decide +kernel) rfl rfl (Nat.le_of_ble_eq_true rfl) dX1_init_9 (fun H3 locs hP hD hS => ?_)
  have hP : va_P (dC, dI) vwCl [(h0, .inr (1, [.int 0, .int 0, .int 0, .int 0, .int 0, .ref q1, .null, .null, .null, .null])), (q1, .inl (kA 0, 7, .inl (fun _ => 0)))] H3 := hP
  have hD : va_D A [(h0, .inr (1, [.int 0, .int 0, .int 0, .int 0, .int 0, .ref q1, .null, .null, .null, .null])), (q1, .inl (kA 0, 7, .inl (fun _ => 0)))] := hD
  refine lv_aload_n hx hb dX1_init_12 rfl (lv_at hl 0 rfl) ?_
  refine lv_bipush (v := 7) hx hb dX1_init_13 (by decide) ?_
  refine nw_a (atype := .int) (ty := .int) (N' := 7) (a0 := (7, .inl (fun _ => 0))) hx hb (hts _ lk_198) rfl hK hP hD hS hA 0 rfl (va_zi 7 .int rfl) (by decide +kernel) (by decide +kernel) (by decide +kernel) (Nat.le_of_ble_eq_true rfl) (Nat.le_of_ble_eq_true rfl) dX1_init_15 (fun q4 H5 hP hD hS => ?_)
  have hP : va_P (dC, dI) vwCl [(h0, .inr (1, [.int 0, .int 0, .int 0, .int 0, .int 0, .ref q1, .null, .null, .null, .null])), (q1, .inl (kA 0, 7, .inl (fun _ => 0))), (q4, .inl (kA 0, 7, .inl (fun _ => 0)))] H5 := hP
  have hD : va_D A [(h0, .inr (1, [.int 0, .int 0, .int 0, .int 0, .int 0, .ref q1, .null, .null, .null, .null])), (q1, .inl (kA 0, 7, .inl (fun _ => 0))), (q4, .inl (kA 0, 7, .inl (fun _ => 0)))] := hD
  refine W.widen (k := 2) (n := 14) (Nat.le_of_ble_eq_true rfl) (Nat.le_of_ble_eq_true rfl) ?_
  refine va_putF (D := (dC, dI)) (ci := 1) (v := .ref q4) (ty := .array .int) (C := RX1) (T := TX1) (N := 10) hx hb hts uX1 tyX1 tyX1_ok nmX1 hown hK hP hD hS 0 rfl rfl 6 (by decide) (hts _ lk_235) (fun _ h9 => h9) rfl hin rfl (by decide +kernel) rfl rfl (Nat.le_of_ble_eq_true rfl) dX1_init_17 (fun H6 locs hP hD hS => ?_)
  have hP : va_P (dC, dI) vwCl [(h0, .inr (1, [.int 0, .int 0, .int 0, .int 0, .int 0, .ref q1, .ref q4, .null, .null, .null])), (q1, .inl (kA 0, 7, .inl (fun _ => 0))), (q4, .inl (kA 0, 7, .inl (fun _ => 0)))] H6 := hP
  have hD : va_D A [(h0, .inr (1, [.int 0, .int 0, .int 0, .int 0, .int 0, .ref q1, .ref q4, .null, .null, .null])), (q1, .inl (kA 0, 7, .inl (fun _ => 0))), (q4, .inl (kA 0, 7, .inl (fun _ => 0)))] := hD
  refine lv_aload_n hx hb dX1_init_20 rfl (lv_at hl 0 rfl) ?_
  refine lv_bipush (v := 8) hx hb dX1_init_21 (by decide) ?_
  refine nw_a (atype := .int) (ty := .int) (N' := 8) (a0 := (8, .inl (fun _ => 0))) hx hb (hts _ lk_198) rfl hK hP hD hS hA 0 rfl (va_zi 8 .int rfl) (by decide +kernel) (by decide +kernel) (by decide +kernel) (Nat.le_of_ble_eq_true rfl) (Nat.le_of_ble_eq_true rfl) dX1_init_23 (fun q7 H8 hP hD hS => ?_)
  have hP : va_P (dC, dI) vwCl [(h0, .inr (1, [.int 0, .int 0, .int 0, .int 0, .int 0, .ref q1, .ref q4, .null, .null, .null])), (q1, .inl (kA 0, 7, .inl (fun _ => 0))), (q4, .inl (kA 0, 7, .inl (fun _ => 0))), (q7, .inl (kA 0, 8, .inl (fun _ => 0)))] H8 := hP
  have hD : va_D A [(h0, .inr (1, [.int 0, .int 0, .int 0, .int 0, .int 0, .ref q1, .ref q4, .null, .null, .null])), (q1, .inl (kA 0, 7, .inl (fun _ => 0))), (q4, .inl (kA 0, 7, .inl (fun _ => 0))), (q7, .inl (kA 0, 8, .inl (fun _ => 0)))] := hD
  refine W.widen (k := 3) (n := 22) (Nat.le_of_ble_eq_true rfl) (Nat.le_of_ble_eq_true rfl) ?_
  refine va_putF (D := (dC, dI)) (ci := 1) (v := .ref q7) (ty := .array .int) (C := RX1) (T := TX1) (N := 10) hx hb hts uX1 tyX1 tyX1_ok nmX1 hown hK hP hD hS 0 rfl rfl 7 (by decide) (hts _ lk_241) (fun _ h9 => h9) rfl hin rfl (by decide +kernel) rfl rfl (Nat.le_of_ble_eq_true rfl) dX1_init_25 (fun H9 locs hP hD hS => ?_)
  have hP : va_P (dC, dI) vwCl [(h0, .inr (1, [.int 0, .int 0, .int 0, .int 0, .int 0, .ref q1, .ref q4, .ref q7, .null, .null])), (q1, .inl (kA 0, 7, .inl (fun _ => 0))), (q4, .inl (kA 0, 7, .inl (fun _ => 0))), (q7, .inl (kA 0, 8, .inl (fun _ => 0)))] H9 := hP
  have hD : va_D A [(h0, .inr (1, [.int 0, .int 0, .int 0, .int 0, .int 0, .ref q1, .ref q4, .ref q7, .null, .null])), (q1, .inl (kA 0, 7, .inl (fun _ => 0))), (q4, .inl (kA 0, 7, .inl (fun _ => 0))), (q7, .inl (kA 0, 8, .inl (fun _ => 0)))] := hD
  refine lv_aload_n hx hb dX1_init_28 rfl (lv_at hl 0 rfl) ?_
  refine lv_bipush (v := 8) hx hb dX1_init_29 (by decide) ?_
  refine nw_a (atype := .int) (ty := .int) (N' := 8) (a0 := (8, .inl (fun _ => 0))) hx hb (hts _ lk_198) rfl hK hP hD hS hA 0 rfl (va_zi 8 .int rfl) (by decide +kernel) (by decide +kernel) (by decide +kernel) (Nat.le_of_ble_eq_true rfl) (Nat.le_of_ble_eq_true rfl) dX1_init_31 (fun q10 H11 hP hD hS => ?_)
  have hP : va_P (dC, dI) vwCl [(h0, .inr (1, [.int 0, .int 0, .int 0, .int 0, .int 0, .ref q1, .ref q4, .ref q7, .null, .null])), (q1, .inl (kA 0, 7, .inl (fun _ => 0))), (q4, .inl (kA 0, 7, .inl (fun _ => 0))), (q7, .inl (kA 0, 8, .inl (fun _ => 0))), (q10, .inl (kA 0, 8, .inl (fun _ => 0)))] H11 := hP
  have hD : va_D A [(h0, .inr (1, [.int 0, .int 0, .int 0, .int 0, .int 0, .ref q1, .ref q4, .ref q7, .null, .null])), (q1, .inl (kA 0, 7, .inl (fun _ => 0))), (q4, .inl (kA 0, 7, .inl (fun _ => 0))), (q7, .inl (kA 0, 8, .inl (fun _ => 0))), (q10, .inl (kA 0, 8, .inl (fun _ => 0)))] := hD
  refine W.widen (k := 4) (n := 30) (Nat.le_of_ble_eq_true rfl) (Nat.le_of_ble_eq_true rfl) ?_
  refine va_putF (D := (dC, dI)) (ci := 1) (v := .ref q10) (ty := .array .int) (C := RX1) (T := TX1) (N := 10) hx hb hts uX1 tyX1 tyX1_ok nmX1 hown hK hP hD hS 0 rfl rfl 8 (by decide) (hts _ lk_244) (fun _ h9 => h9) rfl hin rfl (by decide +kernel) rfl rfl (Nat.le_of_ble_eq_true rfl) dX1_init_33 (fun H12 locs hP hD hS => ?_)
  have hP : va_P (dC, dI) vwCl [(h0, .inr (1, [.int 0, .int 0, .int 0, .int 0, .int 0, .ref q1, .ref q4, .ref q7, .ref q10, .null])), (q1, .inl (kA 0, 7, .inl (fun _ => 0))), (q4, .inl (kA 0, 7, .inl (fun _ => 0))), (q7, .inl (kA 0, 8, .inl (fun _ => 0))), (q10, .inl (kA 0, 8, .inl (fun _ => 0)))] H12 := hP
  have hD : va_D A [(h0, .inr (1, [.int 0, .int 0, .int 0, .int 0, .int 0, .ref q1, .ref q4, .ref q7, .ref q10, .null])), (q1, .inl (kA 0, 7, .inl (fun _ => 0))), (q4, .inl (kA 0, 7, .inl (fun _ => 0))), (q7, .inl (kA 0, 8, .inl (fun _ => 0))), (q10, .inl (kA 0, 8, .inl (fun _ => 0)))] := hD
  refine lv_aload_n hx hb dX1_init_36 rfl (lv_at hl 0 rfl) ?_
  refine lv_bipush (v := 8) hx hb dX1_init_37 (by decide) ?_
  refine nw_a (atype := .int) (ty := .int) (N' := 8) (a0 := (8, .inl (fun _ => 0))) hx hb (hts _ lk_198) rfl hK hP hD hS hA 0 rfl (va_zi 8 .int rfl) (by decide +kernel) (by decide +kernel) (by decide +kernel) (Nat.le_of_ble_eq_true rfl) (Nat.le_of_ble_eq_true rfl) dX1_init_39 (fun q13 H14 hP hD hS => ?_)
  have hP : va_P (dC, dI) vwCl [(h0, .inr (1, [.int 0, .int 0, .int 0, .int 0, .int 0, .ref q1, .ref q4, .ref q7, .ref q10, .null])), (q1, .inl (kA 0, 7, .inl (fun _ => 0))), (q4, .inl (kA 0, 7, .inl (fun _ => 0))), (q7, .inl (kA 0, 8, .inl (fun _ => 0))), (q10, .inl (kA 0, 8, .inl (fun _ => 0))), (q13, .inl (kA 0, 8, .inl (fun _ => 0)))] H14 := hP
  have hD : va_D A [(h0, .inr (1, [.int 0, .int 0, .int 0, .int 0, .int 0, .ref q1, .ref q4, .ref q7, .ref q10, .null])), (q1, .inl (kA 0, 7, .inl (fun _ => 0))), (q4, .inl (kA 0, 7, .inl (fun _ => 0))), (q7, .inl (kA 0, 8, .inl (fun _ => 0))), (q10, .inl (kA 0, 8, .inl (fun _ => 0))), (q13, .inl (kA 0, 8, .inl (fun _ => 0)))] := hD
  refine W.widen (k := 5) (n := 38) (Nat.le_of_ble_eq_true rfl) (Nat.le_of_ble_eq_true rfl) ?_
  refine va_putF (D := (dC, dI)) (ci := 1) (v := .ref q13) (ty := .array .int) (C := RX1) (T := TX1) (N := 10) hx hb hts uX1 tyX1 tyX1_ok nmX1 hown hK hP hD hS 0 rfl rfl 9 (by decide) (hts _ lk_247) (fun _ h9 => h9) rfl hin rfl (by decide +kernel) rfl rfl (Nat.le_of_ble_eq_true rfl) dX1_init_41 (fun H15 locs hP hD hS => ?_)
  have hP : va_P (dC, dI) vwCl [(h0, .inr (1, [.int 0, .int 0, .int 0, .int 0, .int 0, .ref q1, .ref q4, .ref q7, .ref q10, .ref q13])), (q1, .inl (kA 0, 7, .inl (fun _ => 0))), (q4, .inl (kA 0, 7, .inl (fun _ => 0))), (q7, .inl (kA 0, 8, .inl (fun _ => 0))), (q10, .inl (kA 0, 8, .inl (fun _ => 0))), (q13, .inl (kA 0, 8, .inl (fun _ => 0)))] H15 := hP
  have hD : va_D A [(h0, .inr (1, [.int 0, .int 0, .int 0, .int 0, .int 0, .ref q1, .ref q4, .ref q7, .ref q10, .ref q13])), (q1, .inl (kA 0, 7, .inl (fun _ => 0))), (q4, .inl (kA 0, 7, .inl (fun _ => 0))), (q7, .inl (kA 0, 8, .inl (fun _ => 0))), (q10, .inl (kA 0, 8, .inl (fun _ => 0))), (q13, .inl (kA 0, 8, .inl (fun _ => 0)))] := hD
  refine W.widen (k := 5) (n := 38) (Nat.le_of_ble_eq_true rfl) (Nat.le_of_ble_eq_true rfl) ?_
  have hP9 := hP.sub (ws' := [(h0, .inr (1, [.int 0, .int 0, .int 0, .int 0, .int 0, .ref q1, .ref q4, .ref q7, .ref q10, .ref q13])), (q1, .inl (kA 0, 7, .inl (fun _ => 0))), (q4, .inl (kA 0, 7, .inl (fun _ => 0))), (q7, .inl (kA 0, 8, .inl (fun _ => 0))), (q10, .inl (kA 0, 8, .inl (fun _ => 0))), (q13, .inl (kA 0, 8, .inl (fun _ => 0)))]) [0, 1, 2, 3, 4, 5] rfl
  have hD9 := hD.sub (ws' := [(h0, .inr (1, [.int 0, .int 0, .int 0, .int 0, .int 0, .ref q1, .ref q4, .ref q7, .ref q10, .ref q13])), (q1, .inl (kA 0, 7, .inl (fun _ => 0))), (q4, .inl (kA 0, 7, .inl (fun _ => 0))), (q7, .inl (kA 0, 8, .inl (fun _ => 0))), (q10, .inl (kA 0, 8, .inl (fun _ => 0))), (q13, .inl (kA 0, 8, .inl (fun _ => 0)))]) [0, 1, 2, 3, 4, 5] (by decide) rfl
  exact rM_v hx hb hr hlocks hP9 hD9 hS ⟨q1, q4, q7, q10, q13, rfl⟩ dX1_init_44

set_option maxHeartbeats 4000000 in
set_option maxRecDepth 100000 in
theorem c_X5_init (l : Launch) (dC : Nat → ClassId) (dI : Nat → Nat → Nat) (kA : Nat → ClassId) (sz : Nat) (h0 : Nat)  : Met l yX5_init (wsU yX5_init cX5_init 1 none) ({ frames := 1, cells := 4, slots := 28, locals := 12 }) (va_Pc [.ref h0] (PW dC dI kA [(h0, .inr (5, [.null, .null, .null, .null, .int 0]))] sz)) (QU dC dI none (fun w => ∃ (q1 : Nat) (q4 : Nat) (q7 : Nat) (q10 : Nat), w = [(h0, .inr (5, [.ref q1, .ref q4, .ref q7, .ref q10, .int 0])), (q1, .inl (kA 0, 7, .inl (fun _ => 0))), (q4, .inl (kA 0, 7, .inl (fun _ => 0))), (q7, .inl (kA 0, 7, .inl (fun _ => 0))), (q10, .inl (kA 0, 7, .inl (fun _ => 0)))]) (va_A [(h0, .inr (5, [.null, .null, .null, .null, .int 0]))] sz)) 4 28 (va_A [(h0, .inr (5, [.null, .null, .null, .null, .int 0]))] sz) := by
  refine met_M (own := RX5) (by decide) rfl (Nat.le_of_ble_eq_true rfl) ?_
  intro p e s m below meth c ls A hx hb hr hts hown hlocks hml hin hK hN hA hP hD hS hl
  have hl : lv_has ls 1 [(0, .ref h0)] := hl
  have hP : va_P (dC, dI) vwCl [(h0, .inr (5, [.null, .null, .null, .null, .int 0]))] s.heap := hP
  have hD : va_D A [(h0, .inr (5, [.null, .null, .null, .null, .int 0]))] := hD
  have hin : meth.name = "<init>" := hin
  refine lv_aload_n hx hb dX5_init_0 rfl (lv_at hl 0 rfl) ?_
  refine W.objInit hx hb hown (hts _ lk_276) (hts _ lk_137) (hts _ lk_138) rfl (by rw [hml]; exact hl.1) rfl dX5_init_1 (Nat.le_of_ble_eq_true rfl) (Nat.le_of_ble_eq_true rfl) ?_
  refine W.eq (g2 := F0 m 4 ls []) rfl ?_
  refine lv_aload_n hx hb dX5_init_4 rfl (lv_at hl 0 rfl) ?_
  refine lv_bipush (v := 7) hx hb dX5_init_5 (by decide) ?_
  refine nw_a (atype := .int) (ty := .int) (N' := 7) (a0 := (7, .inl (fun _ => 0))) hx hb (hts _ lk_198) rfl hK hP hD hS hA 0 rfl (va_zi 7 .int rfl) (by decide +kernel) (by decide +kernel) (by decide +kernel) (Nat.le_of_ble_eq_true rfl) (Nat.le_of_ble_eq_true rfl) dX5_init_7 (fun q1 H2 hP hD hS => ?_)
  have hP : va_P (dC, dI) vwCl [(h0, .inr (5, [.null, .null, .null, .null, .int 0])), (q1, .inl (kA 0, 7, .inl (fun _ => 0)))] H2 := hP
  have hD : va_D A [(h0, .inr (5, [.null, .null, .null, .null, .int 0])), (q1, .inl (kA 0, 7, .inl (fun _ => 0)))] := hD
  refine W.widen (k := 1) (n := 7) (Nat.le_of_ble_eq_true rfl) (Nat.le_of_ble_eq_true rfl) ?_
  refine va_putF (D := (dC, dI)) (ci := 5) (v := .ref q1) (ty := .array .int) (C := RX5) (T := TX5) (N := 5) hx hb hts uX5 tyX5 tyX5_ok nmX5 hown hK hP hD hS 0 rfl rfl 0 (by decide) (hts _ lk_277) (fun _ h9 => h9) rfl hin rfl (by decide +kernel) rfl rfl (Nat.le_of_ble_eq_true rfl) dX5_init_9 (fun H3 locs hP hD hS => ?_)
  have hP : va_P (dC, dI) vwCl [(h0, .inr (5, [.ref q1, .null, .null, .null, .int 0])), (q1, .inl (kA 0, 7, .inl (fun _ => 0)))] H3 := hP
  have hD : va_D A [(h0, .inr (5, [.ref q1, .null, .null, .null, .int 0])), (q1, .inl (kA 0, 7, .inl (fun _ => 0)))] := hD
  refine lv_aload_n hx hb dX5_init_12 rfl (lv_at hl 0 rfl) ?_
  refine lv_bipush (v := 7) hx hb dX5_init_13 (by decide) ?_
  refine nw_a (atype := .int) (ty := .int) (N' := 7) (a0 := (7, .inl (fun _ => 0))) hx hb (hts _ lk_198) rfl hK hP hD hS hA 0 rfl (va_zi 7 .int rfl) (by decide +kernel) (by decide +kernel) (by decide +kernel) (Nat.le_of_ble_eq_true rfl) (Nat.le_of_ble_eq_true rfl) dX5_init_15 (fun q4 H5 hP hD hS => ?_)
  have hP : va_P (dC, dI) vwCl [(h0, .inr (5, [.ref q1, .null, .null, .null, .int 0])), (q1, .inl (kA 0, 7, .inl (fun _ => 0))), (q4, .inl (kA 0, 7, .inl (fun _ => 0)))] H5 := hP
  have hD : va_D A [(h0, .inr (5, [.ref q1, .null, .null, .null, .int 0])), (q1, .inl (kA 0, 7, .inl (fun _ => 0))), (q4, .inl (kA 0, 7, .inl (fun _ => 0)))] := hD
  refine W.widen (k := 2) (n := 14) (Nat.le_of_ble_eq_true rfl) (Nat.le_of_ble_eq_true rfl) ?_
  refine va_putF (D := (dC, dI)) (ci := 5) (v := .ref q4) (ty := .array .int) (C := RX5) (T := TX5) (N := 5) hx hb hts uX5 tyX5 tyX5_ok nmX5 hown hK hP hD hS 0 rfl rfl 1 (by decide) (hts _ lk_283) (fun _ h9 => h9) rfl hin rfl (by decide +kernel) rfl rfl (Nat.le_of_ble_eq_true rfl) dX5_init_17 (fun H6 locs hP hD hS => ?_)
  have hP : va_P (dC, dI) vwCl [(h0, .inr (5, [.ref q1, .ref q4, .null, .null, .int 0])), (q1, .inl (kA 0, 7, .inl (fun _ => 0))), (q4, .inl (kA 0, 7, .inl (fun _ => 0)))] H6 := hP
  have hD : va_D A [(h0, .inr (5, [.ref q1, .ref q4, .null, .null, .int 0])), (q1, .inl (kA 0, 7, .inl (fun _ => 0))), (q4, .inl (kA 0, 7, .inl (fun _ => 0)))] := hD
  refine lv_aload_n hx hb dX5_init_20 rfl (lv_at hl 0 rfl) ?_
  refine lv_bipush (v := 7) hx hb dX5_init_21 (by decide) ?_
  refine nw_a (atype := .int) (ty := .int) (N' := 7) (a0 := (7, .inl (fun _ => 0))) hx hb (hts _ lk_198) rfl hK hP hD hS hA 0 rfl (va_zi 7 .int rfl) (by decide +kernel) (by decide +kernel) (by decide +kernel) (Nat.le_of_ble_eq_true rfl) (Nat.le_of_ble_eq_true rfl) dX5_init_23 (fun q7 H8 hP hD hS => ?_)
  have hP : va_P (dC, dI) vwCl [(h0, .inr (5, [.ref q1, .ref q4, .null, .null, .int 0])), (q1, .inl (kA 0, 7, .inl (fun _ => 0))), (q4, .inl (kA 0, 7, .inl (fun _ => 0))), (q7, .inl (kA 0, 7, .inl (fun _ => 0)))] H8 := hP
  have hD : va_D A [(h0, .inr (5, [.ref q1, .ref q4, .null, .null, .int 0])), (q1, .inl (kA 0, 7, .inl (fun _ => 0))), (q4, .inl (kA 0, 7, .inl (fun _ => 0))), (q7, .inl (kA 0, 7, .inl (fun _ => 0)))] := hD
  refine W.widen (k := 3) (n := 21) (Nat.le_of_ble_eq_true rfl) (Nat.le_of_ble_eq_true rfl) ?_
  refine va_putF (D := (dC, dI)) (ci := 5) (v := .ref q7) (ty := .array .int) (C := RX5) (T := TX5) (N := 5) hx hb hts uX5 tyX5 tyX5_ok nmX5 hown hK hP hD hS 0 rfl rfl 2 (by decide) (hts _ lk_289) (fun _ h9 => h9) rfl hin rfl (by decide +kernel) rfl rfl (Nat.le_of_ble_eq_true rfl) dX5_init_25 (fun H9 locs hP hD hS => ?_)
  have hP : va_P (dC, dI) vwCl [(h0, .inr (5, [.ref q1, .ref q4, .ref q7, .null, .int 0])), (q1, .inl (kA 0, 7, .inl (fun _ => 0))), (q4, .inl (kA 0, 7, .inl (fun _ => 0))), (q7, .inl (kA 0, 7, .inl (fun _ => 0)))] H9 := hP
  have hD : va_D A [(h0, .inr (5, [.ref q1, .ref q4, .ref q7, .null, .int 0])), (q1, .inl (kA 0, 7, .inl (fun _ => 0))), (q4, .inl (kA 0, 7, .inl (fun _ => 0))), (q7, .inl (kA 0, 7, .inl (fun _ => 0)))] := hD
  refine lv_aload_n hx hb dX5_init_28 rfl (lv_at hl 0 rfl) ?_
  refine lv_bipush (v := 7) hx hb dX5_init_29 (by decide) ?_
  refine nw_a (atype := .int) (ty := .int) (N' := 7) (a0 := (7, .inl (fun _ => 0))) hx hb (hts _ lk_198) rfl hK hP hD hS hA 0 rfl (va_zi 7 .int rfl) (by decide +kernel) (by decide +kernel) (by decide +kernel) (Nat.le_of_ble_eq_true rfl) (Nat.le_of_ble_eq_true rfl) dX5_init_31 (fun q10 H11 hP hD hS => ?_)
  have hP : va_P (dC, dI) vwCl [(h0, .inr (5, [.ref q1, .ref q4, .ref q7, .null, .int 0])), (q1, .inl (kA 0, 7, .inl (fun _ => 0))), (q4, .inl (kA 0, 7, .inl (fun _ => 0))), (q7, .inl (kA 0, 7, .inl (fun _ => 0))), (q10, .inl (kA 0, 7, .inl (fun _ => 0)))] H11 := hP
  have hD : va_D A [(h0, .inr (5, [.ref q1, .ref q4, .ref q7, .null, .int 0])), (q1, .inl (kA 0, 7, .inl (fun _ => 0))), (q4, .inl (kA 0, 7, .inl (fun _ => 0))), (q7, .inl (kA 0, 7, .inl (fun _ => 0))), (q10, .inl (kA 0, 7, .inl (fun _ => 0)))] := hD
  refine W.widen (k := 4) (n := 28) (Nat.le_of_ble_eq_true rfl) (Nat.le_of_ble_eq_true rfl) ?_
  refine va_putF (D := (dC, dI)) (ci := 5) (v := .ref q10) (ty := .array .int) (C := RX5) (T := TX5) (N := 5) hx hb hts uX5 tyX5 tyX5_ok nmX5 hown hK hP hD hS 0 rfl rfl 3 (by decide) (hts _ lk_293) (fun _ h9 => h9) rfl hin rfl (by decide +kernel) rfl rfl (Nat.le_of_ble_eq_true rfl) dX5_init_33 (fun H12 locs hP hD hS => ?_)
  have hP : va_P (dC, dI) vwCl [(h0, .inr (5, [.ref q1, .ref q4, .ref q7, .ref q10, .int 0])), (q1, .inl (kA 0, 7, .inl (fun _ => 0))), (q4, .inl (kA 0, 7, .inl (fun _ => 0))), (q7, .inl (kA 0, 7, .inl (fun _ => 0))), (q10, .inl (kA 0, 7, .inl (fun _ => 0)))] H12 := hP
  have hD : va_D A [(h0, .inr (5, [.ref q1, .ref q4, .ref q7, .ref q10, .int 0])), (q1, .inl (kA 0, 7, .inl (fun _ => 0))), (q4, .inl (kA 0, 7, .inl (fun _ => 0))), (q7, .inl (kA 0, 7, .inl (fun _ => 0))), (q10, .inl (kA 0, 7, .inl (fun _ => 0)))] := hD
  refine W.widen (k := 4) (n := 28) (Nat.le_of_ble_eq_true rfl) (Nat.le_of_ble_eq_true rfl) ?_
  have hP9 := hP.sub (ws' := [(h0, .inr (5, [.ref q1, .ref q4, .ref q7, .ref q10, .int 0])), (q1, .inl (kA 0, 7, .inl (fun _ => 0))), (q4, .inl (kA 0, 7, .inl (fun _ => 0))), (q7, .inl (kA 0, 7, .inl (fun _ => 0))), (q10, .inl (kA 0, 7, .inl (fun _ => 0)))]) [0, 1, 2, 3, 4] rfl
  have hD9 := hD.sub (ws' := [(h0, .inr (5, [.ref q1, .ref q4, .ref q7, .ref q10, .int 0])), (q1, .inl (kA 0, 7, .inl (fun _ => 0))), (q4, .inl (kA 0, 7, .inl (fun _ => 0))), (q7, .inl (kA 0, 7, .inl (fun _ => 0))), (q10, .inl (kA 0, 7, .inl (fun _ => 0)))]) [0, 1, 2, 3, 4] (by decide) rfl
  exact rM_v hx hb hr hlocks hP9 hD9 hS ⟨q1, q4, q7, q10, rfl⟩ dX5_init_36

set_option maxHeartbeats 4000000 in
set_option maxRecDepth 100000 in
theorem c_X4_init (l : Launch) (dC : Nat → ClassId) (dI : Nat → Nat → Nat) (kA : Nat → ClassId) (sz : Nat) (h0 : Nat)  : Met l yX4_init (wsU yX4_init cX4_init 1 none) ({ frames := 1, cells := 2, slots := 76, locals := 12 }) (va_Pc [.ref h0] (PW dC dI kA [(h0, .inr (4, [.null, .null]))] sz)) (QU dC dI none (fun w => ∃ (q1 : Nat) (q4 : Nat), w = [(h0, .inr (4, [.ref q1, .ref q4]))]) (va_A [(h0, .inr (4, [.null, .null]))] sz)) 2 76 (va_A [(h0, .inr (4, [.null, .null]))] sz) := by
  refine met_M (own := RX4) (by decide) rfl (Nat.le_of_ble_eq_true rfl) ?_
  intro p e s m below meth c ls A hx hb hr hts hown hlocks hml hin hK hN hA hP hD hS hl
  have hl : lv_has ls 1 [(0, .ref h0)] := hl
  have hP : va_P (dC, dI) vwCl [(h0, .inr (4, [.null, .null]))] s.heap := hP
  have hD : va_D A [(h0, .inr (4, [.null, .null]))] := hD
  have hin : meth.name = "<init>" := hin
  refine lv_aload_n hx hb dX4_init_0 rfl (lv_at hl 0 rfl) ?_
  refine W.objInit hx hb hown (hts _ lk_374) (hts _ lk_137) (hts _ lk_138) rfl (by rw [hml]; exact hl.1) rfl dX4_init_1 (Nat.le_of_ble_eq_true rfl) (Nat.le_of_ble_eq_true rfl) ?_
  refine W.eq (g2 := F0 m 4 ls []) rfl ?_
  refine lv_aload_n hx hb dX4_init_4 rfl (lv_at hl 0 rfl) ?_
  refine lv_bipush (v := 12) hx hb dX4_init_5 (by decide) ?_
  refine nw_a (atype := .long) (ty := .long) (N' := 12) (a0 := (12, .inr (.inl (fun _ => 0)))) hx hb (hts _ lk_382) rfl hK hP hD hS hA 2 rfl (va_zl 12) (by decide +kernel) (by decide +kernel) (by decide +kernel) (Nat.le_of_ble_eq_true rfl) (Nat.le_of_ble_eq_true rfl) dX4_init_7 (fun q1 H2 hP hD hS => ?_)
  have hP : va_P (dC, dI) vwCl [(h0, .inr (4, [.null, .null])), (q1, .inl (kA 2, 12, .inr (.inl (fun _ => 0))))] H2 := hP
  have hD : va_D A [(h0, .inr (4, [.null, .null])), (q1, .inl (kA 2, 12, .inr (.inl (fun _ => 0))))] := hD
  refine W.widen (k := 1) (n := 12) (Nat.le_of_ble_eq_true rfl) (Nat.le_of_ble_eq_true rfl) ?_
  refine va_putF (D := (dC, dI)) (ci := 4) (v := .ref q1) (ty := .array .long) (C := RX4) (T := TX4) (N := 2) hx hb hts uX4 tyX4 tyX4_ok nmX4 hown hK hP hD hS 0 rfl rfl 0 (by decide) (hts _ lk_375) (fun _ h9 => h9) rfl hin rfl (by decide +kernel) rfl rfl (Nat.le_of_ble_eq_true rfl) dX4_init_9 (fun H3 locs hP hD hS => ?_)
  have hP : va_P (dC, dI) vwCl [(h0, .inr (4, [.ref q1, .null])), (q1, .inl (kA 2, 12, .inr (.inl (fun _ => 0))))] H3 := hP
  have hD : va_D A [(h0, .inr (4, [.ref q1, .null])), (q1, .inl (kA 2, 12, .inr (.inl (fun _ => 0))))] := hD
  refine lv_aload_n hx hb dX4_init_12 rfl (lv_at hl 0 rfl) ?_
  refine lv_bipush (v := 64) hx hb dX4_init_13 (by decide) ?_
  refine nw_a (atype := .long) (ty := .long) (N' := 64) (a0 := (64, .inr (.inl (fun _ => 0)))) hx hb (hts _ lk_382) rfl hK hP hD hS hA 2 rfl (va_zl 64) (by decide +kernel) (by decide +kernel) (by decide +kernel) (Nat.le_of_ble_eq_true rfl) (Nat.le_of_ble_eq_true rfl) dX4_init_15 (fun q4 H5 hP hD hS => ?_)
  have hP : va_P (dC, dI) vwCl [(h0, .inr (4, [.ref q1, .null])), (q1, .inl (kA 2, 12, .inr (.inl (fun _ => 0)))), (q4, .inl (kA 2, 64, .inr (.inl (fun _ => 0))))] H5 := hP
  have hD : va_D A [(h0, .inr (4, [.ref q1, .null])), (q1, .inl (kA 2, 12, .inr (.inl (fun _ => 0)))), (q4, .inl (kA 2, 64, .inr (.inl (fun _ => 0))))] := hD
  refine W.widen (k := 2) (n := 76) (Nat.le_of_ble_eq_true rfl) (Nat.le_of_ble_eq_true rfl) ?_
  refine va_putF (D := (dC, dI)) (ci := 4) (v := .ref q4) (ty := .array .long) (C := RX4) (T := TX4) (N := 2) hx hb hts uX4 tyX4 tyX4_ok nmX4 hown hK hP hD hS 0 rfl rfl 1 (by decide) (hts _ lk_376) (fun _ h9 => h9) rfl hin rfl (by decide +kernel) rfl rfl (Nat.le_of_ble_eq_true rfl) dX4_init_17 (fun H6 locs hP hD hS => ?_)
  have hP : va_P (dC, dI) vwCl [(h0, .inr (4, [.ref q1, .ref q4])), (q1, .inl (kA 2, 12, .inr (.inl (fun _ => 0)))), (q4, .inl (kA 2, 64, .inr (.inl (fun _ => 0))))] H6 := hP
  have hD : va_D A [(h0, .inr (4, [.ref q1, .ref q4])), (q1, .inl (kA 2, 12, .inr (.inl (fun _ => 0)))), (q4, .inl (kA 2, 64, .inr (.inl (fun _ => 0))))] := hD
  refine W.widen (k := 2) (n := 76) (Nat.le_of_ble_eq_true rfl) (Nat.le_of_ble_eq_true rfl) ?_
  have hP9 := hP.sub (ws' := [(h0, .inr (4, [.ref q1, .ref q4]))]) [0] rfl
  have hD9 := hD.sub (ws' := [(h0, .inr (4, [.ref q1, .ref q4]))]) [0] (by decide) rfl
  exact rM_v hx hb hr hlocks hP9 hD9 hS ⟨q1, q4, rfl⟩ dX4_init_20

set_option maxHeartbeats 4000000 in
set_option maxRecDepth 100000 in
theorem c_X0_init (l : Launch) (dC : Nat → ClassId) (dI : Nat → Nat → Nat) (kA : Nat → ClassId) (sz : Nat) (h0 : Nat)  : Met l yX0_init (wsU yX0_init cX0_init 1 none) ({ frames := 2, cells := 5, slots := 33, locals := 32 }) (va_Pc [.ref h0] (PW dC dI kA [(h0, .inr (0, [.null, .int 0, .int 0, .int 0, .int 0, .int 0]))] sz)) (QU dC dI none (fun w => ∃ (q1 : Nat), w = [(h0, .inr (0, [.ref q1, .int 0, .int 0, .int 0, .int 0, .int 0]))]) (va_A [(h0, .inr (0, [.null, .int 0, .int 0, .int 0, .int 0, .int 0]))] sz)) 5 33 (va_A [(h0, .inr (0, [.null, .int 0, .int 0, .int 0, .int 0, .int 0]))] sz) := by
  refine met_M (own := RX0) (by decide) rfl (Nat.le_of_ble_eq_true rfl) ?_
  intro p e s m below meth c ls A hx hb hr hts hown hlocks hml hin hK hN hA hP hD hS hl
  have hl : lv_has ls 1 [(0, .ref h0)] := hl
  have hP : va_P (dC, dI) vwCl [(h0, .inr (0, [.null, .int 0, .int 0, .int 0, .int 0, .int 0]))] s.heap := hP
  have hD : va_D A [(h0, .inr (0, [.null, .int 0, .int 0, .int 0, .int 0, .int 0]))] := hD
  have hin : meth.name = "<init>" := hin
  refine lv_aload_n hx hb dX0_init_0 rfl (lv_at hl 0 rfl) ?_
  refine W.objInit hx hb hown (hts _ lk_415) (hts _ lk_137) (hts _ lk_138) rfl (by rw [hml]; exact hl.1) rfl dX0_init_1 (Nat.le_of_ble_eq_true rfl) (Nat.le_of_ble_eq_true rfl) ?_
  refine W.eq (g2 := F0 m 4 ls []) rfl ?_
  refine lv_aload_n hx hb dX0_init_4 rfl (lv_at hl 0 rfl) ?_
  refine va_new (D := (dC, dI)) (ci := 5) (fs := [.null, .null, .null, .null, .int 0]) (C := RX5) (T := TX5) (N := 5) hx hb hts uX5 tyX5 tyX5_ok hown (hts _ lk_416) (hts _ lk_272) (hts _ lk_116) hK hP hD hS hA rfl vX5 (Nat.le_of_ble_eq_true rfl) (Nat.le_of_ble_eq_true rfl) dX0_init_5 (fun q1 H2 hP hD hS => ?_)
  have hP : va_P (dC, dI) vwCl [(h0, .inr (0, [.null, .int 0, .int 0, .int 0, .int 0, .int 0])), (q1, .inr (5, [.null, .null, .null, .null, .int 0]))] H2 := hP
  have hD : va_D A [(h0, .inr (0, [.null, .int 0, .int 0, .int 0, .int 0, .int 0])), (q1, .inr (5, [.null, .null, .null, .null, .int 0]))] := hD
  refine W.widen (k := 1) (n := 5) (Nat.le_of_ble_eq_true rfl) (Nat.le_of_ble_eq_true rfl) ?_
  refine lv_dup hx hb dX0_init_8 rfl ?_
  have hPc := hP.sub (ws' := [(q1, .inr (5, [.null, .null, .null, .null, .int 0]))]) [1] rfl
  have hDc := hD.sub (ws' := [(q1, .inr (5, [.null, .null, .null, .null, .int 0]))]) [1] (by decide) rfl
  refine cM (wc := [(q1, .inr (5, [.null, .null, .null, .null, .int 0]))]) (wr := [(h0, .inr (0, [.null, .int 0, .int 0, .int 0, .int 0, .int 0]))]) [1] [0] hP hD hS hA rfl rfl (by decide) (by decide) (va_runIN (As := []) (rest := [.ref q1, .ref h0]) ⟨hx, hb, hml, hown, hts⟩ (c_X5_init l dC dI kA H2.size q1 ) ⟨va_cnB 0 hts (gI lk_275) rfl rfl rfl (hN.at 9 rfl) (hts _ lk_116) (by decide +kernel) ⟨Nat.le_of_ble_eq_true rfl, Nat.le_of_ble_eq_true rfl⟩, rfl, hts _ lk_274⟩ (pw_s hPc hDc hK hN) rfl rfl hl.1 rfl (lv_room (Nat.le_of_ble_eq_true rfl)) dX0_init_9 ⟨Nat.le_of_ble_eq_true rfl, Nat.le_of_ble_eq_true rfl⟩) (fun w1 H3 locs hw hP hD hS => ?_)
  obtain ⟨q4, q5, q6, q7, rfl⟩ := hw
  have hP : va_P (dC, dI) vwCl [(h0, .inr (0, [.null, .int 0, .int 0, .int 0, .int 0, .int 0])), (q1, .inr (5, [.ref q4, .ref q5, .ref q6, .ref q7, .int 0])), (q4, .inl (kA 0, 7, .inl (fun _ => 0))), (q5, .inl (kA 0, 7, .inl (fun _ => 0))), (q6, .inl (kA 0, 7, .inl (fun _ => 0))), (q7, .inl (kA 0, 7, .inl (fun _ => 0)))] H3 := hP
  have hD : va_D A [(h0, .inr (0, [.null, .int 0, .int 0, .int 0, .int 0, .int 0])), (q1, .inr (5, [.ref q4, .ref q5, .ref q6, .ref q7, .int 0])), (q4, .inl (kA 0, 7, .inl (fun _ => 0))), (q5, .inl (kA 0, 7, .inl (fun _ => 0))), (q6, .inl (kA 0, 7, .inl (fun _ => 0))), (q7, .inl (kA 0, 7, .inl (fun _ => 0)))] := hD
  refine W.widen (k := 5) (n := 33) (Nat.le_of_ble_eq_true rfl) (Nat.le_of_ble_eq_true rfl) ?_
  refine W.eq (g2 := F0 m 12 ls [.ref q1, .ref h0]) rfl ?_
  refine va_putF (D := (dC, dI)) (ci := 0) (v := .ref q1) (ty := .object "LinenName$Linen") (C := RX0) (T := TX0) (N := 6) hx hb hts uX0 tyX0 tyX0_ok nmX0 hown hK hP hD hS 0 rfl rfl 0 (by decide) (hts _ lk_418) (fun _ h9 => h9) rfl hin rfl (by decide +kernel) rfl rfl (Nat.le_of_ble_eq_true rfl) dX0_init_12 (fun H8 locs hP hD hS => ?_)
  have hP : va_P (dC, dI) vwCl [(h0, .inr (0, [.ref q1, .int 0, .int 0, .int 0, .int 0, .int 0])), (q1, .inr (5, [.ref q4, .ref q5, .ref q6, .ref q7, .int 0])), (q4, .inl (kA 0, 7, .inl (fun _ => 0))), (q5, .inl (kA 0, 7, .inl (fun _ => 0))), (q6, .inl (kA 0, 7, .inl (fun _ => 0))), (q7, .inl (kA 0, 7, .inl (fun _ => 0)))] H8 := hP
  have hD : va_D A [(h0, .inr (0, [.ref q1, .int 0, .int 0, .int 0, .int 0, .int 0])), (q1, .inr (5, [.ref q4, .ref q5, .ref q6, .ref q7, .int 0])), (q4, .inl (kA 0, 7, .inl (fun _ => 0))), (q5, .inl (kA 0, 7, .inl (fun _ => 0))), (q6, .inl (kA 0, 7, .inl (fun _ => 0))), (q7, .inl (kA 0, 7, .inl (fun _ => 0)))] := hD
  refine W.widen (k := 5) (n := 33) (Nat.le_of_ble_eq_true rfl) (Nat.le_of_ble_eq_true rfl) ?_
  have hP9 := hP.sub (ws' := [(h0, .inr (0, [.ref q1, .int 0, .int 0, .int 0, .int 0, .int 0]))]) [0] rfl
  have hD9 := hD.sub (ws' := [(h0, .inr (0, [.ref q1, .int 0, .int 0, .int 0, .int 0, .int 0]))]) [0] (by decide) rfl
  exact rM_v hx hb hr hlocks hP9 hD9 hS ⟨q1, rfl⟩ dX0_init_15

set_option maxHeartbeats 4000000 in
set_option maxRecDepth 100000 in
theorem c_X3_init (l : Launch) (dC : Nat → ClassId) (dI : Nat → Nat → Nat) (kA : Nat → ClassId) (sz : Nat) (h0 : Nat)  : Met l yX3_init (wsU yX3_init cX3_init 1 none) ({ frames := 2, cells := 14, slots := 111, locals := 32 }) (va_Pc [.ref h0] (PW dC dI kA [(h0, .inr (3, [.null, .null, .null, .null, .null, .int 0, .int 0, .int 0, .int 0]))] sz)) (QU dC dI none (fun w => ∃ (q1 : Nat) (q10 : Nat) (q18 : Nat) (q21 : Nat) (q24 : Nat) (q4 : Nat) (q5 : Nat) (q6 : Nat) (q7 : Nat) (q8 : Nat) (q13 : Nat) (q14 : Nat) (q15 : Nat) (q16 : Nat), w = [(h0, .inr (3, [.ref q1, .ref q10, .ref q18, .ref q21, .ref q24, .int 0, .int (-1), .int 0, .int 0])), (q1, .inr (1, [.int 0, .int 0, .int 0, .int 0, .int 0, .ref q4, .ref q5, .ref q6, .ref q7, .ref q8])), (q10, .inr (5, [.ref q13, .ref q14, .ref q15, .ref q16, .int 0])), (q4, .inl (kA 0, 7, .inl (fun _ => 0))), (q5, .inl (kA 0, 7, .inl (fun _ => 0))), (q6, .inl (kA 0, 8, .inl (fun _ => 0))), (q7, .inl (kA 0, 8, .inl (fun _ => 0))), (q8, .inl (kA 0, 8, .inl (fun _ => 0))), (q13, .inl (kA 0, 7, .inl (fun _ => 0))), (q14, .inl (kA 0, 7, .inl (fun _ => 0))), (q15, .inl (kA 0, 7, .inl (fun _ => 0))), (q16, .inl (kA 0, 7, .inl (fun _ => 0))), (q18, .inl (kA 0, 10, .inl (fun _ => 0))), (q21, .inl (kA 0, 10, .inl (fun _ => 0))), (q24, .inl (kA 0, 10, .inl (fun _ => 0)))]) (va_A [(h0, .inr (3, [.null, .null, .null, .null, .null, .int 0, .int 0, .int 0, .int 0]))] sz)) 14 111 (va_A [(h0, .inr (3, [.null, .null, .null, .null, .null, .int 0, .int 0, .int 0, .int 0]))] sz) := by
  refine met_M (own := RX3) (by decide) rfl (Nat.le_of_ble_eq_true rfl) ?_
  intro p e s m below meth c ls A hx hb hr hts hown hlocks hml hin hK hN hA hP hD hS hl
  have hl : lv_has ls 1 [(0, .ref h0)] := hl
  have hP : va_P (dC, dI) vwCl [(h0, .inr (3, [.null, .null, .null, .null, .null, .int 0, .int 0, .int 0, .int 0]))] s.heap := hP
  have hD : va_D A [(h0, .inr (3, [.null, .null, .null, .null, .null, .int 0, .int 0, .int 0, .int 0]))] := hD
  have hin : meth.name = "<init>" := hin
  refine lv_aload_n hx hb dX3_init_0 rfl (lv_at hl 0 rfl) ?_
  refine W.objInit hx hb hown (hts _ lk_206) (hts _ lk_137) (hts _ lk_138) rfl (by rw [hml]; exact hl.1) rfl dX3_init_1 (Nat.le_of_ble_eq_true rfl) (Nat.le_of_ble_eq_true rfl) ?_
  refine W.eq (g2 := F0 m 4 ls []) rfl ?_
  refine lv_aload_n hx hb dX3_init_4 rfl (lv_at hl 0 rfl) ?_
  refine va_new (D := (dC, dI)) (ci := 1) (fs := [.int 0, .int 0, .int 0, .int 0, .int 0, .null, .null, .null, .null, .null]) (C := RX1) (T := TX1) (N := 10) hx hb hts uX1 tyX1 tyX1_ok hown (hts _ lk_207) (hts _ lk_208) (hts _ lk_115) hK hP hD hS hA rfl vX1 (Nat.le_of_ble_eq_true rfl) (Nat.le_of_ble_eq_true rfl) dX3_init_5 (fun q1 H2 hP hD hS => ?_)
  have hP : va_P (dC, dI) vwCl [(h0, .inr (3, [.null, .null, .null, .null, .null, .int 0, .int 0, .int 0, .int 0])), (q1, .inr (1, [.int 0, .int 0, .int 0, .int 0, .int 0, .null, .null, .null, .null, .null]))] H2 := hP
  have hD : va_D A [(h0, .inr (3, [.null, .null, .null, .null, .null, .int 0, .int 0, .int 0, .int 0])), (q1, .inr (1, [.int 0, .int 0, .int 0, .int 0, .int 0, .null, .null, .null, .null, .null]))] := hD
  refine W.widen (k := 1) (n := 10) (Nat.le_of_ble_eq_true rfl) (Nat.le_of_ble_eq_true rfl) ?_
  refine lv_dup hx hb dX3_init_8 rfl ?_
  have hPc := hP.sub (ws' := [(q1, .inr (1, [.int 0, .int 0, .int 0, .int 0, .int 0, .null, .null, .null, .null, .null]))]) [1] rfl
  have hDc := hD.sub (ws' := [(q1, .inr (1, [.int 0, .int 0, .int 0, .int 0, .int 0, .null, .null, .null, .null, .null]))]) [1] (by decide) rfl
  refine cM (wc := [(q1, .inr (1, [.int 0, .int 0, .int 0, .int 0, .int 0, .null, .null, .null, .null, .null]))]) (wr := [(h0, .inr (3, [.null, .null, .null, .null, .null, .int 0, .int 0, .int 0, .int 0]))]) [1] [0] hP hD hS hA rfl rfl (by decide) (by decide) (va_runIN (As := []) (rest := [.ref q1, .ref h0]) ⟨hx, hb, hml, hown, hts⟩ (c_X1_init l dC dI kA H2.size q1 ) ⟨va_cnB 0 hts (gI lk_211) rfl rfl rfl (hN.at 10 rfl) (hts _ lk_115) (by decide +kernel) ⟨Nat.le_of_ble_eq_true rfl, Nat.le_of_ble_eq_true rfl⟩, rfl, hts _ lk_210⟩ (pw_s hPc hDc hK hN) rfl rfl hl.1 rfl (lv_room (Nat.le_of_ble_eq_true rfl)) dX3_init_9 ⟨Nat.le_of_ble_eq_true rfl, Nat.le_of_ble_eq_true rfl⟩) (fun w1 H3 locs hw hP hD hS => ?_)
  obtain ⟨q4, q5, q6, q7, q8, rfl⟩ := hw
  have hP : va_P (dC, dI) vwCl [(h0, .inr (3, [.null, .null, .null, .null, .null, .int 0, .int 0, .int 0, .int 0])), (q1, .inr (1, [.int 0, .int 0, .int 0, .int 0, .int 0, .ref q4, .ref q5, .ref q6, .ref q7, .ref q8])), (q4, .inl (kA 0, 7, .inl (fun _ => 0))), (q5, .inl (kA 0, 7, .inl (fun _ => 0))), (q6, .inl (kA 0, 8, .inl (fun _ => 0))), (q7, .inl (kA 0, 8, .inl (fun _ => 0))), (q8, .inl (kA 0, 8, .inl (fun _ => 0)))] H3 := hP
  have hD : va_D A [(h0, .inr (3, [.null, .null, .null, .null, .null, .int 0, .int 0, .int 0, .int 0])), (q1, .inr (1, [.int 0, .int 0, .int 0, .int 0, .int 0, .ref q4, .ref q5, .ref q6, .ref q7, .ref q8])), (q4, .inl (kA 0, 7, .inl (fun _ => 0))), (q5, .inl (kA 0, 7, .inl (fun _ => 0))), (q6, .inl (kA 0, 8, .inl (fun _ => 0))), (q7, .inl (kA 0, 8, .inl (fun _ => 0))), (q8, .inl (kA 0, 8, .inl (fun _ => 0)))] := hD
  refine W.widen (k := 6) (n := 48) (Nat.le_of_ble_eq_true rfl) (Nat.le_of_ble_eq_true rfl) ?_
  refine W.eq (g2 := F0 m 12 ls [.ref q1, .ref h0]) rfl ?_
  refine va_put (D := (dC, dI)) (ci := 3) (v := .ref q1) (ty := .object "LinenName$House") (C := RX3) (T := TX3) (N := 9) hx hb hts uX3 tyX3 tyX3_ok nmX3 hown hK hP hD hS 0 rfl rfl 0 (by decide) (hts _ lk_312) (fun _ h9 => h9) rfl (by decide +kernel) rfl rfl (Nat.le_of_ble_eq_true rfl) dX3_init_12 (fun H9 locs hP hD hS => ?_)
  have hP : va_P (dC, dI) vwCl [(h0, .inr (3, [.ref q1, .null, .null, .null, .null, .int 0, .int 0, .int 0, .int 0])), (q1, .inr (1, [.int 0, .int 0, .int 0, .int 0, .int 0, .ref q4, .ref q5, .ref q6, .ref q7, .ref q8])), (q4, .inl (kA 0, 7, .inl (fun _ => 0))), (q5, .inl (kA 0, 7, .inl (fun _ => 0))), (q6, .inl (kA 0, 8, .inl (fun _ => 0))), (q7, .inl (kA 0, 8, .inl (fun _ => 0))), (q8, .inl (kA 0, 8, .inl (fun _ => 0)))] H9 := hP
  have hD : va_D A [(h0, .inr (3, [.ref q1, .null, .null, .null, .null, .int 0, .int 0, .int 0, .int 0])), (q1, .inr (1, [.int 0, .int 0, .int 0, .int 0, .int 0, .ref q4, .ref q5, .ref q6, .ref q7, .ref q8])), (q4, .inl (kA 0, 7, .inl (fun _ => 0))), (q5, .inl (kA 0, 7, .inl (fun _ => 0))), (q6, .inl (kA 0, 8, .inl (fun _ => 0))), (q7, .inl (kA 0, 8, .inl (fun _ => 0))), (q8, .inl (kA 0, 8, .inl (fun _ => 0)))] := hD
  refine lv_aload_n hx hb dX3_init_15 rfl (lv_at hl 0 rfl) ?_
  refine va_new (D := (dC, dI)) (ci := 5) (fs := [.null, .null, .null, .null, .int 0]) (C := RX5) (T := TX5) (N := 5) hx hb hts uX5 tyX5 tyX5_ok hown (hts _ lk_271) (hts _ lk_272) (hts _ lk_116) hK hP hD hS hA rfl vX5 (Nat.le_of_ble_eq_true rfl) (Nat.le_of_ble_eq_true rfl) dX3_init_16 (fun q10 H11 hP hD hS => ?_)
  have hP : va_P (dC, dI) vwCl [(h0, .inr (3, [.ref q1, .null, .null, .null, .null, .int 0, .int 0, .int 0, .int 0])), (q1, .inr (1, [.int 0, .int 0, .int 0, .int 0, .int 0, .ref q4, .ref q5, .ref q6, .ref q7, .ref q8])), (q4, .inl (kA 0, 7, .inl (fun _ => 0))), (q5, .inl (kA 0, 7, .inl (fun _ => 0))), (q6, .inl (kA 0, 8, .inl (fun _ => 0))), (q7, .inl (kA 0, 8, .inl (fun _ => 0))), (q8, .inl (kA 0, 8, .inl (fun _ => 0))), (q10, .inr (5, [.null, .null, .null, .null, .int 0]))] H11 := hP
  have hD : va_D A [(h0, .inr (3, [.ref q1, .null, .null, .null, .null, .int 0, .int 0, .int 0, .int 0])), (q1, .inr (1, [.int 0, .int 0, .int 0, .int 0, .int 0, .ref q4, .ref q5, .ref q6, .ref q7, .ref q8])), (q4, .inl (kA 0, 7, .inl (fun _ => 0))), (q5, .inl (kA 0, 7, .inl (fun _ => 0))), (q6, .inl (kA 0, 8, .inl (fun _ => 0))), (q7, .inl (kA 0, 8, .inl (fun _ => 0))), (q8, .inl (kA 0, 8, .inl (fun _ => 0))), (q10, .inr (5, [.null, .null, .null, .null, .int 0]))] := hD
  refine W.widen (k := 7) (n := 53) (Nat.le_of_ble_eq_true rfl) (Nat.le_of_ble_eq_true rfl) ?_
  refine lv_dup hx hb dX3_init_19 rfl ?_
  have hPc := hP.sub (ws' := [(q10, .inr (5, [.null, .null, .null, .null, .int 0]))]) [7] rfl
  have hDc := hD.sub (ws' := [(q10, .inr (5, [.null, .null, .null, .null, .int 0]))]) [7] (by decide) rfl
  refine cM (wc := [(q10, .inr (5, [.null, .null, .null, .null, .int 0]))]) (wr := [(h0, .inr (3, [.ref q1, .null, .null, .null, .null, .int 0, .int 0, .int 0, .int 0])), (q1, .inr (1, [.int 0, .int 0, .int 0, .int 0, .int 0, .ref q4, .ref q5, .ref q6, .ref q7, .ref q8])), (q4, .inl (kA 0, 7, .inl (fun _ => 0))), (q5, .inl (kA 0, 7, .inl (fun _ => 0))), (q6, .inl (kA 0, 8, .inl (fun _ => 0))), (q7, .inl (kA 0, 8, .inl (fun _ => 0))), (q8, .inl (kA 0, 8, .inl (fun _ => 0)))]) [7] [0, 1, 2, 3, 4, 5, 6] hP hD hS hA rfl rfl (by decide) (by decide) (va_runIN (As := []) (rest := [.ref q10, .ref h0]) ⟨hx, hb, hml, hown, hts⟩ (c_X5_init l dC dI kA H11.size q10 ) ⟨va_cnB 0 hts (gI lk_275) rfl rfl rfl (hN.at 11 rfl) (hts _ lk_116) (by decide +kernel) ⟨Nat.le_of_ble_eq_true rfl, Nat.le_of_ble_eq_true rfl⟩, rfl, hts _ lk_274⟩ (pw_s hPc hDc hK hN) rfl rfl hl.1 rfl (lv_room (Nat.le_of_ble_eq_true rfl)) dX3_init_20 ⟨Nat.le_of_ble_eq_true rfl, Nat.le_of_ble_eq_true rfl⟩) (fun w1 H12 locs hw hP hD hS => ?_)
  obtain ⟨q13, q14, q15, q16, rfl⟩ := hw
  have hP : va_P (dC, dI) vwCl [(h0, .inr (3, [.ref q1, .null, .null, .null, .null, .int 0, .int 0, .int 0, .int 0])), (q1, .inr (1, [.int 0, .int 0, .int 0, .int 0, .int 0, .ref q4, .ref q5, .ref q6, .ref q7, .ref q8])), (q4, .inl (kA 0, 7, .inl (fun _ => 0))), (q5, .inl (kA 0, 7, .inl (fun _ => 0))), (q6, .inl (kA 0, 8, .inl (fun _ => 0))), (q7, .inl (kA 0, 8, .inl (fun _ => 0))), (q8, .inl (kA 0, 8, .inl (fun _ => 0))), (q10, .inr (5, [.ref q13, .ref q14, .ref q15, .ref q16, .int 0])), (q13, .inl (kA 0, 7, .inl (fun _ => 0))), (q14, .inl (kA 0, 7, .inl (fun _ => 0))), (q15, .inl (kA 0, 7, .inl (fun _ => 0))), (q16, .inl (kA 0, 7, .inl (fun _ => 0)))] H12 := hP
  have hD : va_D A [(h0, .inr (3, [.ref q1, .null, .null, .null, .null, .int 0, .int 0, .int 0, .int 0])), (q1, .inr (1, [.int 0, .int 0, .int 0, .int 0, .int 0, .ref q4, .ref q5, .ref q6, .ref q7, .ref q8])), (q4, .inl (kA 0, 7, .inl (fun _ => 0))), (q5, .inl (kA 0, 7, .inl (fun _ => 0))), (q6, .inl (kA 0, 8, .inl (fun _ => 0))), (q7, .inl (kA 0, 8, .inl (fun _ => 0))), (q8, .inl (kA 0, 8, .inl (fun _ => 0))), (q10, .inr (5, [.ref q13, .ref q14, .ref q15, .ref q16, .int 0])), (q13, .inl (kA 0, 7, .inl (fun _ => 0))), (q14, .inl (kA 0, 7, .inl (fun _ => 0))), (q15, .inl (kA 0, 7, .inl (fun _ => 0))), (q16, .inl (kA 0, 7, .inl (fun _ => 0)))] := hD
  refine W.widen (k := 11) (n := 81) (Nat.le_of_ble_eq_true rfl) (Nat.le_of_ble_eq_true rfl) ?_
  refine W.eq (g2 := F0 m 23 ls [.ref q10, .ref h0]) rfl ?_
  refine va_putF (D := (dC, dI)) (ci := 3) (v := .ref q10) (ty := .object "LinenName$Linen") (C := RX3) (T := TX3) (N := 9) hx hb hts uX3 tyX3 tyX3_ok nmX3 hown hK hP hD hS 0 rfl rfl 1 (by decide) (hts _ lk_314) (fun _ h9 => h9) rfl hin rfl (by decide +kernel) rfl rfl (Nat.le_of_ble_eq_true rfl) dX3_init_23 (fun H17 locs hP hD hS => ?_)
  have hP : va_P (dC, dI) vwCl [(h0, .inr (3, [.ref q1, .ref q10, .null, .null, .null, .int 0, .int 0, .int 0, .int 0])), (q1, .inr (1, [.int 0, .int 0, .int 0, .int 0, .int 0, .ref q4, .ref q5, .ref q6, .ref q7, .ref q8])), (q4, .inl (kA 0, 7, .inl (fun _ => 0))), (q5, .inl (kA 0, 7, .inl (fun _ => 0))), (q6, .inl (kA 0, 8, .inl (fun _ => 0))), (q7, .inl (kA 0, 8, .inl (fun _ => 0))), (q8, .inl (kA 0, 8, .inl (fun _ => 0))), (q10, .inr (5, [.ref q13, .ref q14, .ref q15, .ref q16, .int 0])), (q13, .inl (kA 0, 7, .inl (fun _ => 0))), (q14, .inl (kA 0, 7, .inl (fun _ => 0))), (q15, .inl (kA 0, 7, .inl (fun _ => 0))), (q16, .inl (kA 0, 7, .inl (fun _ => 0)))] H17 := hP
  have hD : va_D A [(h0, .inr (3, [.ref q1, .ref q10, .null, .null, .null, .int 0, .int 0, .int 0, .int 0])), (q1, .inr (1, [.int 0, .int 0, .int 0, .int 0, .int 0, .ref q4, .ref q5, .ref q6, .ref q7, .ref q8])), (q4, .inl (kA 0, 7, .inl (fun _ => 0))), (q5, .inl (kA 0, 7, .inl (fun _ => 0))), (q6, .inl (kA 0, 8, .inl (fun _ => 0))), (q7, .inl (kA 0, 8, .inl (fun _ => 0))), (q8, .inl (kA 0, 8, .inl (fun _ => 0))), (q10, .inr (5, [.ref q13, .ref q14, .ref q15, .ref q16, .int 0])), (q13, .inl (kA 0, 7, .inl (fun _ => 0))), (q14, .inl (kA 0, 7, .inl (fun _ => 0))), (q15, .inl (kA 0, 7, .inl (fun _ => 0))), (q16, .inl (kA 0, 7, .inl (fun _ => 0)))] := hD
  refine lv_aload_n hx hb dX3_init_26 rfl (lv_at hl 0 rfl) ?_
  refine lv_bipush (v := 10) hx hb dX3_init_27 (by decide) ?_
  refine nw_a (atype := .int) (ty := .int) (N' := 10) (a0 := (10, .inl (fun _ => 0))) hx hb (hts _ lk_198) rfl hK hP hD hS hA 0 rfl (va_zi 10 .int rfl) (by decide +kernel) (by decide +kernel) (by decide +kernel) (Nat.le_of_ble_eq_true rfl) (Nat.le_of_ble_eq_true rfl) dX3_init_29 (fun q18 H19 hP hD hS => ?_)
  have hP : va_P (dC, dI) vwCl [(h0, .inr (3, [.ref q1, .ref q10, .null, .null, .null, .int 0, .int 0, .int 0, .int 0])), (q1, .inr (1, [.int 0, .int 0, .int 0, .int 0, .int 0, .ref q4, .ref q5, .ref q6, .ref q7, .ref q8])), (q4, .inl (kA 0, 7, .inl (fun _ => 0))), (q5, .inl (kA 0, 7, .inl (fun _ => 0))), (q6, .inl (kA 0, 8, .inl (fun _ => 0))), (q7, .inl (kA 0, 8, .inl (fun _ => 0))), (q8, .inl (kA 0, 8, .inl (fun _ => 0))), (q10, .inr (5, [.ref q13, .ref q14, .ref q15, .ref q16, .int 0])), (q13, .inl (kA 0, 7, .inl (fun _ => 0))), (q14, .inl (kA 0, 7, .inl (fun _ => 0))), (q15, .inl (kA 0, 7, .inl (fun _ => 0))), (q16, .inl (kA 0, 7, .inl (fun _ => 0))), (q18, .inl (kA 0, 10, .inl (fun _ => 0)))] H19 := hP
  have hD : va_D A [(h0, .inr (3, [.ref q1, .ref q10, .null, .null, .null, .int 0, .int 0, .int 0, .int 0])), (q1, .inr (1, [.int 0, .int 0, .int 0, .int 0, .int 0, .ref q4, .ref q5, .ref q6, .ref q7, .ref q8])), (q4, .inl (kA 0, 7, .inl (fun _ => 0))), (q5, .inl (kA 0, 7, .inl (fun _ => 0))), (q6, .inl (kA 0, 8, .inl (fun _ => 0))), (q7, .inl (kA 0, 8, .inl (fun _ => 0))), (q8, .inl (kA 0, 8, .inl (fun _ => 0))), (q10, .inr (5, [.ref q13, .ref q14, .ref q15, .ref q16, .int 0])), (q13, .inl (kA 0, 7, .inl (fun _ => 0))), (q14, .inl (kA 0, 7, .inl (fun _ => 0))), (q15, .inl (kA 0, 7, .inl (fun _ => 0))), (q16, .inl (kA 0, 7, .inl (fun _ => 0))), (q18, .inl (kA 0, 10, .inl (fun _ => 0)))] := hD
  refine W.widen (k := 12) (n := 91) (Nat.le_of_ble_eq_true rfl) (Nat.le_of_ble_eq_true rfl) ?_
  refine va_putF (D := (dC, dI)) (ci := 3) (v := .ref q18) (ty := .array .int) (C := RX3) (T := TX3) (N := 9) hx hb hts uX3 tyX3 tyX3_ok nmX3 hown hK hP hD hS 0 rfl rfl 2 (by decide) (hts _ lk_316) (fun _ h9 => h9) rfl hin rfl (by decide +kernel) rfl rfl (Nat.le_of_ble_eq_true rfl) dX3_init_31 (fun H20 locs hP hD hS => ?_)
  have hP : va_P (dC, dI) vwCl [(h0, .inr (3, [.ref q1, .ref q10, .ref q18, .null, .null, .int 0, .int 0, .int 0, .int 0])), (q1, .inr (1, [.int 0, .int 0, .int 0, .int 0, .int 0, .ref q4, .ref q5, .ref q6, .ref q7, .ref q8])), (q4, .inl (kA 0, 7, .inl (fun _ => 0))), (q5, .inl (kA 0, 7, .inl (fun _ => 0))), (q6, .inl (kA 0, 8, .inl (fun _ => 0))), (q7, .inl (kA 0, 8, .inl (fun _ => 0))), (q8, .inl (kA 0, 8, .inl (fun _ => 0))), (q10, .inr (5, [.ref q13, .ref q14, .ref q15, .ref q16, .int 0])), (q13, .inl (kA 0, 7, .inl (fun _ => 0))), (q14, .inl (kA 0, 7, .inl (fun _ => 0))), (q15, .inl (kA 0, 7, .inl (fun _ => 0))), (q16, .inl (kA 0, 7, .inl (fun _ => 0))), (q18, .inl (kA 0, 10, .inl (fun _ => 0)))] H20 := hP
  have hD : va_D A [(h0, .inr (3, [.ref q1, .ref q10, .ref q18, .null, .null, .int 0, .int 0, .int 0, .int 0])), (q1, .inr (1, [.int 0, .int 0, .int 0, .int 0, .int 0, .ref q4, .ref q5, .ref q6, .ref q7, .ref q8])), (q4, .inl (kA 0, 7, .inl (fun _ => 0))), (q5, .inl (kA 0, 7, .inl (fun _ => 0))), (q6, .inl (kA 0, 8, .inl (fun _ => 0))), (q7, .inl (kA 0, 8, .inl (fun _ => 0))), (q8, .inl (kA 0, 8, .inl (fun _ => 0))), (q10, .inr (5, [.ref q13, .ref q14, .ref q15, .ref q16, .int 0])), (q13, .inl (kA 0, 7, .inl (fun _ => 0))), (q14, .inl (kA 0, 7, .inl (fun _ => 0))), (q15, .inl (kA 0, 7, .inl (fun _ => 0))), (q16, .inl (kA 0, 7, .inl (fun _ => 0))), (q18, .inl (kA 0, 10, .inl (fun _ => 0)))] := hD
  refine lv_aload_n hx hb dX3_init_34 rfl (lv_at hl 0 rfl) ?_
  refine lv_bipush (v := 10) hx hb dX3_init_35 (by decide) ?_
  refine nw_a (atype := .int) (ty := .int) (N' := 10) (a0 := (10, .inl (fun _ => 0))) hx hb (hts _ lk_198) rfl hK hP hD hS hA 0 rfl (va_zi 10 .int rfl) (by decide +kernel) (by decide +kernel) (by decide +kernel) (Nat.le_of_ble_eq_true rfl) (Nat.le_of_ble_eq_true rfl) dX3_init_37 (fun q21 H22 hP hD hS => ?_)
  have hP : va_P (dC, dI) vwCl [(h0, .inr (3, [.ref q1, .ref q10, .ref q18, .null, .null, .int 0, .int 0, .int 0, .int 0])), (q1, .inr (1, [.int 0, .int 0, .int 0, .int 0, .int 0, .ref q4, .ref q5, .ref q6, .ref q7, .ref q8])), (q4, .inl (kA 0, 7, .inl (fun _ => 0))), (q5, .inl (kA 0, 7, .inl (fun _ => 0))), (q6, .inl (kA 0, 8, .inl (fun _ => 0))), (q7, .inl (kA 0, 8, .inl (fun _ => 0))), (q8, .inl (kA 0, 8, .inl (fun _ => 0))), (q10, .inr (5, [.ref q13, .ref q14, .ref q15, .ref q16, .int 0])), (q13, .inl (kA 0, 7, .inl (fun _ => 0))), (q14, .inl (kA 0, 7, .inl (fun _ => 0))), (q15, .inl (kA 0, 7, .inl (fun _ => 0))), (q16, .inl (kA 0, 7, .inl (fun _ => 0))), (q18, .inl (kA 0, 10, .inl (fun _ => 0))), (q21, .inl (kA 0, 10, .inl (fun _ => 0)))] H22 := hP
  have hD : va_D A [(h0, .inr (3, [.ref q1, .ref q10, .ref q18, .null, .null, .int 0, .int 0, .int 0, .int 0])), (q1, .inr (1, [.int 0, .int 0, .int 0, .int 0, .int 0, .ref q4, .ref q5, .ref q6, .ref q7, .ref q8])), (q4, .inl (kA 0, 7, .inl (fun _ => 0))), (q5, .inl (kA 0, 7, .inl (fun _ => 0))), (q6, .inl (kA 0, 8, .inl (fun _ => 0))), (q7, .inl (kA 0, 8, .inl (fun _ => 0))), (q8, .inl (kA 0, 8, .inl (fun _ => 0))), (q10, .inr (5, [.ref q13, .ref q14, .ref q15, .ref q16, .int 0])), (q13, .inl (kA 0, 7, .inl (fun _ => 0))), (q14, .inl (kA 0, 7, .inl (fun _ => 0))), (q15, .inl (kA 0, 7, .inl (fun _ => 0))), (q16, .inl (kA 0, 7, .inl (fun _ => 0))), (q18, .inl (kA 0, 10, .inl (fun _ => 0))), (q21, .inl (kA 0, 10, .inl (fun _ => 0)))] := hD
  refine W.widen (k := 13) (n := 101) (Nat.le_of_ble_eq_true rfl) (Nat.le_of_ble_eq_true rfl) ?_
  refine va_putF (D := (dC, dI)) (ci := 3) (v := .ref q21) (ty := .array .int) (C := RX3) (T := TX3) (N := 9) hx hb hts uX3 tyX3 tyX3_ok nmX3 hown hK hP hD hS 0 rfl rfl 3 (by decide) (hts _ lk_318) (fun _ h9 => h9) rfl hin rfl (by decide +kernel) rfl rfl (Nat.le_of_ble_eq_true rfl) dX3_init_39 (fun H23 locs hP hD hS => ?_)
  have hP : va_P (dC, dI) vwCl [(h0, .inr (3, [.ref q1, .ref q10, .ref q18, .ref q21, .null, .int 0, .int 0, .int 0, .int 0])), (q1, .inr (1, [.int 0, .int 0, .int 0, .int 0, .int 0, .ref q4, .ref q5, .ref q6, .ref q7, .ref q8])), (q4, .inl (kA 0, 7, .inl (fun _ => 0))), (q5, .inl (kA 0, 7, .inl (fun _ => 0))), (q6, .inl (kA 0, 8, .inl (fun _ => 0))), (q7, .inl (kA 0, 8, .inl (fun _ => 0))), (q8, .inl (kA 0, 8, .inl (fun _ => 0))), (q10, .inr (5, [.ref q13, .ref q14, .ref q15, .ref q16, .int 0])), (q13, .inl (kA 0, 7, .inl (fun _ => 0))), (q14, .inl (kA 0, 7, .inl (fun _ => 0))), (q15, .inl (kA 0, 7, .inl (fun _ => 0))), (q16, .inl (kA 0, 7, .inl (fun _ => 0))), (q18, .inl (kA 0, 10, .inl (fun _ => 0))), (q21, .inl (kA 0, 10, .inl (fun _ => 0)))] H23 := hP
  have hD : va_D A [(h0, .inr (3, [.ref q1, .ref q10, .ref q18, .ref q21, .null, .int 0, .int 0, .int 0, .int 0])), (q1, .inr (1, [.int 0, .int 0, .int 0, .int 0, .int 0, .ref q4, .ref q5, .ref q6, .ref q7, .ref q8])), (q4, .inl (kA 0, 7, .inl (fun _ => 0))), (q5, .inl (kA 0, 7, .inl (fun _ => 0))), (q6, .inl (kA 0, 8, .inl (fun _ => 0))), (q7, .inl (kA 0, 8, .inl (fun _ => 0))), (q8, .inl (kA 0, 8, .inl (fun _ => 0))), (q10, .inr (5, [.ref q13, .ref q14, .ref q15, .ref q16, .int 0])), (q13, .inl (kA 0, 7, .inl (fun _ => 0))), (q14, .inl (kA 0, 7, .inl (fun _ => 0))), (q15, .inl (kA 0, 7, .inl (fun _ => 0))), (q16, .inl (kA 0, 7, .inl (fun _ => 0))), (q18, .inl (kA 0, 10, .inl (fun _ => 0))), (q21, .inl (kA 0, 10, .inl (fun _ => 0)))] := hD
  refine lv_aload_n hx hb dX3_init_42 rfl (lv_at hl 0 rfl) ?_
  refine lv_bipush (v := 10) hx hb dX3_init_43 (by decide) ?_
  refine nw_a (atype := .int) (ty := .int) (N' := 10) (a0 := (10, .inl (fun _ => 0))) hx hb (hts _ lk_198) rfl hK hP hD hS hA 0 rfl (va_zi 10 .int rfl) (by decide +kernel) (by decide +kernel) (by decide +kernel) (Nat.le_of_ble_eq_true rfl) (Nat.le_of_ble_eq_true rfl) dX3_init_45 (fun q24 H25 hP hD hS => ?_)
  have hP : va_P (dC, dI) vwCl [(h0, .inr (3, [.ref q1, .ref q10, .ref q18, .ref q21, .null, .int 0, .int 0, .int 0, .int 0])), (q1, .inr (1, [.int 0, .int 0, .int 0, .int 0, .int 0, .ref q4, .ref q5, .ref q6, .ref q7, .ref q8])), (q4, .inl (kA 0, 7, .inl (fun _ => 0))), (q5, .inl (kA 0, 7, .inl (fun _ => 0))), (q6, .inl (kA 0, 8, .inl (fun _ => 0))), (q7, .inl (kA 0, 8, .inl (fun _ => 0))), (q8, .inl (kA 0, 8, .inl (fun _ => 0))), (q10, .inr (5, [.ref q13, .ref q14, .ref q15, .ref q16, .int 0])), (q13, .inl (kA 0, 7, .inl (fun _ => 0))), (q14, .inl (kA 0, 7, .inl (fun _ => 0))), (q15, .inl (kA 0, 7, .inl (fun _ => 0))), (q16, .inl (kA 0, 7, .inl (fun _ => 0))), (q18, .inl (kA 0, 10, .inl (fun _ => 0))), (q21, .inl (kA 0, 10, .inl (fun _ => 0))), (q24, .inl (kA 0, 10, .inl (fun _ => 0)))] H25 := hP
  have hD : va_D A [(h0, .inr (3, [.ref q1, .ref q10, .ref q18, .ref q21, .null, .int 0, .int 0, .int 0, .int 0])), (q1, .inr (1, [.int 0, .int 0, .int 0, .int 0, .int 0, .ref q4, .ref q5, .ref q6, .ref q7, .ref q8])), (q4, .inl (kA 0, 7, .inl (fun _ => 0))), (q5, .inl (kA 0, 7, .inl (fun _ => 0))), (q6, .inl (kA 0, 8, .inl (fun _ => 0))), (q7, .inl (kA 0, 8, .inl (fun _ => 0))), (q8, .inl (kA 0, 8, .inl (fun _ => 0))), (q10, .inr (5, [.ref q13, .ref q14, .ref q15, .ref q16, .int 0])), (q13, .inl (kA 0, 7, .inl (fun _ => 0))), (q14, .inl (kA 0, 7, .inl (fun _ => 0))), (q15, .inl (kA 0, 7, .inl (fun _ => 0))), (q16, .inl (kA 0, 7, .inl (fun _ => 0))), (q18, .inl (kA 0, 10, .inl (fun _ => 0))), (q21, .inl (kA 0, 10, .inl (fun _ => 0))), (q24, .inl (kA 0, 10, .inl (fun _ => 0)))] := hD
  refine W.widen (k := 14) (n := 111) (Nat.le_of_ble_eq_true rfl) (Nat.le_of_ble_eq_true rfl) ?_
  refine va_putF (D := (dC, dI)) (ci := 3) (v := .ref q24) (ty := .array .int) (C := RX3) (T := TX3) (N := 9) hx hb hts uX3 tyX3 tyX3_ok nmX3 hown hK hP hD hS 0 rfl rfl 4 (by decide) (hts _ lk_320) (fun _ h9 => h9) rfl hin rfl (by decide +kernel) rfl rfl (Nat.le_of_ble_eq_true rfl) dX3_init_47 (fun H26 locs hP hD hS => ?_)
  have hP : va_P (dC, dI) vwCl [(h0, .inr (3, [.ref q1, .ref q10, .ref q18, .ref q21, .ref q24, .int 0, .int 0, .int 0, .int 0])), (q1, .inr (1, [.int 0, .int 0, .int 0, .int 0, .int 0, .ref q4, .ref q5, .ref q6, .ref q7, .ref q8])), (q4, .inl (kA 0, 7, .inl (fun _ => 0))), (q5, .inl (kA 0, 7, .inl (fun _ => 0))), (q6, .inl (kA 0, 8, .inl (fun _ => 0))), (q7, .inl (kA 0, 8, .inl (fun _ => 0))), (q8, .inl (kA 0, 8, .inl (fun _ => 0))), (q10, .inr (5, [.ref q13, .ref q14, .ref q15, .ref q16, .int 0])), (q13, .inl (kA 0, 7, .inl (fun _ => 0))), (q14, .inl (kA 0, 7, .inl (fun _ => 0))), (q15, .inl (kA 0, 7, .inl (fun _ => 0))), (q16, .inl (kA 0, 7, .inl (fun _ => 0))), (q18, .inl (kA 0, 10, .inl (fun _ => 0))), (q21, .inl (kA 0, 10, .inl (fun _ => 0))), (q24, .inl (kA 0, 10, .inl (fun _ => 0)))] H26 := hP
  have hD : va_D A [(h0, .inr (3, [.ref q1, .ref q10, .ref q18, .ref q21, .ref q24, .int 0, .int 0, .int 0, .int 0])), (q1, .inr (1, [.int 0, .int 0, .int 0, .int 0, .int 0, .ref q4, .ref q5, .ref q6, .ref q7, .ref q8])), (q4, .inl (kA 0, 7, .inl (fun _ => 0))), (q5, .inl (kA 0, 7, .inl (fun _ => 0))), (q6, .inl (kA 0, 8, .inl (fun _ => 0))), (q7, .inl (kA 0, 8, .inl (fun _ => 0))), (q8, .inl (kA 0, 8, .inl (fun _ => 0))), (q10, .inr (5, [.ref q13, .ref q14, .ref q15, .ref q16, .int 0])), (q13, .inl (kA 0, 7, .inl (fun _ => 0))), (q14, .inl (kA 0, 7, .inl (fun _ => 0))), (q15, .inl (kA 0, 7, .inl (fun _ => 0))), (q16, .inl (kA 0, 7, .inl (fun _ => 0))), (q18, .inl (kA 0, 10, .inl (fun _ => 0))), (q21, .inl (kA 0, 10, .inl (fun _ => 0))), (q24, .inl (kA 0, 10, .inl (fun _ => 0)))] := hD
  refine lv_aload_n hx hb dX3_init_50 rfl (lv_at hl 0 rfl) ?_
  refine lv_iconst (v := (-1)) hx hb dX3_init_51 (by decide) ?_
  refine va_put (D := (dC, dI)) (ci := 3) (v := .int (-1)) (ty := .int) (C := RX3) (T := TX3) (N := 9) hx hb hts uX3 tyX3 tyX3_ok nmX3 hown hK hP hD hS 0 rfl rfl 6 (by decide) (hts _ lk_324) (fun _ h9 => h9) rfl (by decide +kernel) rfl rfl (Nat.le_of_ble_eq_true rfl) dX3_init_52 (fun H27 locs hP hD hS => ?_)
  have hP : va_P (dC, dI) vwCl [(h0, .inr (3, [.ref q1, .ref q10, .ref q18, .ref q21, .ref q24, .int 0, .int (-1), .int 0, .int 0])), (q1, .inr (1, [.int 0, .int 0, .int 0, .int 0, .int 0, .ref q4, .ref q5, .ref q6, .ref q7, .ref q8])), (q4, .inl (kA 0, 7, .inl (fun _ => 0))), (q5, .inl (kA 0, 7, .inl (fun _ => 0))), (q6, .inl (kA 0, 8, .inl (fun _ => 0))), (q7, .inl (kA 0, 8, .inl (fun _ => 0))), (q8, .inl (kA 0, 8, .inl (fun _ => 0))), (q10, .inr (5, [.ref q13, .ref q14, .ref q15, .ref q16, .int 0])), (q13, .inl (kA 0, 7, .inl (fun _ => 0))), (q14, .inl (kA 0, 7, .inl (fun _ => 0))), (q15, .inl (kA 0, 7, .inl (fun _ => 0))), (q16, .inl (kA 0, 7, .inl (fun _ => 0))), (q18, .inl (kA 0, 10, .inl (fun _ => 0))), (q21, .inl (kA 0, 10, .inl (fun _ => 0))), (q24, .inl (kA 0, 10, .inl (fun _ => 0)))] H27 := hP
  have hD : va_D A [(h0, .inr (3, [.ref q1, .ref q10, .ref q18, .ref q21, .ref q24, .int 0, .int (-1), .int 0, .int 0])), (q1, .inr (1, [.int 0, .int 0, .int 0, .int 0, .int 0, .ref q4, .ref q5, .ref q6, .ref q7, .ref q8])), (q4, .inl (kA 0, 7, .inl (fun _ => 0))), (q5, .inl (kA 0, 7, .inl (fun _ => 0))), (q6, .inl (kA 0, 8, .inl (fun _ => 0))), (q7, .inl (kA 0, 8, .inl (fun _ => 0))), (q8, .inl (kA 0, 8, .inl (fun _ => 0))), (q10, .inr (5, [.ref q13, .ref q14, .ref q15, .ref q16, .int 0])), (q13, .inl (kA 0, 7, .inl (fun _ => 0))), (q14, .inl (kA 0, 7, .inl (fun _ => 0))), (q15, .inl (kA 0, 7, .inl (fun _ => 0))), (q16, .inl (kA 0, 7, .inl (fun _ => 0))), (q18, .inl (kA 0, 10, .inl (fun _ => 0))), (q21, .inl (kA 0, 10, .inl (fun _ => 0))), (q24, .inl (kA 0, 10, .inl (fun _ => 0)))] := hD
  refine W.widen (k := 14) (n := 111) (Nat.le_of_ble_eq_true rfl) (Nat.le_of_ble_eq_true rfl) ?_
  have hP9 := hP.sub (ws' := [(h0, .inr (3, [.ref q1, .ref q10, .ref q18, .ref q21, .ref q24, .int 0, .int (-1), .int 0, .int 0])), (q1, .inr (1, [.int 0, .int 0, .int 0, .int 0, .int 0, .ref q4, .ref q5, .ref q6, .ref q7, .ref q8])), (q10, .inr (5, [.ref q13, .ref q14, .ref q15, .ref q16, .int 0])), (q4, .inl (kA 0, 7, .inl (fun _ => 0))), (q5, .inl (kA 0, 7, .inl (fun _ => 0))), (q6, .inl (kA 0, 8, .inl (fun _ => 0))), (q7, .inl (kA 0, 8, .inl (fun _ => 0))), (q8, .inl (kA 0, 8, .inl (fun _ => 0))), (q13, .inl (kA 0, 7, .inl (fun _ => 0))), (q14, .inl (kA 0, 7, .inl (fun _ => 0))), (q15, .inl (kA 0, 7, .inl (fun _ => 0))), (q16, .inl (kA 0, 7, .inl (fun _ => 0))), (q18, .inl (kA 0, 10, .inl (fun _ => 0))), (q21, .inl (kA 0, 10, .inl (fun _ => 0))), (q24, .inl (kA 0, 10, .inl (fun _ => 0)))]) [0, 1, 7, 2, 3, 4, 5, 6, 8, 9, 10, 11, 12, 13, 14] rfl
  have hD9 := hD.sub (ws' := [(h0, .inr (3, [.ref q1, .ref q10, .ref q18, .ref q21, .ref q24, .int 0, .int (-1), .int 0, .int 0])), (q1, .inr (1, [.int 0, .int 0, .int 0, .int 0, .int 0, .ref q4, .ref q5, .ref q6, .ref q7, .ref q8])), (q10, .inr (5, [.ref q13, .ref q14, .ref q15, .ref q16, .int 0])), (q4, .inl (kA 0, 7, .inl (fun _ => 0))), (q5, .inl (kA 0, 7, .inl (fun _ => 0))), (q6, .inl (kA 0, 8, .inl (fun _ => 0))), (q7, .inl (kA 0, 8, .inl (fun _ => 0))), (q8, .inl (kA 0, 8, .inl (fun _ => 0))), (q13, .inl (kA 0, 7, .inl (fun _ => 0))), (q14, .inl (kA 0, 7, .inl (fun _ => 0))), (q15, .inl (kA 0, 7, .inl (fun _ => 0))), (q16, .inl (kA 0, 7, .inl (fun _ => 0))), (q18, .inl (kA 0, 10, .inl (fun _ => 0))), (q21, .inl (kA 0, 10, .inl (fun _ => 0))), (q24, .inl (kA 0, 10, .inl (fun _ => 0)))]) [0, 1, 7, 2, 3, 4, 5, 6, 8, 9, 10, 11, 12, 13, 14] (by decide) rfl
  exact rM_v hx hb hr hlocks hP9 hD9 hS ⟨q1, q10, q18, q21, q24, q4, q5, q6, q7, q8, q13, q14, q15, q16, rfl⟩ dX3_init_55

set_option maxHeartbeats 4000000 in
set_option maxRecDepth 100000 in
theorem c_X5_init_s (l : Launch) (dC : Nat → ClassId) (dI : Nat → Nat → Nat) (kA : Nat → ClassId) (sz : Nat) (h0 : Nat)  : Met l yX5_init (wsU yX5_init cX5_init 1 none) ({ frames := 1, cells := 4, slots := 28, locals := 12 }) (va_Pc [.ref h0] (PW dC dI kA [(h0, .inr (5, [.null, .null, .null, .null, .int 0]))] sz)) (QU dC dI none (fun w => ∃ (q1 : Nat) (q4 : Nat) (q7 : Nat) (q10 : Nat), w = [(h0, .inr (5, [.ref q1, .ref q4, .ref q7, .ref q10, .int 0]))]) (va_A [(h0, .inr (5, [.null, .null, .null, .null, .int 0]))] sz)) 4 28 (va_A [(h0, .inr (5, [.null, .null, .null, .null, .int 0]))] sz) := by
  refine met_M (own := RX5) (by decide) rfl (Nat.le_of_ble_eq_true rfl) ?_
  intro p e s m below meth c ls A hx hb hr hts hown hlocks hml hin hK hN hA hP hD hS hl
  have hl : lv_has ls 1 [(0, .ref h0)] := hl
  have hP : va_P (dC, dI) vwCl [(h0, .inr (5, [.null, .null, .null, .null, .int 0]))] s.heap := hP
  have hD : va_D A [(h0, .inr (5, [.null, .null, .null, .null, .int 0]))] := hD
  have hin : meth.name = "<init>" := hin
  refine lv_aload_n hx hb dX5_init_0 rfl (lv_at hl 0 rfl) ?_
  refine W.objInit hx hb hown (hts _ lk_276) (hts _ lk_137) (hts _ lk_138) rfl (by rw [hml]; exact hl.1) rfl dX5_init_1 (Nat.le_of_ble_eq_true rfl) (Nat.le_of_ble_eq_true rfl) ?_
  refine W.eq (g2 := F0 m 4 ls []) rfl ?_
  refine lv_aload_n hx hb dX5_init_4 rfl (lv_at hl 0 rfl) ?_
  refine lv_bipush (v := 7) hx hb dX5_init_5 (by decide) ?_
  refine nw_a (atype := .int) (ty := .int) (N' := 7) (a0 := (7, .inl (fun _ => 0))) hx hb (hts _ lk_198) rfl hK hP hD hS hA 0 rfl (va_zi 7 .int rfl) (by decide +kernel) (by decide +kernel) (by decide +kernel) (Nat.le_of_ble_eq_true rfl) (Nat.le_of_ble_eq_true rfl) dX5_init_7 (fun q1 H2 hP hD hS => ?_)
  have hP : va_P (dC, dI) vwCl [(h0, .inr (5, [.null, .null, .null, .null, .int 0])), (q1, .inl (kA 0, 7, .inl (fun _ => 0)))] H2 := hP
  have hD : va_D A [(h0, .inr (5, [.null, .null, .null, .null, .int 0])), (q1, .inl (kA 0, 7, .inl (fun _ => 0)))] := hD
  refine W.widen (k := 1) (n := 7) (Nat.le_of_ble_eq_true rfl) (Nat.le_of_ble_eq_true rfl) ?_
  refine va_putF (D := (dC, dI)) (ci := 5) (v := .ref q1) (ty := .array .int) (C := RX5) (T := TX5) (N := 5) hx hb hts uX5 tyX5 tyX5_ok nmX5 hown hK hP hD hS 0 rfl rfl 0 (by decide) (hts _ lk_277) (fun _ h9 => h9) rfl hin rfl (by decide +kernel) rfl rfl (Nat.le_of_ble_eq_true rfl) dX5_init_9 (fun H3 locs hP hD hS => ?_)
  have hP : va_P (dC, dI) vwCl [(h0, .inr (5, [.ref q1, .null, .null, .null, .int 0])), (q1, .inl (kA 0, 7, .inl (fun _ => 0)))] H3 := hP
  have hD : va_D A [(h0, .inr (5, [.ref q1, .null, .null, .null, .int 0])), (q1, .inl (kA 0, 7, .inl (fun _ => 0)))] := hD
  refine lv_aload_n hx hb dX5_init_12 rfl (lv_at hl 0 rfl) ?_
  refine lv_bipush (v := 7) hx hb dX5_init_13 (by decide) ?_
  refine nw_a (atype := .int) (ty := .int) (N' := 7) (a0 := (7, .inl (fun _ => 0))) hx hb (hts _ lk_198) rfl hK hP hD hS hA 0 rfl (va_zi 7 .int rfl) (by decide +kernel) (by decide +kernel) (by decide +kernel) (Nat.le_of_ble_eq_true rfl) (Nat.le_of_ble_eq_true rfl) dX5_init_15 (fun q4 H5 hP hD hS => ?_)
  have hP : va_P (dC, dI) vwCl [(h0, .inr (5, [.ref q1, .null, .null, .null, .int 0])), (q1, .inl (kA 0, 7, .inl (fun _ => 0))), (q4, .inl (kA 0, 7, .inl (fun _ => 0)))] H5 := hP
  have hD : va_D A [(h0, .inr (5, [.ref q1, .null, .null, .null, .int 0])), (q1, .inl (kA 0, 7, .inl (fun _ => 0))), (q4, .inl (kA 0, 7, .inl (fun _ => 0)))] := hD
  refine W.widen (k := 2) (n := 14) (Nat.le_of_ble_eq_true rfl) (Nat.le_of_ble_eq_true rfl) ?_
  refine va_putF (D := (dC, dI)) (ci := 5) (v := .ref q4) (ty := .array .int) (C := RX5) (T := TX5) (N := 5) hx hb hts uX5 tyX5 tyX5_ok nmX5 hown hK hP hD hS 0 rfl rfl 1 (by decide) (hts _ lk_283) (fun _ h9 => h9) rfl hin rfl (by decide +kernel) rfl rfl (Nat.le_of_ble_eq_true rfl) dX5_init_17 (fun H6 locs hP hD hS => ?_)
  have hP : va_P (dC, dI) vwCl [(h0, .inr (5, [.ref q1, .ref q4, .null, .null, .int 0])), (q1, .inl (kA 0, 7, .inl (fun _ => 0))), (q4, .inl (kA 0, 7, .inl (fun _ => 0)))] H6 := hP
  have hD : va_D A [(h0, .inr (5, [.ref q1, .ref q4, .null, .null, .int 0])), (q1, .inl (kA 0, 7, .inl (fun _ => 0))), (q4, .inl (kA 0, 7, .inl (fun _ => 0)))] := hD
  refine lv_aload_n hx hb dX5_init_20 rfl (lv_at hl 0 rfl) ?_
  refine lv_bipush (v := 7) hx hb dX5_init_21 (by decide) ?_
  refine nw_a (atype := .int) (ty := .int) (N' := 7) (a0 := (7, .inl (fun _ => 0))) hx hb (hts _ lk_198) rfl hK hP hD hS hA 0 rfl (va_zi 7 .int rfl) (by decide +kernel) (by decide +kernel) (by decide +kernel) (Nat.le_of_ble_eq_true rfl) (Nat.le_of_ble_eq_true rfl) dX5_init_23 (fun q7 H8 hP hD hS => ?_)
  have hP : va_P (dC, dI) vwCl [(h0, .inr (5, [.ref q1, .ref q4, .null, .null, .int 0])), (q1, .inl (kA 0, 7, .inl (fun _ => 0))), (q4, .inl (kA 0, 7, .inl (fun _ => 0))), (q7, .inl (kA 0, 7, .inl (fun _ => 0)))] H8 := hP
  have hD : va_D A [(h0, .inr (5, [.ref q1, .ref q4, .null, .null, .int 0])), (q1, .inl (kA 0, 7, .inl (fun _ => 0))), (q4, .inl (kA 0, 7, .inl (fun _ => 0))), (q7, .inl (kA 0, 7, .inl (fun _ => 0)))] := hD
  refine W.widen (k := 3) (n := 21) (Nat.le_of_ble_eq_true rfl) (Nat.le_of_ble_eq_true rfl) ?_
  refine va_putF (D := (dC, dI)) (ci := 5) (v := .ref q7) (ty := .array .int) (C := RX5) (T := TX5) (N := 5) hx hb hts uX5 tyX5 tyX5_ok nmX5 hown hK hP hD hS 0 rfl rfl 2 (by decide) (hts _ lk_289) (fun _ h9 => h9) rfl hin rfl (by decide +kernel) rfl rfl (Nat.le_of_ble_eq_true rfl) dX5_init_25 (fun H9 locs hP hD hS => ?_)
  have hP : va_P (dC, dI) vwCl [(h0, .inr (5, [.ref q1, .ref q4, .ref q7, .null, .int 0])), (q1, .inl (kA 0, 7, .inl (fun _ => 0))), (q4, .inl (kA 0, 7, .inl (fun _ => 0))), (q7, .inl (kA 0, 7, .inl (fun _ => 0)))] H9 := hP
  have hD : va_D A [(h0, .inr (5, [.ref q1, .ref q4, .ref q7, .null, .int 0])), (q1, .inl (kA 0, 7, .inl (fun _ => 0))), (q4, .inl (kA 0, 7, .inl (fun _ => 0))), (q7, .inl (kA 0, 7, .inl (fun _ => 0)))] := hD
  refine lv_aload_n hx hb dX5_init_28 rfl (lv_at hl 0 rfl) ?_
  refine lv_bipush (v := 7) hx hb dX5_init_29 (by decide) ?_
  refine nw_a (atype := .int) (ty := .int) (N' := 7) (a0 := (7, .inl (fun _ => 0))) hx hb (hts _ lk_198) rfl hK hP hD hS hA 0 rfl (va_zi 7 .int rfl) (by decide +kernel) (by decide +kernel) (by decide +kernel) (Nat.le_of_ble_eq_true rfl) (Nat.le_of_ble_eq_true rfl) dX5_init_31 (fun q10 H11 hP hD hS => ?_)
  have hP : va_P (dC, dI) vwCl [(h0, .inr (5, [.ref q1, .ref q4, .ref q7, .null, .int 0])), (q1, .inl (kA 0, 7, .inl (fun _ => 0))), (q4, .inl (kA 0, 7, .inl (fun _ => 0))), (q7, .inl (kA 0, 7, .inl (fun _ => 0))), (q10, .inl (kA 0, 7, .inl (fun _ => 0)))] H11 := hP
  have hD : va_D A [(h0, .inr (5, [.ref q1, .ref q4, .ref q7, .null, .int 0])), (q1, .inl (kA 0, 7, .inl (fun _ => 0))), (q4, .inl (kA 0, 7, .inl (fun _ => 0))), (q7, .inl (kA 0, 7, .inl (fun _ => 0))), (q10, .inl (kA 0, 7, .inl (fun _ => 0)))] := hD
  refine W.widen (k := 4) (n := 28) (Nat.le_of_ble_eq_true rfl) (Nat.le_of_ble_eq_true rfl) ?_
  refine va_putF (D := (dC, dI)) (ci := 5) (v := .ref q10) (ty := .array .int) (C := RX5) (T := TX5) (N := 5) hx hb hts uX5 tyX5 tyX5_ok nmX5 hown hK hP hD hS 0 rfl rfl 3 (by decide) (hts _ lk_293) (fun _ h9 => h9) rfl hin rfl (by decide +kernel) rfl rfl (Nat.le_of_ble_eq_true rfl) dX5_init_33 (fun H12 locs hP hD hS => ?_)
  have hP : va_P (dC, dI) vwCl [(h0, .inr (5, [.ref q1, .ref q4, .ref q7, .ref q10, .int 0])), (q1, .inl (kA 0, 7, .inl (fun _ => 0))), (q4, .inl (kA 0, 7, .inl (fun _ => 0))), (q7, .inl (kA 0, 7, .inl (fun _ => 0))), (q10, .inl (kA 0, 7, .inl (fun _ => 0)))] H12 := hP
  have hD : va_D A [(h0, .inr (5, [.ref q1, .ref q4, .ref q7, .ref q10, .int 0])), (q1, .inl (kA 0, 7, .inl (fun _ => 0))), (q4, .inl (kA 0, 7, .inl (fun _ => 0))), (q7, .inl (kA 0, 7, .inl (fun _ => 0))), (q10, .inl (kA 0, 7, .inl (fun _ => 0)))] := hD
  refine W.widen (k := 4) (n := 28) (Nat.le_of_ble_eq_true rfl) (Nat.le_of_ble_eq_true rfl) ?_
  have hP9 := hP.sub (ws' := [(h0, .inr (5, [.ref q1, .ref q4, .ref q7, .ref q10, .int 0]))]) [0] rfl
  have hD9 := hD.sub (ws' := [(h0, .inr (5, [.ref q1, .ref q4, .ref q7, .ref q10, .int 0]))]) [0] (by decide) rfl
  exact rM_v hx hb hr hlocks hP9 hD9 hS ⟨q1, q4, q7, q10, rfl⟩ dX5_init_36

set_option maxHeartbeats 4000000 in
set_option maxRecDepth 100000 in
theorem c_X7_init (l : Launch) (dC : Nat → ClassId) (dI : Nat → Nat → Nat) (kA : Nat → ClassId) (sz : Nat) (h0 : Nat)  : Met l yX7_init (wsU yX7_init cX7_init 2 none) ({ frames := 2, cells := 101, slots := 680, locals := 32 }) (va_Pc [.ref h0] (PW dC dI kA [(h0, .inr (7, [.null, .int 0, .int 0]))] sz)) (QU dC dI none (fun w => ∃ (q1 : Nat), w = [(h0, .inr (7, [.ref q1, .int 0, .int 0]))]) (va_A [(h0, .inr (7, [.null, .int 0, .int 0]))] sz)) 101 680 (va_A [(h0, .inr (7, [.null, .int 0, .int 0]))] sz) := by
  refine met_M (own := RX7) (by decide) rfl (Nat.le_of_ble_eq_true rfl) ?_
  intro p e s m below meth c ls A hx hb hr hts hown hlocks hml hin hK hN hA hP hD hS hl
  have hl : lv_has ls 2 [(0, .ref h0)] := hl
  have hP : va_P (dC, dI) vwCl [(h0, .inr (7, [.null, .int 0, .int 0]))] s.heap := hP
  have hD : va_D A [(h0, .inr (7, [.null, .int 0, .int 0]))] := hD
  have hin : meth.name = "<init>" := hin
  refine lv_aload_n hx hb dX7_init_0 rfl (lv_at hl 0 rfl) ?_
  refine W.objInit hx hb hown (hts _ lk_354) (hts _ lk_137) (hts _ lk_138) rfl (by rw [hml]; exact hl.1) rfl dX7_init_1 (Nat.le_of_ble_eq_true rfl) (Nat.le_of_ble_eq_true rfl) ?_
  refine W.eq (g2 := F0 m 4 ls []) rfl ?_
  refine lv_aload_n hx hb dX7_init_4 rfl (lv_at hl 0 rfl) ?_
  refine lv_bipush (v := 20) hx hb dX7_init_5 (by decide) ?_
  refine nw_q (N' := 20) hx hb hown (hts _ lk_355) hN.2.2.2.1 hK hP hD hS hA 6 rfl (by decide +kernel) (by decide +kernel) (by decide +kernel) (Nat.le_of_ble_eq_true rfl) (Nat.le_of_ble_eq_true rfl) dX7_init_7 (fun q1 H2 hP hD hS => ?_)
  have hP : va_P (dC, dI) vwCl [(h0, .inr (7, [.null, .int 0, .int 0])), (q1, .inl (kA 6, 20, .inr (.inr (.inr (.inr (fun _ => none))))))] H2 := hP
  have hD : va_D A [(h0, .inr (7, [.null, .int 0, .int 0])), (q1, .inl (kA 6, 20, .inr (.inr (.inr (.inr (fun _ => none))))))] := hD
  refine W.widen (k := 1) (n := 20) (Nat.le_of_ble_eq_true rfl) (Nat.le_of_ble_eq_true rfl) ?_
  refine va_putF (D := (dC, dI)) (ci := 7) (v := .ref q1) (ty := .array (.object "LinenName$Linen")) (C := RX7) (T := TX7) (N := 3) hx hb hts uX7 tyX7 tyX7_ok nmX7 hown hK hP hD hS 0 rfl rfl 0 (by decide) (hts _ lk_358) (fun _ h9 => h9) rfl hin rfl (by decide +kernel) rfl rfl (Nat.le_of_ble_eq_true rfl) dX7_init_10 (fun H3 locs hP hD hS => ?_)
  have hP : va_P (dC, dI) vwCl [(h0, .inr (7, [.ref q1, .int 0, .int 0])), (q1, .inl (kA 6, 20, .inr (.inr (.inr (.inr (fun _ => none))))))] H3 := hP
  have hD : va_D A [(h0, .inr (7, [.ref q1, .int 0, .int 0])), (q1, .inl (kA 6, 20, .inr (.inr (.inr (.inr (fun _ => none))))))] := hD
  refine lv_iconst (v := 0) hx hb dX7_init_13 (by decide) ?_
  refine lv_istore_n (lv' := [(1, .int 0), (0, .ref h0)]) hx hb dX7_init_14 rfl hl (by decide) rfl (fun ls hl => ?_)
  refine lv_iload_n hx hb dX7_init_15 rfl (lv_at hl 0 rfl) ?_
  refine lv_bipush (v := 20) hx hb dX7_init_16 (by decide) ?_
  refine lv_icmp_ge (tgt := 40) hx hb dX7_init_18 (by decide) (fun c1 => ?_) (fun c1 => ?_)
  · exact False.elim (by revert c1; decide)
  refine lv_aload_n hx hb dX7_init_21 rfl (lv_at hl 1 rfl) ?_
  refine va_get (D := (dC, dI)) (ci := 7) (v := .ref q1) (C := RX7) (T := TX7) (N := 3) hx hb hts uX7 hown hK hP 0 rfl rfl 0 (by decide) (hts _ lk_358) (fun _ h9 => h9) rfl dX7_init_22 ?_
  refine lv_iload_n hx hb dX7_init_25 rfl (lv_at hl 0 rfl) ?_
  refine va_new (D := (dC, dI)) (ci := 5) (fs := [.null, .null, .null, .null, .int 0]) (C := RX5) (T := TX5) (N := 5) hx hb hts uX5 tyX5 tyX5_ok hown (hts _ lk_355) (hts _ lk_272) (hts _ lk_116) hK hP hD hS hA rfl vX5 (Nat.le_of_ble_eq_true rfl) (Nat.le_of_ble_eq_true rfl) dX7_init_26 (fun q4 H5 hP hD hS => ?_)
  have hP : va_P (dC, dI) vwCl [(h0, .inr (7, [.ref q1, .int 0, .int 0])), (q1, .inl (kA 6, 20, .inr (.inr (.inr (.inr (fun _ => none)))))), (q4, .inr (5, [.null, .null, .null, .null, .int 0]))] H5 := hP
  have hD : va_D A [(h0, .inr (7, [.ref q1, .int 0, .int 0])), (q1, .inl (kA 6, 20, .inr (.inr (.inr (.inr (fun _ => none)))))), (q4, .inr (5, [.null, .null, .null, .null, .int 0]))] := hD
  refine W.widen (k := 2) (n := 25) (Nat.le_of_ble_eq_true rfl) (Nat.le_of_ble_eq_true rfl) ?_
  refine lv_dup hx hb dX7_init_29 rfl ?_
  have hPc := hP.sub (ws' := [(q4, .inr (5, [.null, .null, .null, .null, .int 0]))]) [2] rfl
  have hDc := hD.sub (ws' := [(q4, .inr (5, [.null, .null, .null, .null, .int 0]))]) [2] (by decide) rfl
  refine cM (wc := [(q4, .inr (5, [.null, .null, .null, .null, .int 0]))]) (wr := [(h0, .inr (7, [.ref q1, .int 0, .int 0])), (q1, .inl (kA 6, 20, .inr (.inr (.inr (.inr (fun _ => none))))))]) [2] [0, 1] hP hD hS hA rfl rfl (by decide) (by decide) (va_runIN (As := []) (rest := [.ref q4, .int 0, .ref q1]) ⟨hx, hb, hml, hown, hts⟩ (c_X5_init_s l dC dI kA H5.size q4 ) ⟨va_cnB 0 hts (gI lk_275) rfl rfl rfl (hN.at 12 rfl) (hts _ lk_116) (by decide +kernel) ⟨Nat.le_of_ble_eq_true rfl, Nat.le_of_ble_eq_true rfl⟩, rfl, hts _ lk_274⟩ (pw_s hPc hDc hK hN) rfl rfl hl.1 rfl (lv_room (Nat.le_of_ble_eq_true rfl)) dX7_init_30 ⟨Nat.le_of_ble_eq_true rfl, Nat.le_of_ble_eq_true rfl⟩) (fun w1 H6 locs hw hP hD hS => ?_)
  obtain ⟨q7, q8, q9, q10, rfl⟩ := hw
  have hP : va_P (dC, dI) vwCl [(h0, .inr (7, [.ref q1, .int 0, .int 0])), (q1, .inl (kA 6, 20, .inr (.inr (.inr (.inr (fun _ => none)))))), (q4, .inr (5, [.ref q7, .ref q8, .ref q9, .ref q10, .int 0]))] H6 := hP
  have hD : va_D A [(h0, .inr (7, [.ref q1, .int 0, .int 0])), (q1, .inl (kA 6, 20, .inr (.inr (.inr (.inr (fun _ => none)))))), (q4, .inr (5, [.ref q7, .ref q8, .ref q9, .ref q10, .int 0]))] := hD
  refine W.widen (k := 6) (n := 53) (Nat.le_of_ble_eq_true rfl) (Nat.le_of_ble_eq_true rfl) ?_
  refine W.eq (g2 := F0 m 33 ls [.ref q4, .int 0, .ref q1]) rfl ?_
  refine va_astq (D := (dC, dI)) hx hb hK hP hD hS 1 6 2 5 rfl rfl rfl rfl (vpi (by decide +kernel)) dX7_init_33 (fun H11 locs hP hD hS => ?_)
  have hP : va_P (dC, dI) vwCl [(h0, .inr (7, [.ref q1, .int 0, .int 0])), (q1, .inl (kA 6, 20, .inr (.inr (.inr (.inr (va_up (fun _ => none) (0 : Int32).toNatClampNeg (some q4))))))), (q4, .inr (5, [.ref q7, .ref q8, .ref q9, .ref q10, .int 0]))] H11 := hP
  have hD : va_D A [(h0, .inr (7, [.ref q1, .int 0, .int 0])), (q1, .inl (kA 6, 20, .inr (.inr (.inr (.inr (va_up (fun _ => none) (0 : Int32).toNatClampNeg (some q4))))))), (q4, .inr (5, [.ref q7, .ref q8, .ref q9, .ref q10, .int 0]))] := hD
  generalize (va_up (fun _ => none) (0 : Int32).toNatClampNeg (some q4)) = f12 at hP hD
  have hP := hP.sub (ws' := [(h0, .inr (7, [.ref q1, .int 0, .int 0])), (q1, .inl (kA 6, 20, .inr (.inr (.inr (.inr f12)))))]) [0, 1] rfl
  have hD := hD.sub (ws' := [(h0, .inr (7, [.ref q1, .int 0, .int 0])), (q1, .inl (kA 6, 20, .inr (.inr (.inr (.inr f12)))))]) [0, 1] (by decide) rfl
  refine lv_iinc (v := 1) (lv' := [(1, .int 1), (0, .ref h0)]) hx hb dX7_init_34 hl (k := 0) rfl (by decide) (by decide) rfl (fun ls hl => ?_)
  refine lv_goto (tgt := 15) hx hb dX7_init_37 (by decide) ?_
  refine lv_iload_n hx hb dX7_init_15 rfl (lv_at hl 0 rfl) ?_
  refine lv_bipush (v := 20) hx hb dX7_init_16 (by decide) ?_
  refine lv_icmp_ge (tgt := 40) hx hb dX7_init_18 (by decide) (fun c2 => ?_) (fun c2 => ?_)
  · exact False.elim (by revert c2; decide)
  refine lv_aload_n hx hb dX7_init_21 rfl (lv_at hl 1 rfl) ?_
  refine va_get (D := (dC, dI)) (ci := 7) (v := .ref q1) (C := RX7) (T := TX7) (N := 3) hx hb hts uX7 hown hK hP 0 rfl rfl 0 (by decide) (hts _ lk_358) (fun _ h9 => h9) rfl dX7_init_22 ?_
  refine lv_iload_n hx hb dX7_init_25 rfl (lv_at hl 0 rfl) ?_
  refine va_new (D := (dC, dI)) (ci := 5) (fs := [.null, .null, .null, .null, .int 0]) (C := RX5) (T := TX5) (N := 5) hx hb hts uX5 tyX5 tyX5_ok hown (hts _ lk_355) (hts _ lk_272) (hts _ lk_116) hK hP hD hS hA rfl vX5 (Nat.le_of_ble_eq_true rfl) (Nat.le_of_ble_eq_true rfl) dX7_init_26 (fun q13 H14 hP hD hS => ?_)
  have hP : va_P (dC, dI) vwCl [(h0, .inr (7, [.ref q1, .int 0, .int 0])), (q1, .inl (kA 6, 20, .inr (.inr (.inr (.inr f12))))), (q13, .inr (5, [.null, .null, .null, .null, .int 0]))] H14 := hP
  have hD : va_D A [(h0, .inr (7, [.ref q1, .int 0, .int 0])), (q1, .inl (kA 6, 20, .inr (.inr (.inr (.inr f12))))), (q13, .inr (5, [.null, .null, .null, .null, .int 0]))] := hD
  refine W.widen (k := 7) (n := 58) (Nat.le_of_ble_eq_true rfl) (Nat.le_of_ble_eq_true rfl) ?_
  refine lv_dup hx hb dX7_init_29 rfl ?_
  have hPc := hP.sub (ws' := [(q13, .inr (5, [.null, .null, .null, .null, .int 0]))]) [2] rfl
  have hDc := hD.sub (ws' := [(q13, .inr (5, [.null, .null, .null, .null, .int 0]))]) [2] (by decide) rfl
  refine cM (wc := [(q13, .inr (5, [.null, .null, .null, .null, .int 0]))]) (wr := [(h0, .inr (7, [.ref q1, .int 0, .int 0])), (q1, .inl (kA 6, 20, .inr (.inr (.inr (.inr f12)))))]) [2] [0, 1] hP hD hS hA rfl rfl (by decide) (by decide) (va_runIN (As := []) (rest := [.ref q13, .int 1, .ref q1]) ⟨hx, hb, hml, hown, hts⟩ (c_X5_init_s l dC dI kA H14.size q13 ) ⟨va_cnB 0 hts (gI lk_275) rfl rfl rfl (hN.at 12 rfl) (hts _ lk_116) (by decide +kernel) ⟨Nat.le_of_ble_eq_true rfl, Nat.le_of_ble_eq_true rfl⟩, rfl, hts _ lk_274⟩ (pw_s hPc hDc hK hN) rfl rfl hl.1 rfl (lv_room (Nat.le_of_ble_eq_true rfl)) dX7_init_30 ⟨Nat.le_of_ble_eq_true rfl, Nat.le_of_ble_eq_true rfl⟩) (fun w1 H15 locs hw hP hD hS => ?_)
  obtain ⟨q16, q17, q18, q19, rfl⟩ := hw
  have hP : va_P (dC, dI) vwCl [(h0, .inr (7, [.ref q1, .int 0, .int 0])), (q1, .inl (kA 6, 20, .inr (.inr (.inr (.inr f12))))), (q13, .inr (5, [.ref q16, .ref q17, .ref q18, .ref q19, .int 0]))] H15 := hP
  have hD : va_D A [(h0, .inr (7, [.ref q1, .int 0, .int 0])), (q1, .inl (kA 6, 20, .inr (.inr (.inr (.inr f12))))), (q13, .inr (5, [.ref q16, .ref q17, .ref q18, .ref q19, .int 0]))] := hD
  refine W.widen (k := 11) (n := 86) (Nat.le_of_ble_eq_true rfl) (Nat.le_of_ble_eq_true rfl) ?_
  refine W.eq (g2 := F0 m 33 ls [.ref q13, .int 1, .ref q1]) rfl ?_
  refine va_astq (D := (dC, dI)) hx hb hK hP hD hS 1 6 2 5 rfl rfl rfl rfl (vpi (by decide +kernel)) dX7_init_33 (fun H20 locs hP hD hS => ?_)
  have hP : va_P (dC, dI) vwCl [(h0, .inr (7, [.ref q1, .int 0, .int 0])), (q1, .inl (kA 6, 20, .inr (.inr (.inr (.inr (va_up f12 (1 : Int32).toNatClampNeg (some q13))))))), (q13, .inr (5, [.ref q16, .ref q17, .ref q18, .ref q19, .int 0]))] H20 := hP
  have hD : va_D A [(h0, .inr (7, [.ref q1, .int 0, .int 0])), (q1, .inl (kA 6, 20, .inr (.inr (.inr (.inr (va_up f12 (1 : Int32).toNatClampNeg (some q13))))))), (q13, .inr (5, [.ref q16, .ref q17, .ref q18, .ref q19, .int 0]))] := hD
  generalize (va_up f12 (1 : Int32).toNatClampNeg (some q13)) = f21 at hP hD
  have hP := hP.sub (ws' := [(h0, .inr (7, [.ref q1, .int 0, .int 0])), (q1, .inl (kA 6, 20, .inr (.inr (.inr (.inr f21)))))]) [0, 1] rfl
  have hD := hD.sub (ws' := [(h0, .inr (7, [.ref q1, .int 0, .int 0])), (q1, .inl (kA 6, 20, .inr (.inr (.inr (.inr f21)))))]) [0, 1] (by decide) rfl
  refine lv_iinc (v := 2) (lv' := [(1, .int 2), (0, .ref h0)]) hx hb dX7_init_34 hl (k := 0) rfl (by decide) (by decide) rfl (fun ls hl => ?_)
  refine lv_goto (tgt := 15) hx hb dX7_init_37 (by decide) ?_
  refine lv_iload_n hx hb dX7_init_15 rfl (lv_at hl 0 rfl) ?_
  refine lv_bipush (v := 20) hx hb dX7_init_16 (by decide) ?_
  refine lv_icmp_ge (tgt := 40) hx hb dX7_init_18 (by decide) (fun c3 => ?_) (fun c3 => ?_)
  · exact False.elim (by revert c3; decide)
  refine lv_aload_n hx hb dX7_init_21 rfl (lv_at hl 1 rfl) ?_
  refine va_get (D := (dC, dI)) (ci := 7) (v := .ref q1) (C := RX7) (T := TX7) (N := 3) hx hb hts uX7 hown hK hP 0 rfl rfl 0 (by decide) (hts _ lk_358) (fun _ h9 => h9) rfl dX7_init_22 ?_
  refine lv_iload_n hx hb dX7_init_25 rfl (lv_at hl 0 rfl) ?_
  refine va_new (D := (dC, dI)) (ci := 5) (fs := [.null, .null, .null, .null, .int 0]) (C := RX5) (T := TX5) (N := 5) hx hb hts uX5 tyX5 tyX5_ok hown (hts _ lk_355) (hts _ lk_272) (hts _ lk_116) hK hP hD hS hA rfl vX5 (Nat.le_of_ble_eq_true rfl) (Nat.le_of_ble_eq_true rfl) dX7_init_26 (fun q22 H23 hP hD hS => ?_)
  have hP : va_P (dC, dI) vwCl [(h0, .inr (7, [.ref q1, .int 0, .int 0])), (q1, .inl (kA 6, 20, .inr (.inr (.inr (.inr f21))))), (q22, .inr (5, [.null, .null, .null, .null, .int 0]))] H23 := hP
  have hD : va_D A [(h0, .inr (7, [.ref q1, .int 0, .int 0])), (q1, .inl (kA 6, 20, .inr (.inr (.inr (.inr f21))))), (q22, .inr (5, [.null, .null, .null, .null, .int 0]))] := hD
  refine W.widen (k := 12) (n := 91) (Nat.le_of_ble_eq_true rfl) (Nat.le_of_ble_eq_true rfl) ?_
  refine lv_dup hx hb dX7_init_29 rfl ?_
  have hPc := hP.sub (ws' := [(q22, .inr (5, [.null, .null, .null, .null, .int 0]))]) [2] rfl
  have hDc := hD.sub (ws' := [(q22, .inr (5, [.null, .null, .null, .null, .int 0]))]) [2] (by decide) rfl
  refine cM (wc := [(q22, .inr (5, [.null, .null, .null, .null, .int 0]))]) (wr := [(h0, .inr (7, [.ref q1, .int 0, .int 0])), (q1, .inl (kA 6, 20, .inr (.inr (.inr (.inr f21)))))]) [2] [0, 1] hP hD hS hA rfl rfl (by decide) (by decide) (va_runIN (As := []) (rest := [.ref q22, .int 2, .ref q1]) ⟨hx, hb, hml, hown, hts⟩ (c_X5_init_s l dC dI kA H23.size q22 ) ⟨va_cnB 0 hts (gI lk_275) rfl rfl rfl (hN.at 12 rfl) (hts _ lk_116) (by decide +kernel) ⟨Nat.le_of_ble_eq_true rfl, Nat.le_of_ble_eq_true rfl⟩, rfl, hts _ lk_274⟩ (pw_s hPc hDc hK hN) rfl rfl hl.1 rfl (lv_room (Nat.le_of_ble_eq_true rfl)) dX7_init_30 ⟨Nat.le_of_ble_eq_true rfl, Nat.le_of_ble_eq_true rfl⟩) (fun w1 H24 locs hw hP hD hS => ?_)
  obtain ⟨q25, q26, q27, q28, rfl⟩ := hw
  have hP : va_P (dC, dI) vwCl [(h0, .inr (7, [.ref q1, .int 0, .int 0])), (q1, .inl (kA 6, 20, .inr (.inr (.inr (.inr f21))))), (q22, .inr (5, [.ref q25, .ref q26, .ref q27, .ref q28, .int 0]))] H24 := hP
  have hD : va_D A [(h0, .inr (7, [.ref q1, .int 0, .int 0])), (q1, .inl (kA 6, 20, .inr (.inr (.inr (.inr f21))))), (q22, .inr (5, [.ref q25, .ref q26, .ref q27, .ref q28, .int 0]))] := hD
  refine W.widen (k := 16) (n := 119) (Nat.le_of_ble_eq_true rfl) (Nat.le_of_ble_eq_true rfl) ?_
  refine W.eq (g2 := F0 m 33 ls [.ref q22, .int 2, .ref q1]) rfl ?_
  refine va_astq (D := (dC, dI)) hx hb hK hP hD hS 1 6 2 5 rfl rfl rfl rfl (vpi (by decide +kernel)) dX7_init_33 (fun H29 locs hP hD hS => ?_)
  have hP : va_P (dC, dI) vwCl [(h0, .inr (7, [.ref q1, .int 0, .int 0])), (q1, .inl (kA 6, 20, .inr (.inr (.inr (.inr (va_up f21 (2 : Int32).toNatClampNeg (some q22))))))), (q22, .inr (5, [.ref q25, .ref q26, .ref q27, .ref q28, .int 0]))] H29 := hP
  have hD : va_D A [(h0, .inr (7, [.ref q1, .int 0, .int 0])), (q1, .inl (kA 6, 20, .inr (.inr (.inr (.inr (va_up f21 (2 : Int32).toNatClampNeg (some q22))))))), (q22, .inr (5, [.ref q25, .ref q26, .ref q27, .ref q28, .int 0]))] := hD
  generalize (va_up f21 (2 : Int32).toNatClampNeg (some q22)) = f30 at hP hD
  have hP := hP.sub (ws' := [(h0, .inr (7, [.ref q1, .int 0, .int 0])), (q1, .inl (kA 6, 20, .inr (.inr (.inr (.inr f30)))))]) [0, 1] rfl
  have hD := hD.sub (ws' := [(h0, .inr (7, [.ref q1, .int 0, .int 0])), (q1, .inl (kA 6, 20, .inr (.inr (.inr (.inr f30)))))]) [0, 1] (by decide) rfl
  refine lv_iinc (v := 3) (lv' := [(1, .int 3), (0, .ref h0)]) hx hb dX7_init_34 hl (k := 0) rfl (by decide) (by decide) rfl (fun ls hl => ?_)
  refine lv_goto (tgt := 15) hx hb dX7_init_37 (by decide) ?_
  refine lv_iload_n hx hb dX7_init_15 rfl (lv_at hl 0 rfl) ?_
  refine lv_bipush (v := 20) hx hb dX7_init_16 (by decide) ?_
  refine lv_icmp_ge (tgt := 40) hx hb dX7_init_18 (by decide) (fun c4 => ?_) (fun c4 => ?_)
  · exact False.elim (by revert c4; decide)
  refine lv_aload_n hx hb dX7_init_21 rfl (lv_at hl 1 rfl) ?_
  refine va_get (D := (dC, dI)) (ci := 7) (v := .ref q1) (C := RX7) (T := TX7) (N := 3) hx hb hts uX7 hown hK hP 0 rfl rfl 0 (by decide) (hts _ lk_358) (fun _ h9 => h9) rfl dX7_init_22 ?_
  refine lv_iload_n hx hb dX7_init_25 rfl (lv_at hl 0 rfl) ?_
  refine va_new (D := (dC, dI)) (ci := 5) (fs := [.null, .null, .null, .null, .int 0]) (C := RX5) (T := TX5) (N := 5) hx hb hts uX5 tyX5 tyX5_ok hown (hts _ lk_355) (hts _ lk_272) (hts _ lk_116) hK hP hD hS hA rfl vX5 (Nat.le_of_ble_eq_true rfl) (Nat.le_of_ble_eq_true rfl) dX7_init_26 (fun q31 H32 hP hD hS => ?_)
  have hP : va_P (dC, dI) vwCl [(h0, .inr (7, [.ref q1, .int 0, .int 0])), (q1, .inl (kA 6, 20, .inr (.inr (.inr (.inr f30))))), (q31, .inr (5, [.null, .null, .null, .null, .int 0]))] H32 := hP
  have hD : va_D A [(h0, .inr (7, [.ref q1, .int 0, .int 0])), (q1, .inl (kA 6, 20, .inr (.inr (.inr (.inr f30))))), (q31, .inr (5, [.null, .null, .null, .null, .int 0]))] := hD
  refine W.widen (k := 17) (n := 124) (Nat.le_of_ble_eq_true rfl) (Nat.le_of_ble_eq_true rfl) ?_
  refine lv_dup hx hb dX7_init_29 rfl ?_
  have hPc := hP.sub (ws' := [(q31, .inr (5, [.null, .null, .null, .null, .int 0]))]) [2] rfl
  have hDc := hD.sub (ws' := [(q31, .inr (5, [.null, .null, .null, .null, .int 0]))]) [2] (by decide) rfl
  refine cM (wc := [(q31, .inr (5, [.null, .null, .null, .null, .int 0]))]) (wr := [(h0, .inr (7, [.ref q1, .int 0, .int 0])), (q1, .inl (kA 6, 20, .inr (.inr (.inr (.inr f30)))))]) [2] [0, 1] hP hD hS hA rfl rfl (by decide) (by decide) (va_runIN (As := []) (rest := [.ref q31, .int 3, .ref q1]) ⟨hx, hb, hml, hown, hts⟩ (c_X5_init_s l dC dI kA H32.size q31 ) ⟨va_cnB 0 hts (gI lk_275) rfl rfl rfl (hN.at 12 rfl) (hts _ lk_116) (by decide +kernel) ⟨Nat.le_of_ble_eq_true rfl, Nat.le_of_ble_eq_true rfl⟩, rfl, hts _ lk_274⟩ (pw_s hPc hDc hK hN) rfl rfl hl.1 rfl (lv_room (Nat.le_of_ble_eq_true rfl)) dX7_init_30 ⟨Nat.le_of_ble_eq_true rfl, Nat.le_of_ble_eq_true rfl⟩) (fun w1 H33 locs hw hP hD hS => ?_)
  obtain ⟨q34, q35, q36, q37, rfl⟩ := hw
  have hP : va_P (dC, dI) vwCl [(h0, .inr (7, [.ref q1, .int 0, .int 0])), (q1, .inl (kA 6, 20, .inr (.inr (.inr (.inr f30))))), (q31, .inr (5, [.ref q34, .ref q35, .ref q36, .ref q37, .int 0]))] H33 := hP
  have hD : va_D A [(h0, .inr (7, [.ref q1, .int 0, .int 0])), (q1, .inl (kA 6, 20, .inr (.inr (.inr (.inr f30))))), (q31, .inr (5, [.ref q34, .ref q35, .ref q36, .ref q37, .int 0]))] := hD
  refine W.widen (k := 21) (n := 152) (Nat.le_of_ble_eq_true rfl) (Nat.le_of_ble_eq_true rfl) ?_
  refine W.eq (g2 := F0 m 33 ls [.ref q31, .int 3, .ref q1]) rfl ?_
  refine va_astq (D := (dC, dI)) hx hb hK hP hD hS 1 6 2 5 rfl rfl rfl rfl (vpi (by decide +kernel)) dX7_init_33 (fun H38 locs hP hD hS => ?_)
  have hP : va_P (dC, dI) vwCl [(h0, .inr (7, [.ref q1, .int 0, .int 0])), (q1, .inl (kA 6, 20, .inr (.inr (.inr (.inr (va_up f30 (3 : Int32).toNatClampNeg (some q31))))))), (q31, .inr (5, [.ref q34, .ref q35, .ref q36, .ref q37, .int 0]))] H38 := hP
  have hD : va_D A [(h0, .inr (7, [.ref q1, .int 0, .int 0])), (q1, .inl (kA 6, 20, .inr (.inr (.inr (.inr (va_up f30 (3 : Int32).toNatClampNeg (some q31))))))), (q31, .inr (5, [.ref q34, .ref q35, .ref q36, .ref q37, .int 0]))] := hD
  generalize (va_up f30 (3 : Int32).toNatClampNeg (some q31)) = f39 at hP hD
  have hP := hP.sub (ws' := [(h0, .inr (7, [.ref q1, .int 0, .int 0])), (q1, .inl (kA 6, 20, .inr (.inr (.inr (.inr f39)))))]) [0, 1] rfl
  have hD := hD.sub (ws' := [(h0, .inr (7, [.ref q1, .int 0, .int 0])), (q1, .inl (kA 6, 20, .inr (.inr (.inr (.inr f39)))))]) [0, 1] (by decide) rfl
  refine lv_iinc (v := 4) (lv' := [(1, .int 4), (0, .ref h0)]) hx hb dX7_init_34 hl (k := 0) rfl (by decide) (by decide) rfl (fun ls hl => ?_)
  refine lv_goto (tgt := 15) hx hb dX7_init_37 (by decide) ?_
  refine lv_iload_n hx hb dX7_init_15 rfl (lv_at hl 0 rfl) ?_
  refine lv_bipush (v := 20) hx hb dX7_init_16 (by decide) ?_
  refine lv_icmp_ge (tgt := 40) hx hb dX7_init_18 (by decide) (fun c5 => ?_) (fun c5 => ?_)
  · exact False.elim (by revert c5; decide)
  refine lv_aload_n hx hb dX7_init_21 rfl (lv_at hl 1 rfl) ?_
  refine va_get (D := (dC, dI)) (ci := 7) (v := .ref q1) (C := RX7) (T := TX7) (N := 3) hx hb hts uX7 hown hK hP 0 rfl rfl 0 (by decide) (hts _ lk_358) (fun _ h9 => h9) rfl dX7_init_22 ?_
  refine lv_iload_n hx hb dX7_init_25 rfl (lv_at hl 0 rfl) ?_
  refine va_new (D := (dC, dI)) (ci := 5) (fs := [.null, .null, .null, .null, .int 0]) (C := RX5) (T := TX5) (N := 5) hx hb hts uX5 tyX5 tyX5_ok hown (hts _ lk_355) (hts _ lk_272) (hts _ lk_116) hK hP hD hS hA rfl vX5 (Nat.le_of_ble_eq_true rfl) (Nat.le_of_ble_eq_true rfl) dX7_init_26 (fun q40 H41 hP hD hS => ?_)
  have hP : va_P (dC, dI) vwCl [(h0, .inr (7, [.ref q1, .int 0, .int 0])), (q1, .inl (kA 6, 20, .inr (.inr (.inr (.inr f39))))), (q40, .inr (5, [.null, .null, .null, .null, .int 0]))] H41 := hP
  have hD : va_D A [(h0, .inr (7, [.ref q1, .int 0, .int 0])), (q1, .inl (kA 6, 20, .inr (.inr (.inr (.inr f39))))), (q40, .inr (5, [.null, .null, .null, .null, .int 0]))] := hD
  refine W.widen (k := 22) (n := 157) (Nat.le_of_ble_eq_true rfl) (Nat.le_of_ble_eq_true rfl) ?_
  refine lv_dup hx hb dX7_init_29 rfl ?_
  have hPc := hP.sub (ws' := [(q40, .inr (5, [.null, .null, .null, .null, .int 0]))]) [2] rfl
  have hDc := hD.sub (ws' := [(q40, .inr (5, [.null, .null, .null, .null, .int 0]))]) [2] (by decide) rfl
  refine cM (wc := [(q40, .inr (5, [.null, .null, .null, .null, .int 0]))]) (wr := [(h0, .inr (7, [.ref q1, .int 0, .int 0])), (q1, .inl (kA 6, 20, .inr (.inr (.inr (.inr f39)))))]) [2] [0, 1] hP hD hS hA rfl rfl (by decide) (by decide) (va_runIN (As := []) (rest := [.ref q40, .int 4, .ref q1]) ⟨hx, hb, hml, hown, hts⟩ (c_X5_init_s l dC dI kA H41.size q40 ) ⟨va_cnB 0 hts (gI lk_275) rfl rfl rfl (hN.at 12 rfl) (hts _ lk_116) (by decide +kernel) ⟨Nat.le_of_ble_eq_true rfl, Nat.le_of_ble_eq_true rfl⟩, rfl, hts _ lk_274⟩ (pw_s hPc hDc hK hN) rfl rfl hl.1 rfl (lv_room (Nat.le_of_ble_eq_true rfl)) dX7_init_30 ⟨Nat.le_of_ble_eq_true rfl, Nat.le_of_ble_eq_true rfl⟩) (fun w1 H42 locs hw hP hD hS => ?_)
  obtain ⟨q43, q44, q45, q46, rfl⟩ := hw
  have hP : va_P (dC, dI) vwCl [(h0, .inr (7, [.ref q1, .int 0, .int 0])), (q1, .inl (kA 6, 20, .inr (.inr (.inr (.inr f39))))), (q40, .inr (5, [.ref q43, .ref q44, .ref q45, .ref q46, .int 0]))] H42 := hP
  have hD : va_D A [(h0, .inr (7, [.ref q1, .int 0, .int 0])), (q1, .inl (kA 6, 20, .inr (.inr (.inr (.inr f39))))), (q40, .inr (5, [.ref q43, .ref q44, .ref q45, .ref q46, .int 0]))] := hD
  refine W.widen (k := 26) (n := 185) (Nat.le_of_ble_eq_true rfl) (Nat.le_of_ble_eq_true rfl) ?_
  refine W.eq (g2 := F0 m 33 ls [.ref q40, .int 4, .ref q1]) rfl ?_
  refine va_astq (D := (dC, dI)) hx hb hK hP hD hS 1 6 2 5 rfl rfl rfl rfl (vpi (by decide +kernel)) dX7_init_33 (fun H47 locs hP hD hS => ?_)
  have hP : va_P (dC, dI) vwCl [(h0, .inr (7, [.ref q1, .int 0, .int 0])), (q1, .inl (kA 6, 20, .inr (.inr (.inr (.inr (va_up f39 (4 : Int32).toNatClampNeg (some q40))))))), (q40, .inr (5, [.ref q43, .ref q44, .ref q45, .ref q46, .int 0]))] H47 := hP
  have hD : va_D A [(h0, .inr (7, [.ref q1, .int 0, .int 0])), (q1, .inl (kA 6, 20, .inr (.inr (.inr (.inr (va_up f39 (4 : Int32).toNatClampNeg (some q40))))))), (q40, .inr (5, [.ref q43, .ref q44, .ref q45, .ref q46, .int 0]))] := hD
  generalize (va_up f39 (4 : Int32).toNatClampNeg (some q40)) = f48 at hP hD
  have hP := hP.sub (ws' := [(h0, .inr (7, [.ref q1, .int 0, .int 0])), (q1, .inl (kA 6, 20, .inr (.inr (.inr (.inr f48)))))]) [0, 1] rfl
  have hD := hD.sub (ws' := [(h0, .inr (7, [.ref q1, .int 0, .int 0])), (q1, .inl (kA 6, 20, .inr (.inr (.inr (.inr f48)))))]) [0, 1] (by decide) rfl
  refine lv_iinc (v := 5) (lv' := [(1, .int 5), (0, .ref h0)]) hx hb dX7_init_34 hl (k := 0) rfl (by decide) (by decide) rfl (fun ls hl => ?_)
  refine lv_goto (tgt := 15) hx hb dX7_init_37 (by decide) ?_
  refine lv_iload_n hx hb dX7_init_15 rfl (lv_at hl 0 rfl) ?_
  refine lv_bipush (v := 20) hx hb dX7_init_16 (by decide) ?_
  refine lv_icmp_ge (tgt := 40) hx hb dX7_init_18 (by decide) (fun c6 => ?_) (fun c6 => ?_)
  · exact False.elim (by revert c6; decide)
  refine lv_aload_n hx hb dX7_init_21 rfl (lv_at hl 1 rfl) ?_
  refine va_get (D := (dC, dI)) (ci := 7) (v := .ref q1) (C := RX7) (T := TX7) (N := 3) hx hb hts uX7 hown hK hP 0 rfl rfl 0 (by decide) (hts _ lk_358) (fun _ h9 => h9) rfl dX7_init_22 ?_
  refine lv_iload_n hx hb dX7_init_25 rfl (lv_at hl 0 rfl) ?_
  refine va_new (D := (dC, dI)) (ci := 5) (fs := [.null, .null, .null, .null, .int 0]) (C := RX5) (T := TX5) (N := 5) hx hb hts uX5 tyX5 tyX5_ok hown (hts _ lk_355) (hts _ lk_272) (hts _ lk_116) hK hP hD hS hA rfl vX5 (Nat.le_of_ble_eq_true rfl) (Nat.le_of_ble_eq_true rfl) dX7_init_26 (fun q49 H50 hP hD hS => ?_)
  have hP : va_P (dC, dI) vwCl [(h0, .inr (7, [.ref q1, .int 0, .int 0])), (q1, .inl (kA 6, 20, .inr (.inr (.inr (.inr f48))))), (q49, .inr (5, [.null, .null, .null, .null, .int 0]))] H50 := hP
  have hD : va_D A [(h0, .inr (7, [.ref q1, .int 0, .int 0])), (q1, .inl (kA 6, 20, .inr (.inr (.inr (.inr f48))))), (q49, .inr (5, [.null, .null, .null, .null, .int 0]))] := hD
  refine W.widen (k := 27) (n := 190) (Nat.le_of_ble_eq_true rfl) (Nat.le_of_ble_eq_true rfl) ?_
  refine lv_dup hx hb dX7_init_29 rfl ?_
  have hPc := hP.sub (ws' := [(q49, .inr (5, [.null, .null, .null, .null, .int 0]))]) [2] rfl
  have hDc := hD.sub (ws' := [(q49, .inr (5, [.null, .null, .null, .null, .int 0]))]) [2] (by decide) rfl
  refine cM (wc := [(q49, .inr (5, [.null, .null, .null, .null, .int 0]))]) (wr := [(h0, .inr (7, [.ref q1, .int 0, .int 0])), (q1, .inl (kA 6, 20, .inr (.inr (.inr (.inr f48)))))]) [2] [0, 1] hP hD hS hA rfl rfl (by decide) (by decide) (va_runIN (As := []) (rest := [.ref q49, .int 5, .ref q1]) ⟨hx, hb, hml, hown, hts⟩ (c_X5_init_s l dC dI kA H50.size q49 ) ⟨va_cnB 0 hts (gI lk_275) rfl rfl rfl (hN.at 12 rfl) (hts _ lk_116) (by decide +kernel) ⟨Nat.le_of_ble_eq_true rfl, Nat.le_of_ble_eq_true rfl⟩, rfl, hts _ lk_274⟩ (pw_s hPc hDc hK hN) rfl rfl hl.1 rfl (lv_room (Nat.le_of_ble_eq_true rfl)) dX7_init_30 ⟨Nat.le_of_ble_eq_true rfl, Nat.le_of_ble_eq_true rfl⟩) (fun w1 H51 locs hw hP hD hS => ?_)
  obtain ⟨q52, q53, q54, q55, rfl⟩ := hw
  have hP : va_P (dC, dI) vwCl [(h0, .inr (7, [.ref q1, .int 0, .int 0])), (q1, .inl (kA 6, 20, .inr (.inr (.inr (.inr f48))))), (q49, .inr (5, [.ref q52, .ref q53, .ref q54, .ref q55, .int 0]))] H51 := hP
  have hD : va_D A [(h0, .inr (7, [.ref q1, .int 0, .int 0])), (q1, .inl (kA 6, 20, .inr (.inr (.inr (.inr f48))))), (q49, .inr (5, [.ref q52, .ref q53, .ref q54, .ref q55, .int 0]))] := hD
  refine W.widen (k := 31) (n := 218) (Nat.le_of_ble_eq_true rfl) (Nat.le_of_ble_eq_true rfl) ?_
  refine W.eq (g2 := F0 m 33 ls [.ref q49, .int 5, .ref q1]) rfl ?_
  refine va_astq (D := (dC, dI)) hx hb hK hP hD hS 1 6 2 5 rfl rfl rfl rfl (vpi (by decide +kernel)) dX7_init_33 (fun H56 locs hP hD hS => ?_)
  have hP : va_P (dC, dI) vwCl [(h0, .inr (7, [.ref q1, .int 0, .int 0])), (q1, .inl (kA 6, 20, .inr (.inr (.inr (.inr (va_up f48 (5 : Int32).toNatClampNeg (some q49))))))), (q49, .inr (5, [.ref q52, .ref q53, .ref q54, .ref q55, .int 0]))] H56 := hP
  have hD : va_D A [(h0, .inr (7, [.ref q1, .int 0, .int 0])), (q1, .inl (kA 6, 20, .inr (.inr (.inr (.inr (va_up f48 (5 : Int32).toNatClampNeg (some q49))))))), (q49, .inr (5, [.ref q52, .ref q53, .ref q54, .ref q55, .int 0]))] := hD
  generalize (va_up f48 (5 : Int32).toNatClampNeg (some q49)) = f57 at hP hD
  have hP := hP.sub (ws' := [(h0, .inr (7, [.ref q1, .int 0, .int 0])), (q1, .inl (kA 6, 20, .inr (.inr (.inr (.inr f57)))))]) [0, 1] rfl
  have hD := hD.sub (ws' := [(h0, .inr (7, [.ref q1, .int 0, .int 0])), (q1, .inl (kA 6, 20, .inr (.inr (.inr (.inr f57)))))]) [0, 1] (by decide) rfl
  refine lv_iinc (v := 6) (lv' := [(1, .int 6), (0, .ref h0)]) hx hb dX7_init_34 hl (k := 0) rfl (by decide) (by decide) rfl (fun ls hl => ?_)
  refine lv_goto (tgt := 15) hx hb dX7_init_37 (by decide) ?_
  refine lv_iload_n hx hb dX7_init_15 rfl (lv_at hl 0 rfl) ?_
  refine lv_bipush (v := 20) hx hb dX7_init_16 (by decide) ?_
  refine lv_icmp_ge (tgt := 40) hx hb dX7_init_18 (by decide) (fun c7 => ?_) (fun c7 => ?_)
  · exact False.elim (by revert c7; decide)
  refine lv_aload_n hx hb dX7_init_21 rfl (lv_at hl 1 rfl) ?_
  refine va_get (D := (dC, dI)) (ci := 7) (v := .ref q1) (C := RX7) (T := TX7) (N := 3) hx hb hts uX7 hown hK hP 0 rfl rfl 0 (by decide) (hts _ lk_358) (fun _ h9 => h9) rfl dX7_init_22 ?_
  refine lv_iload_n hx hb dX7_init_25 rfl (lv_at hl 0 rfl) ?_
  refine va_new (D := (dC, dI)) (ci := 5) (fs := [.null, .null, .null, .null, .int 0]) (C := RX5) (T := TX5) (N := 5) hx hb hts uX5 tyX5 tyX5_ok hown (hts _ lk_355) (hts _ lk_272) (hts _ lk_116) hK hP hD hS hA rfl vX5 (Nat.le_of_ble_eq_true rfl) (Nat.le_of_ble_eq_true rfl) dX7_init_26 (fun q58 H59 hP hD hS => ?_)
  have hP : va_P (dC, dI) vwCl [(h0, .inr (7, [.ref q1, .int 0, .int 0])), (q1, .inl (kA 6, 20, .inr (.inr (.inr (.inr f57))))), (q58, .inr (5, [.null, .null, .null, .null, .int 0]))] H59 := hP
  have hD : va_D A [(h0, .inr (7, [.ref q1, .int 0, .int 0])), (q1, .inl (kA 6, 20, .inr (.inr (.inr (.inr f57))))), (q58, .inr (5, [.null, .null, .null, .null, .int 0]))] := hD
  refine W.widen (k := 32) (n := 223) (Nat.le_of_ble_eq_true rfl) (Nat.le_of_ble_eq_true rfl) ?_
  refine lv_dup hx hb dX7_init_29 rfl ?_
  have hPc := hP.sub (ws' := [(q58, .inr (5, [.null, .null, .null, .null, .int 0]))]) [2] rfl
  have hDc := hD.sub (ws' := [(q58, .inr (5, [.null, .null, .null, .null, .int 0]))]) [2] (by decide) rfl
  refine cM (wc := [(q58, .inr (5, [.null, .null, .null, .null, .int 0]))]) (wr := [(h0, .inr (7, [.ref q1, .int 0, .int 0])), (q1, .inl (kA 6, 20, .inr (.inr (.inr (.inr f57)))))]) [2] [0, 1] hP hD hS hA rfl rfl (by decide) (by decide) (va_runIN (As := []) (rest := [.ref q58, .int 6, .ref q1]) ⟨hx, hb, hml, hown, hts⟩ (c_X5_init_s l dC dI kA H59.size q58 ) ⟨va_cnB 0 hts (gI lk_275) rfl rfl rfl (hN.at 12 rfl) (hts _ lk_116) (by decide +kernel) ⟨Nat.le_of_ble_eq_true rfl, Nat.le_of_ble_eq_true rfl⟩, rfl, hts _ lk_274⟩ (pw_s hPc hDc hK hN) rfl rfl hl.1 rfl (lv_room (Nat.le_of_ble_eq_true rfl)) dX7_init_30 ⟨Nat.le_of_ble_eq_true rfl, Nat.le_of_ble_eq_true rfl⟩) (fun w1 H60 locs hw hP hD hS => ?_)
  obtain ⟨q61, q62, q63, q64, rfl⟩ := hw
  have hP : va_P (dC, dI) vwCl [(h0, .inr (7, [.ref q1, .int 0, .int 0])), (q1, .inl (kA 6, 20, .inr (.inr (.inr (.inr f57))))), (q58, .inr (5, [.ref q61, .ref q62, .ref q63, .ref q64, .int 0]))] H60 := hP
  have hD : va_D A [(h0, .inr (7, [.ref q1, .int 0, .int 0])), (q1, .inl (kA 6, 20, .inr (.inr (.inr (.inr f57))))), (q58, .inr (5, [.ref q61, .ref q62, .ref q63, .ref q64, .int 0]))] := hD
  refine W.widen (k := 36) (n := 251) (Nat.le_of_ble_eq_true rfl) (Nat.le_of_ble_eq_true rfl) ?_
  refine W.eq (g2 := F0 m 33 ls [.ref q58, .int 6, .ref q1]) rfl ?_
  refine va_astq (D := (dC, dI)) hx hb hK hP hD hS 1 6 2 5 rfl rfl rfl rfl (vpi (by decide +kernel)) dX7_init_33 (fun H65 locs hP hD hS => ?_)
  have hP : va_P (dC, dI) vwCl [(h0, .inr (7, [.ref q1, .int 0, .int 0])), (q1, .inl (kA 6, 20, .inr (.inr (.inr (.inr (va_up f57 (6 : Int32).toNatClampNeg (some q58))))))), (q58, .inr (5, [.ref q61, .ref q62, .ref q63, .ref q64, .int 0]))] H65 := hP
  have hD : va_D A [(h0, .inr (7, [.ref q1, .int 0, .int 0])), (q1, .inl (kA 6, 20, .inr (.inr (.inr (.inr (va_up f57 (6 : Int32).toNatClampNeg (some q58))))))), (q58, .inr (5, [.ref q61, .ref q62, .ref q63, .ref q64, .int 0]))] := hD
  generalize (va_up f57 (6 : Int32).toNatClampNeg (some q58)) = f66 at hP hD
  have hP := hP.sub (ws' := [(h0, .inr (7, [.ref q1, .int 0, .int 0])), (q1, .inl (kA 6, 20, .inr (.inr (.inr (.inr f66)))))]) [0, 1] rfl
  have hD := hD.sub (ws' := [(h0, .inr (7, [.ref q1, .int 0, .int 0])), (q1, .inl (kA 6, 20, .inr (.inr (.inr (.inr f66)))))]) [0, 1] (by decide) rfl
  refine lv_iinc (v := 7) (lv' := [(1, .int 7), (0, .ref h0)]) hx hb dX7_init_34 hl (k := 0) rfl (by decide) (by decide) rfl (fun ls hl => ?_)
  refine lv_goto (tgt := 15) hx hb dX7_init_37 (by decide) ?_
  refine lv_iload_n hx hb dX7_init_15 rfl (lv_at hl 0 rfl) ?_
  refine lv_bipush (v := 20) hx hb dX7_init_16 (by decide) ?_
  refine lv_icmp_ge (tgt := 40) hx hb dX7_init_18 (by decide) (fun c8 => ?_) (fun c8 => ?_)
  · exact False.elim (by revert c8; decide)
  refine lv_aload_n hx hb dX7_init_21 rfl (lv_at hl 1 rfl) ?_
  refine va_get (D := (dC, dI)) (ci := 7) (v := .ref q1) (C := RX7) (T := TX7) (N := 3) hx hb hts uX7 hown hK hP 0 rfl rfl 0 (by decide) (hts _ lk_358) (fun _ h9 => h9) rfl dX7_init_22 ?_
  refine lv_iload_n hx hb dX7_init_25 rfl (lv_at hl 0 rfl) ?_
  refine va_new (D := (dC, dI)) (ci := 5) (fs := [.null, .null, .null, .null, .int 0]) (C := RX5) (T := TX5) (N := 5) hx hb hts uX5 tyX5 tyX5_ok hown (hts _ lk_355) (hts _ lk_272) (hts _ lk_116) hK hP hD hS hA rfl vX5 (Nat.le_of_ble_eq_true rfl) (Nat.le_of_ble_eq_true rfl) dX7_init_26 (fun q67 H68 hP hD hS => ?_)
  have hP : va_P (dC, dI) vwCl [(h0, .inr (7, [.ref q1, .int 0, .int 0])), (q1, .inl (kA 6, 20, .inr (.inr (.inr (.inr f66))))), (q67, .inr (5, [.null, .null, .null, .null, .int 0]))] H68 := hP
  have hD : va_D A [(h0, .inr (7, [.ref q1, .int 0, .int 0])), (q1, .inl (kA 6, 20, .inr (.inr (.inr (.inr f66))))), (q67, .inr (5, [.null, .null, .null, .null, .int 0]))] := hD
  refine W.widen (k := 37) (n := 256) (Nat.le_of_ble_eq_true rfl) (Nat.le_of_ble_eq_true rfl) ?_
  refine lv_dup hx hb dX7_init_29 rfl ?_
  have hPc := hP.sub (ws' := [(q67, .inr (5, [.null, .null, .null, .null, .int 0]))]) [2] rfl
  have hDc := hD.sub (ws' := [(q67, .inr (5, [.null, .null, .null, .null, .int 0]))]) [2] (by decide) rfl
  refine cM (wc := [(q67, .inr (5, [.null, .null, .null, .null, .int 0]))]) (wr := [(h0, .inr (7, [.ref q1, .int 0, .int 0])), (q1, .inl (kA 6, 20, .inr (.inr (.inr (.inr f66)))))]) [2] [0, 1] hP hD hS hA rfl rfl (by decide) (by decide) (va_runIN (As := []) (rest := [.ref q67, .int 7, .ref q1]) ⟨hx, hb, hml, hown, hts⟩ (c_X5_init_s l dC dI kA H68.size q67 ) ⟨va_cnB 0 hts (gI lk_275) rfl rfl rfl (hN.at 12 rfl) (hts _ lk_116) (by decide +kernel) ⟨Nat.le_of_ble_eq_true rfl, Nat.le_of_ble_eq_true rfl⟩, rfl, hts _ lk_274⟩ (pw_s hPc hDc hK hN) rfl rfl hl.1 rfl (lv_room (Nat.le_of_ble_eq_true rfl)) dX7_init_30 ⟨Nat.le_of_ble_eq_true rfl, Nat.le_of_ble_eq_true rfl⟩) (fun w1 H69 locs hw hP hD hS => ?_)
  obtain ⟨q70, q71, q72, q73, rfl⟩ := hw
  have hP : va_P (dC, dI) vwCl [(h0, .inr (7, [.ref q1, .int 0, .int 0])), (q1, .inl (kA 6, 20, .inr (.inr (.inr (.inr f66))))), (q67, .inr (5, [.ref q70, .ref q71, .ref q72, .ref q73, .int 0]))] H69 := hP
  have hD : va_D A [(h0, .inr (7, [.ref q1, .int 0, .int 0])), (q1, .inl (kA 6, 20, .inr (.inr (.inr (.inr f66))))), (q67, .inr (5, [.ref q70, .ref q71, .ref q72, .ref q73, .int 0]))] := hD
  refine W.widen (k := 41) (n := 284) (Nat.le_of_ble_eq_true rfl) (Nat.le_of_ble_eq_true rfl) ?_
  refine W.eq (g2 := F0 m 33 ls [.ref q67, .int 7, .ref q1]) rfl ?_
  refine va_astq (D := (dC, dI)) hx hb hK hP hD hS 1 6 2 5 rfl rfl rfl rfl (vpi (by decide +kernel)) dX7_init_33 (fun H74 locs hP hD hS => ?_)
  have hP : va_P (dC, dI) vwCl [(h0, .inr (7, [.ref q1, .int 0, .int 0])), (q1, .inl (kA 6, 20, .inr (.inr (.inr (.inr (va_up f66 (7 : Int32).toNatClampNeg (some q67))))))), (q67, .inr (5, [.ref q70, .ref q71, .ref q72, .ref q73, .int 0]))] H74 := hP
  have hD : va_D A [(h0, .inr (7, [.ref q1, .int 0, .int 0])), (q1, .inl (kA 6, 20, .inr (.inr (.inr (.inr (va_up f66 (7 : Int32).toNatClampNeg (some q67))))))), (q67, .inr (5, [.ref q70, .ref q71, .ref q72, .ref q73, .int 0]))] := hD
  generalize (va_up f66 (7 : Int32).toNatClampNeg (some q67)) = f75 at hP hD
  have hP := hP.sub (ws' := [(h0, .inr (7, [.ref q1, .int 0, .int 0])), (q1, .inl (kA 6, 20, .inr (.inr (.inr (.inr f75)))))]) [0, 1] rfl
  have hD := hD.sub (ws' := [(h0, .inr (7, [.ref q1, .int 0, .int 0])), (q1, .inl (kA 6, 20, .inr (.inr (.inr (.inr f75)))))]) [0, 1] (by decide) rfl
  refine lv_iinc (v := 8) (lv' := [(1, .int 8), (0, .ref h0)]) hx hb dX7_init_34 hl (k := 0) rfl (by decide) (by decide) rfl (fun ls hl => ?_)
  refine lv_goto (tgt := 15) hx hb dX7_init_37 (by decide) ?_
  refine lv_iload_n hx hb dX7_init_15 rfl (lv_at hl 0 rfl) ?_
  refine lv_bipush (v := 20) hx hb dX7_init_16 (by decide) ?_
  refine lv_icmp_ge (tgt := 40) hx hb dX7_init_18 (by decide) (fun c9 => ?_) (fun c9 => ?_)
  · exact False.elim (by revert c9; decide)
  refine lv_aload_n hx hb dX7_init_21 rfl (lv_at hl 1 rfl) ?_
  refine va_get (D := (dC, dI)) (ci := 7) (v := .ref q1) (C := RX7) (T := TX7) (N := 3) hx hb hts uX7 hown hK hP 0 rfl rfl 0 (by decide) (hts _ lk_358) (fun _ h9 => h9) rfl dX7_init_22 ?_
  refine lv_iload_n hx hb dX7_init_25 rfl (lv_at hl 0 rfl) ?_
  refine va_new (D := (dC, dI)) (ci := 5) (fs := [.null, .null, .null, .null, .int 0]) (C := RX5) (T := TX5) (N := 5) hx hb hts uX5 tyX5 tyX5_ok hown (hts _ lk_355) (hts _ lk_272) (hts _ lk_116) hK hP hD hS hA rfl vX5 (Nat.le_of_ble_eq_true rfl) (Nat.le_of_ble_eq_true rfl) dX7_init_26 (fun q76 H77 hP hD hS => ?_)
  have hP : va_P (dC, dI) vwCl [(h0, .inr (7, [.ref q1, .int 0, .int 0])), (q1, .inl (kA 6, 20, .inr (.inr (.inr (.inr f75))))), (q76, .inr (5, [.null, .null, .null, .null, .int 0]))] H77 := hP
  have hD : va_D A [(h0, .inr (7, [.ref q1, .int 0, .int 0])), (q1, .inl (kA 6, 20, .inr (.inr (.inr (.inr f75))))), (q76, .inr (5, [.null, .null, .null, .null, .int 0]))] := hD
  refine W.widen (k := 42) (n := 289) (Nat.le_of_ble_eq_true rfl) (Nat.le_of_ble_eq_true rfl) ?_
  refine lv_dup hx hb dX7_init_29 rfl ?_
  have hPc := hP.sub (ws' := [(q76, .inr (5, [.null, .null, .null, .null, .int 0]))]) [2] rfl
  have hDc := hD.sub (ws' := [(q76, .inr (5, [.null, .null, .null, .null, .int 0]))]) [2] (by decide) rfl
  refine cM (wc := [(q76, .inr (5, [.null, .null, .null, .null, .int 0]))]) (wr := [(h0, .inr (7, [.ref q1, .int 0, .int 0])), (q1, .inl (kA 6, 20, .inr (.inr (.inr (.inr f75)))))]) [2] [0, 1] hP hD hS hA rfl rfl (by decide) (by decide) (va_runIN (As := []) (rest := [.ref q76, .int 8, .ref q1]) ⟨hx, hb, hml, hown, hts⟩ (c_X5_init_s l dC dI kA H77.size q76 ) ⟨va_cnB 0 hts (gI lk_275) rfl rfl rfl (hN.at 12 rfl) (hts _ lk_116) (by decide +kernel) ⟨Nat.le_of_ble_eq_true rfl, Nat.le_of_ble_eq_true rfl⟩, rfl, hts _ lk_274⟩ (pw_s hPc hDc hK hN) rfl rfl hl.1 rfl (lv_room (Nat.le_of_ble_eq_true rfl)) dX7_init_30 ⟨Nat.le_of_ble_eq_true rfl, Nat.le_of_ble_eq_true rfl⟩) (fun w1 H78 locs hw hP hD hS => ?_)
  obtain ⟨q79, q80, q81, q82, rfl⟩ := hw
  have hP : va_P (dC, dI) vwCl [(h0, .inr (7, [.ref q1, .int 0, .int 0])), (q1, .inl (kA 6, 20, .inr (.inr (.inr (.inr f75))))), (q76, .inr (5, [.ref q79, .ref q80, .ref q81, .ref q82, .int 0]))] H78 := hP
  have hD : va_D A [(h0, .inr (7, [.ref q1, .int 0, .int 0])), (q1, .inl (kA 6, 20, .inr (.inr (.inr (.inr f75))))), (q76, .inr (5, [.ref q79, .ref q80, .ref q81, .ref q82, .int 0]))] := hD
  refine W.widen (k := 46) (n := 317) (Nat.le_of_ble_eq_true rfl) (Nat.le_of_ble_eq_true rfl) ?_
  refine W.eq (g2 := F0 m 33 ls [.ref q76, .int 8, .ref q1]) rfl ?_
  refine va_astq (D := (dC, dI)) hx hb hK hP hD hS 1 6 2 5 rfl rfl rfl rfl (vpi (by decide +kernel)) dX7_init_33 (fun H83 locs hP hD hS => ?_)
  have hP : va_P (dC, dI) vwCl [(h0, .inr (7, [.ref q1, .int 0, .int 0])), (q1, .inl (kA 6, 20, .inr (.inr (.inr (.inr (va_up f75 (8 : Int32).toNatClampNeg (some q76))))))), (q76, .inr (5, [.ref q79, .ref q80, .ref q81, .ref q82, .int 0]))] H83 := hP
  have hD : va_D A [(h0, .inr (7, [.ref q1, .int 0, .int 0])), (q1, .inl (kA 6, 20, .inr (.inr (.inr (.inr (va_up f75 (8 : Int32).toNatClampNeg (some q76))))))), (q76, .inr (5, [.ref q79, .ref q80, .ref q81, .ref q82, .int 0]))] := hD
  generalize (va_up f75 (8 : Int32).toNatClampNeg (some q76)) = f84 at hP hD
  have hP := hP.sub (ws' := [(h0, .inr (7, [.ref q1, .int 0, .int 0])), (q1, .inl (kA 6, 20, .inr (.inr (.inr (.inr f84)))))]) [0, 1] rfl
  have hD := hD.sub (ws' := [(h0, .inr (7, [.ref q1, .int 0, .int 0])), (q1, .inl (kA 6, 20, .inr (.inr (.inr (.inr f84)))))]) [0, 1] (by decide) rfl
  refine lv_iinc (v := 9) (lv' := [(1, .int 9), (0, .ref h0)]) hx hb dX7_init_34 hl (k := 0) rfl (by decide) (by decide) rfl (fun ls hl => ?_)
  refine lv_goto (tgt := 15) hx hb dX7_init_37 (by decide) ?_
  refine lv_iload_n hx hb dX7_init_15 rfl (lv_at hl 0 rfl) ?_
  refine lv_bipush (v := 20) hx hb dX7_init_16 (by decide) ?_
  refine lv_icmp_ge (tgt := 40) hx hb dX7_init_18 (by decide) (fun c10 => ?_) (fun c10 => ?_)
  · exact False.elim (by revert c10; decide)
  refine lv_aload_n hx hb dX7_init_21 rfl (lv_at hl 1 rfl) ?_
  refine va_get (D := (dC, dI)) (ci := 7) (v := .ref q1) (C := RX7) (T := TX7) (N := 3) hx hb hts uX7 hown hK hP 0 rfl rfl 0 (by decide) (hts _ lk_358) (fun _ h9 => h9) rfl dX7_init_22 ?_
  refine lv_iload_n hx hb dX7_init_25 rfl (lv_at hl 0 rfl) ?_
  refine va_new (D := (dC, dI)) (ci := 5) (fs := [.null, .null, .null, .null, .int 0]) (C := RX5) (T := TX5) (N := 5) hx hb hts uX5 tyX5 tyX5_ok hown (hts _ lk_355) (hts _ lk_272) (hts _ lk_116) hK hP hD hS hA rfl vX5 (Nat.le_of_ble_eq_true rfl) (Nat.le_of_ble_eq_true rfl) dX7_init_26 (fun q85 H86 hP hD hS => ?_)
  have hP : va_P (dC, dI) vwCl [(h0, .inr (7, [.ref q1, .int 0, .int 0])), (q1, .inl (kA 6, 20, .inr (.inr (.inr (.inr f84))))), (q85, .inr (5, [.null, .null, .null, .null, .int 0]))] H86 := hP
  have hD : va_D A [(h0, .inr (7, [.ref q1, .int 0, .int 0])), (q1, .inl (kA 6, 20, .inr (.inr (.inr (.inr f84))))), (q85, .inr (5, [.null, .null, .null, .null, .int 0]))] := hD
  refine W.widen (k := 47) (n := 322) (Nat.le_of_ble_eq_true rfl) (Nat.le_of_ble_eq_true rfl) ?_
  refine lv_dup hx hb dX7_init_29 rfl ?_
  have hPc := hP.sub (ws' := [(q85, .inr (5, [.null, .null, .null, .null, .int 0]))]) [2] rfl
  have hDc := hD.sub (ws' := [(q85, .inr (5, [.null, .null, .null, .null, .int 0]))]) [2] (by decide) rfl
  refine cM (wc := [(q85, .inr (5, [.null, .null, .null, .null, .int 0]))]) (wr := [(h0, .inr (7, [.ref q1, .int 0, .int 0])), (q1, .inl (kA 6, 20, .inr (.inr (.inr (.inr f84)))))]) [2] [0, 1] hP hD hS hA rfl rfl (by decide) (by decide) (va_runIN (As := []) (rest := [.ref q85, .int 9, .ref q1]) ⟨hx, hb, hml, hown, hts⟩ (c_X5_init_s l dC dI kA H86.size q85 ) ⟨va_cnB 0 hts (gI lk_275) rfl rfl rfl (hN.at 12 rfl) (hts _ lk_116) (by decide +kernel) ⟨Nat.le_of_ble_eq_true rfl, Nat.le_of_ble_eq_true rfl⟩, rfl, hts _ lk_274⟩ (pw_s hPc hDc hK hN) rfl rfl hl.1 rfl (lv_room (Nat.le_of_ble_eq_true rfl)) dX7_init_30 ⟨Nat.le_of_ble_eq_true rfl, Nat.le_of_ble_eq_true rfl⟩) (fun w1 H87 locs hw hP hD hS => ?_)
  obtain ⟨q88, q89, q90, q91, rfl⟩ := hw
  have hP : va_P (dC, dI) vwCl [(h0, .inr (7, [.ref q1, .int 0, .int 0])), (q1, .inl (kA 6, 20, .inr (.inr (.inr (.inr f84))))), (q85, .inr (5, [.ref q88, .ref q89, .ref q90, .ref q91, .int 0]))] H87 := hP
  have hD : va_D A [(h0, .inr (7, [.ref q1, .int 0, .int 0])), (q1, .inl (kA 6, 20, .inr (.inr (.inr (.inr f84))))), (q85, .inr (5, [.ref q88, .ref q89, .ref q90, .ref q91, .int 0]))] := hD
  refine W.widen (k := 51) (n := 350) (Nat.le_of_ble_eq_true rfl) (Nat.le_of_ble_eq_true rfl) ?_
  refine W.eq (g2 := F0 m 33 ls [.ref q85, .int 9, .ref q1]) rfl ?_
  refine va_astq (D := (dC, dI)) hx hb hK hP hD hS 1 6 2 5 rfl rfl rfl rfl (vpi (by decide +kernel)) dX7_init_33 (fun H92 locs hP hD hS => ?_)
  have hP : va_P (dC, dI) vwCl [(h0, .inr (7, [.ref q1, .int 0, .int 0])), (q1, .inl (kA 6, 20, .inr (.inr (.inr (.inr (va_up f84 (9 : Int32).toNatClampNeg (some q85))))))), (q85, .inr (5, [.ref q88, .ref q89, .ref q90, .ref q91, .int 0]))] H92 := hP
  have hD : va_D A [(h0, .inr (7, [.ref q1, .int 0, .int 0])), (q1, .inl (kA 6, 20, .inr (.inr (.inr (.inr (va_up f84 (9 : Int32).toNatClampNeg (some q85))))))), (q85, .inr (5, [.ref q88, .ref q89, .ref q90, .ref q91, .int 0]))] := hD
  generalize (va_up f84 (9 : Int32).toNatClampNeg (some q85)) = f93 at hP hD
  have hP := hP.sub (ws' := [(h0, .inr (7, [.ref q1, .int 0, .int 0])), (q1, .inl (kA 6, 20, .inr (.inr (.inr (.inr f93)))))]) [0, 1] rfl
  have hD := hD.sub (ws' := [(h0, .inr (7, [.ref q1, .int 0, .int 0])), (q1, .inl (kA 6, 20, .inr (.inr (.inr (.inr f93)))))]) [0, 1] (by decide) rfl
  refine lv_iinc (v := 10) (lv' := [(1, .int 10), (0, .ref h0)]) hx hb dX7_init_34 hl (k := 0) rfl (by decide) (by decide) rfl (fun ls hl => ?_)
  refine lv_goto (tgt := 15) hx hb dX7_init_37 (by decide) ?_
  refine lv_iload_n hx hb dX7_init_15 rfl (lv_at hl 0 rfl) ?_
  refine lv_bipush (v := 20) hx hb dX7_init_16 (by decide) ?_
  refine lv_icmp_ge (tgt := 40) hx hb dX7_init_18 (by decide) (fun c11 => ?_) (fun c11 => ?_)
  · exact False.elim (by revert c11; decide)
  refine lv_aload_n hx hb dX7_init_21 rfl (lv_at hl 1 rfl) ?_
  refine va_get (D := (dC, dI)) (ci := 7) (v := .ref q1) (C := RX7) (T := TX7) (N := 3) hx hb hts uX7 hown hK hP 0 rfl rfl 0 (by decide) (hts _ lk_358) (fun _ h9 => h9) rfl dX7_init_22 ?_
  refine lv_iload_n hx hb dX7_init_25 rfl (lv_at hl 0 rfl) ?_
  refine va_new (D := (dC, dI)) (ci := 5) (fs := [.null, .null, .null, .null, .int 0]) (C := RX5) (T := TX5) (N := 5) hx hb hts uX5 tyX5 tyX5_ok hown (hts _ lk_355) (hts _ lk_272) (hts _ lk_116) hK hP hD hS hA rfl vX5 (Nat.le_of_ble_eq_true rfl) (Nat.le_of_ble_eq_true rfl) dX7_init_26 (fun q94 H95 hP hD hS => ?_)
  have hP : va_P (dC, dI) vwCl [(h0, .inr (7, [.ref q1, .int 0, .int 0])), (q1, .inl (kA 6, 20, .inr (.inr (.inr (.inr f93))))), (q94, .inr (5, [.null, .null, .null, .null, .int 0]))] H95 := hP
  have hD : va_D A [(h0, .inr (7, [.ref q1, .int 0, .int 0])), (q1, .inl (kA 6, 20, .inr (.inr (.inr (.inr f93))))), (q94, .inr (5, [.null, .null, .null, .null, .int 0]))] := hD
  refine W.widen (k := 52) (n := 355) (Nat.le_of_ble_eq_true rfl) (Nat.le_of_ble_eq_true rfl) ?_
  refine lv_dup hx hb dX7_init_29 rfl ?_
  have hPc := hP.sub (ws' := [(q94, .inr (5, [.null, .null, .null, .null, .int 0]))]) [2] rfl
  have hDc := hD.sub (ws' := [(q94, .inr (5, [.null, .null, .null, .null, .int 0]))]) [2] (by decide) rfl
  refine cM (wc := [(q94, .inr (5, [.null, .null, .null, .null, .int 0]))]) (wr := [(h0, .inr (7, [.ref q1, .int 0, .int 0])), (q1, .inl (kA 6, 20, .inr (.inr (.inr (.inr f93)))))]) [2] [0, 1] hP hD hS hA rfl rfl (by decide) (by decide) (va_runIN (As := []) (rest := [.ref q94, .int 10, .ref q1]) ⟨hx, hb, hml, hown, hts⟩ (c_X5_init_s l dC dI kA H95.size q94 ) ⟨va_cnB 0 hts (gI lk_275) rfl rfl rfl (hN.at 12 rfl) (hts _ lk_116) (by decide +kernel) ⟨Nat.le_of_ble_eq_true rfl, Nat.le_of_ble_eq_true rfl⟩, rfl, hts _ lk_274⟩ (pw_s hPc hDc hK hN) rfl rfl hl.1 rfl (lv_room (Nat.le_of_ble_eq_true rfl)) dX7_init_30 ⟨Nat.le_of_ble_eq_true rfl, Nat.le_of_ble_eq_true rfl⟩) (fun w1 H96 locs hw hP hD hS => ?_)
  obtain ⟨q97, q98, q99, q100, rfl⟩ := hw
  have hP : va_P (dC, dI) vwCl [(h0, .inr (7, [.ref q1, .int 0, .int 0])), (q1, .inl (kA 6, 20, .inr (.inr (.inr (.inr f93))))), (q94, .inr (5, [.ref q97, .ref q98, .ref q99, .ref q100, .int 0]))] H96 := hP
  have hD : va_D A [(h0, .inr (7, [.ref q1, .int 0, .int 0])), (q1, .inl (kA 6, 20, .inr (.inr (.inr (.inr f93))))), (q94, .inr (5, [.ref q97, .ref q98, .ref q99, .ref q100, .int 0]))] := hD
  refine W.widen (k := 56) (n := 383) (Nat.le_of_ble_eq_true rfl) (Nat.le_of_ble_eq_true rfl) ?_
  refine W.eq (g2 := F0 m 33 ls [.ref q94, .int 10, .ref q1]) rfl ?_
  refine va_astq (D := (dC, dI)) hx hb hK hP hD hS 1 6 2 5 rfl rfl rfl rfl (vpi (by decide +kernel)) dX7_init_33 (fun H101 locs hP hD hS => ?_)
  have hP : va_P (dC, dI) vwCl [(h0, .inr (7, [.ref q1, .int 0, .int 0])), (q1, .inl (kA 6, 20, .inr (.inr (.inr (.inr (va_up f93 (10 : Int32).toNatClampNeg (some q94))))))), (q94, .inr (5, [.ref q97, .ref q98, .ref q99, .ref q100, .int 0]))] H101 := hP
  have hD : va_D A [(h0, .inr (7, [.ref q1, .int 0, .int 0])), (q1, .inl (kA 6, 20, .inr (.inr (.inr (.inr (va_up f93 (10 : Int32).toNatClampNeg (some q94))))))), (q94, .inr (5, [.ref q97, .ref q98, .ref q99, .ref q100, .int 0]))] := hD
  generalize (va_up f93 (10 : Int32).toNatClampNeg (some q94)) = f102 at hP hD
  have hP := hP.sub (ws' := [(h0, .inr (7, [.ref q1, .int 0, .int 0])), (q1, .inl (kA 6, 20, .inr (.inr (.inr (.inr f102)))))]) [0, 1] rfl
  have hD := hD.sub (ws' := [(h0, .inr (7, [.ref q1, .int 0, .int 0])), (q1, .inl (kA 6, 20, .inr (.inr (.inr (.inr f102)))))]) [0, 1] (by decide) rfl
  refine lv_iinc (v := 11) (lv' := [(1, .int 11), (0, .ref h0)]) hx hb dX7_init_34 hl (k := 0) rfl (by decide) (by decide) rfl (fun ls hl => ?_)
  refine lv_goto (tgt := 15) hx hb dX7_init_37 (by decide) ?_
  refine lv_iload_n hx hb dX7_init_15 rfl (lv_at hl 0 rfl) ?_
  refine lv_bipush (v := 20) hx hb dX7_init_16 (by decide) ?_
  refine lv_icmp_ge (tgt := 40) hx hb dX7_init_18 (by decide) (fun c12 => ?_) (fun c12 => ?_)
  · exact False.elim (by revert c12; decide)
  refine lv_aload_n hx hb dX7_init_21 rfl (lv_at hl 1 rfl) ?_
  refine va_get (D := (dC, dI)) (ci := 7) (v := .ref q1) (C := RX7) (T := TX7) (N := 3) hx hb hts uX7 hown hK hP 0 rfl rfl 0 (by decide) (hts _ lk_358) (fun _ h9 => h9) rfl dX7_init_22 ?_
  refine lv_iload_n hx hb dX7_init_25 rfl (lv_at hl 0 rfl) ?_
  refine va_new (D := (dC, dI)) (ci := 5) (fs := [.null, .null, .null, .null, .int 0]) (C := RX5) (T := TX5) (N := 5) hx hb hts uX5 tyX5 tyX5_ok hown (hts _ lk_355) (hts _ lk_272) (hts _ lk_116) hK hP hD hS hA rfl vX5 (Nat.le_of_ble_eq_true rfl) (Nat.le_of_ble_eq_true rfl) dX7_init_26 (fun q103 H104 hP hD hS => ?_)
  have hP : va_P (dC, dI) vwCl [(h0, .inr (7, [.ref q1, .int 0, .int 0])), (q1, .inl (kA 6, 20, .inr (.inr (.inr (.inr f102))))), (q103, .inr (5, [.null, .null, .null, .null, .int 0]))] H104 := hP
  have hD : va_D A [(h0, .inr (7, [.ref q1, .int 0, .int 0])), (q1, .inl (kA 6, 20, .inr (.inr (.inr (.inr f102))))), (q103, .inr (5, [.null, .null, .null, .null, .int 0]))] := hD
  refine W.widen (k := 57) (n := 388) (Nat.le_of_ble_eq_true rfl) (Nat.le_of_ble_eq_true rfl) ?_
  refine lv_dup hx hb dX7_init_29 rfl ?_
  have hPc := hP.sub (ws' := [(q103, .inr (5, [.null, .null, .null, .null, .int 0]))]) [2] rfl
  have hDc := hD.sub (ws' := [(q103, .inr (5, [.null, .null, .null, .null, .int 0]))]) [2] (by decide) rfl
  refine cM (wc := [(q103, .inr (5, [.null, .null, .null, .null, .int 0]))]) (wr := [(h0, .inr (7, [.ref q1, .int 0, .int 0])), (q1, .inl (kA 6, 20, .inr (.inr (.inr (.inr f102)))))]) [2] [0, 1] hP hD hS hA rfl rfl (by decide) (by decide) (va_runIN (As := []) (rest := [.ref q103, .int 11, .ref q1]) ⟨hx, hb, hml, hown, hts⟩ (c_X5_init_s l dC dI kA H104.size q103 ) ⟨va_cnB 0 hts (gI lk_275) rfl rfl rfl (hN.at 12 rfl) (hts _ lk_116) (by decide +kernel) ⟨Nat.le_of_ble_eq_true rfl, Nat.le_of_ble_eq_true rfl⟩, rfl, hts _ lk_274⟩ (pw_s hPc hDc hK hN) rfl rfl hl.1 rfl (lv_room (Nat.le_of_ble_eq_true rfl)) dX7_init_30 ⟨Nat.le_of_ble_eq_true rfl, Nat.le_of_ble_eq_true rfl⟩) (fun w1 H105 locs hw hP hD hS => ?_)
  obtain ⟨q106, q107, q108, q109, rfl⟩ := hw
  have hP : va_P (dC, dI) vwCl [(h0, .inr (7, [.ref q1, .int 0, .int 0])), (q1, .inl (kA 6, 20, .inr (.inr (.inr (.inr f102))))), (q103, .inr (5, [.ref q106, .ref q107, .ref q108, .ref q109, .int 0]))] H105 := hP
  have hD : va_D A [(h0, .inr (7, [.ref q1, .int 0, .int 0])), (q1, .inl (kA 6, 20, .inr (.inr (.inr (.inr f102))))), (q103, .inr (5, [.ref q106, .ref q107, .ref q108, .ref q109, .int 0]))] := hD
  refine W.widen (k := 61) (n := 416) (Nat.le_of_ble_eq_true rfl) (Nat.le_of_ble_eq_true rfl) ?_
  refine W.eq (g2 := F0 m 33 ls [.ref q103, .int 11, .ref q1]) rfl ?_
  refine va_astq (D := (dC, dI)) hx hb hK hP hD hS 1 6 2 5 rfl rfl rfl rfl (vpi (by decide +kernel)) dX7_init_33 (fun H110 locs hP hD hS => ?_)
  have hP : va_P (dC, dI) vwCl [(h0, .inr (7, [.ref q1, .int 0, .int 0])), (q1, .inl (kA 6, 20, .inr (.inr (.inr (.inr (va_up f102 (11 : Int32).toNatClampNeg (some q103))))))), (q103, .inr (5, [.ref q106, .ref q107, .ref q108, .ref q109, .int 0]))] H110 := hP
  have hD : va_D A [(h0, .inr (7, [.ref q1, .int 0, .int 0])), (q1, .inl (kA 6, 20, .inr (.inr (.inr (.inr (va_up f102 (11 : Int32).toNatClampNeg (some q103))))))), (q103, .inr (5, [.ref q106, .ref q107, .ref q108, .ref q109, .int 0]))] := hD
  generalize (va_up f102 (11 : Int32).toNatClampNeg (some q103)) = f111 at hP hD
  have hP := hP.sub (ws' := [(h0, .inr (7, [.ref q1, .int 0, .int 0])), (q1, .inl (kA 6, 20, .inr (.inr (.inr (.inr f111)))))]) [0, 1] rfl
  have hD := hD.sub (ws' := [(h0, .inr (7, [.ref q1, .int 0, .int 0])), (q1, .inl (kA 6, 20, .inr (.inr (.inr (.inr f111)))))]) [0, 1] (by decide) rfl
  refine lv_iinc (v := 12) (lv' := [(1, .int 12), (0, .ref h0)]) hx hb dX7_init_34 hl (k := 0) rfl (by decide) (by decide) rfl (fun ls hl => ?_)
  refine lv_goto (tgt := 15) hx hb dX7_init_37 (by decide) ?_
  refine lv_iload_n hx hb dX7_init_15 rfl (lv_at hl 0 rfl) ?_
  refine lv_bipush (v := 20) hx hb dX7_init_16 (by decide) ?_
  refine lv_icmp_ge (tgt := 40) hx hb dX7_init_18 (by decide) (fun c13 => ?_) (fun c13 => ?_)
  · exact False.elim (by revert c13; decide)
  refine lv_aload_n hx hb dX7_init_21 rfl (lv_at hl 1 rfl) ?_
  refine va_get (D := (dC, dI)) (ci := 7) (v := .ref q1) (C := RX7) (T := TX7) (N := 3) hx hb hts uX7 hown hK hP 0 rfl rfl 0 (by decide) (hts _ lk_358) (fun _ h9 => h9) rfl dX7_init_22 ?_
  refine lv_iload_n hx hb dX7_init_25 rfl (lv_at hl 0 rfl) ?_
  refine va_new (D := (dC, dI)) (ci := 5) (fs := [.null, .null, .null, .null, .int 0]) (C := RX5) (T := TX5) (N := 5) hx hb hts uX5 tyX5 tyX5_ok hown (hts _ lk_355) (hts _ lk_272) (hts _ lk_116) hK hP hD hS hA rfl vX5 (Nat.le_of_ble_eq_true rfl) (Nat.le_of_ble_eq_true rfl) dX7_init_26 (fun q112 H113 hP hD hS => ?_)
  have hP : va_P (dC, dI) vwCl [(h0, .inr (7, [.ref q1, .int 0, .int 0])), (q1, .inl (kA 6, 20, .inr (.inr (.inr (.inr f111))))), (q112, .inr (5, [.null, .null, .null, .null, .int 0]))] H113 := hP
  have hD : va_D A [(h0, .inr (7, [.ref q1, .int 0, .int 0])), (q1, .inl (kA 6, 20, .inr (.inr (.inr (.inr f111))))), (q112, .inr (5, [.null, .null, .null, .null, .int 0]))] := hD
  refine W.widen (k := 62) (n := 421) (Nat.le_of_ble_eq_true rfl) (Nat.le_of_ble_eq_true rfl) ?_
  refine lv_dup hx hb dX7_init_29 rfl ?_
  have hPc := hP.sub (ws' := [(q112, .inr (5, [.null, .null, .null, .null, .int 0]))]) [2] rfl
  have hDc := hD.sub (ws' := [(q112, .inr (5, [.null, .null, .null, .null, .int 0]))]) [2] (by decide) rfl
  refine cM (wc := [(q112, .inr (5, [.null, .null, .null, .null, .int 0]))]) (wr := [(h0, .inr (7, [.ref q1, .int 0, .int 0])), (q1, .inl (kA 6, 20, .inr (.inr (.inr (.inr f111)))))]) [2] [0, 1] hP hD hS hA rfl rfl (by decide) (by decide) (va_runIN (As := []) (rest := [.ref q112, .int 12, .ref q1]) ⟨hx, hb, hml, hown, hts⟩ (c_X5_init_s l dC dI kA H113.size q112 ) ⟨va_cnB 0 hts (gI lk_275) rfl rfl rfl (hN.at 12 rfl) (hts _ lk_116) (by decide +kernel) ⟨Nat.le_of_ble_eq_true rfl, Nat.le_of_ble_eq_true rfl⟩, rfl, hts _ lk_274⟩ (pw_s hPc hDc hK hN) rfl rfl hl.1 rfl (lv_room (Nat.le_of_ble_eq_true rfl)) dX7_init_30 ⟨Nat.le_of_ble_eq_true rfl, Nat.le_of_ble_eq_true rfl⟩) (fun w1 H114 locs hw hP hD hS => ?_)
  obtain ⟨q115, q116, q117, q118, rfl⟩ := hw
  have hP : va_P (dC, dI) vwCl [(h0, .inr (7, [.ref q1, .int 0, .int 0])), (q1, .inl (kA 6, 20, .inr (.inr (.inr (.inr f111))))), (q112, .inr (5, [.ref q115, .ref q116, .ref q117, .ref q118, .int 0]))] H114 := hP
  have hD : va_D A [(h0, .inr (7, [.ref q1, .int 0, .int 0])), (q1, .inl (kA 6, 20, .inr (.inr (.inr (.inr f111))))), (q112, .inr (5, [.ref q115, .ref q116, .ref q117, .ref q118, .int 0]))] := hD
  refine W.widen (k := 66) (n := 449) (Nat.le_of_ble_eq_true rfl) (Nat.le_of_ble_eq_true rfl) ?_
  refine W.eq (g2 := F0 m 33 ls [.ref q112, .int 12, .ref q1]) rfl ?_
  refine va_astq (D := (dC, dI)) hx hb hK hP hD hS 1 6 2 5 rfl rfl rfl rfl (vpi (by decide +kernel)) dX7_init_33 (fun H119 locs hP hD hS => ?_)
  have hP : va_P (dC, dI) vwCl [(h0, .inr (7, [.ref q1, .int 0, .int 0])), (q1, .inl (kA 6, 20, .inr (.inr (.inr (.inr (va_up f111 (12 : Int32).toNatClampNeg (some q112))))))), (q112, .inr (5, [.ref q115, .ref q116, .ref q117, .ref q118, .int 0]))] H119 := hP
  have hD : va_D A [(h0, .inr (7, [.ref q1, .int 0, .int 0])), (q1, .inl (kA 6, 20, .inr (.inr (.inr (.inr (va_up f111 (12 : Int32).toNatClampNeg (some q112))))))), (q112, .inr (5, [.ref q115, .ref q116, .ref q117, .ref q118, .int 0]))] := hD
  generalize (va_up f111 (12 : Int32).toNatClampNeg (some q112)) = f120 at hP hD
  have hP := hP.sub (ws' := [(h0, .inr (7, [.ref q1, .int 0, .int 0])), (q1, .inl (kA 6, 20, .inr (.inr (.inr (.inr f120)))))]) [0, 1] rfl
  have hD := hD.sub (ws' := [(h0, .inr (7, [.ref q1, .int 0, .int 0])), (q1, .inl (kA 6, 20, .inr (.inr (.inr (.inr f120)))))]) [0, 1] (by decide) rfl
  refine lv_iinc (v := 13) (lv' := [(1, .int 13), (0, .ref h0)]) hx hb dX7_init_34 hl (k := 0) rfl (by decide) (by decide) rfl (fun ls hl => ?_)
  refine lv_goto (tgt := 15) hx hb dX7_init_37 (by decide) ?_
  refine lv_iload_n hx hb dX7_init_15 rfl (lv_at hl 0 rfl) ?_
  refine lv_bipush (v := 20) hx hb dX7_init_16 (by decide) ?_
  refine lv_icmp_ge (tgt := 40) hx hb dX7_init_18 (by decide) (fun c14 => ?_) (fun c14 => ?_)
  · exact False.elim (by revert c14; decide)
  refine lv_aload_n hx hb dX7_init_21 rfl (lv_at hl 1 rfl) ?_
  refine va_get (D := (dC, dI)) (ci := 7) (v := .ref q1) (C := RX7) (T := TX7) (N := 3) hx hb hts uX7 hown hK hP 0 rfl rfl 0 (by decide) (hts _ lk_358) (fun _ h9 => h9) rfl dX7_init_22 ?_
  refine lv_iload_n hx hb dX7_init_25 rfl (lv_at hl 0 rfl) ?_
  refine va_new (D := (dC, dI)) (ci := 5) (fs := [.null, .null, .null, .null, .int 0]) (C := RX5) (T := TX5) (N := 5) hx hb hts uX5 tyX5 tyX5_ok hown (hts _ lk_355) (hts _ lk_272) (hts _ lk_116) hK hP hD hS hA rfl vX5 (Nat.le_of_ble_eq_true rfl) (Nat.le_of_ble_eq_true rfl) dX7_init_26 (fun q121 H122 hP hD hS => ?_)
  have hP : va_P (dC, dI) vwCl [(h0, .inr (7, [.ref q1, .int 0, .int 0])), (q1, .inl (kA 6, 20, .inr (.inr (.inr (.inr f120))))), (q121, .inr (5, [.null, .null, .null, .null, .int 0]))] H122 := hP
  have hD : va_D A [(h0, .inr (7, [.ref q1, .int 0, .int 0])), (q1, .inl (kA 6, 20, .inr (.inr (.inr (.inr f120))))), (q121, .inr (5, [.null, .null, .null, .null, .int 0]))] := hD
  refine W.widen (k := 67) (n := 454) (Nat.le_of_ble_eq_true rfl) (Nat.le_of_ble_eq_true rfl) ?_
  refine lv_dup hx hb dX7_init_29 rfl ?_
  have hPc := hP.sub (ws' := [(q121, .inr (5, [.null, .null, .null, .null, .int 0]))]) [2] rfl
  have hDc := hD.sub (ws' := [(q121, .inr (5, [.null, .null, .null, .null, .int 0]))]) [2] (by decide) rfl
  refine cM (wc := [(q121, .inr (5, [.null, .null, .null, .null, .int 0]))]) (wr := [(h0, .inr (7, [.ref q1, .int 0, .int 0])), (q1, .inl (kA 6, 20, .inr (.inr (.inr (.inr f120)))))]) [2] [0, 1] hP hD hS hA rfl rfl (by decide) (by decide) (va_runIN (As := []) (rest := [.ref q121, .int 13, .ref q1]) ⟨hx, hb, hml, hown, hts⟩ (c_X5_init_s l dC dI kA H122.size q121 ) ⟨va_cnB 0 hts (gI lk_275) rfl rfl rfl (hN.at 12 rfl) (hts _ lk_116) (by decide +kernel) ⟨Nat.le_of_ble_eq_true rfl, Nat.le_of_ble_eq_true rfl⟩, rfl, hts _ lk_274⟩ (pw_s hPc hDc hK hN) rfl rfl hl.1 rfl (lv_room (Nat.le_of_ble_eq_true rfl)) dX7_init_30 ⟨Nat.le_of_ble_eq_true rfl, Nat.le_of_ble_eq_true rfl⟩) (fun w1 H123 locs hw hP hD hS => ?_)
  obtain ⟨q124, q125, q126, q127, rfl⟩ := hw
  have hP : va_P (dC, dI) vwCl [(h0, .inr (7, [.ref q1, .int 0, .int 0])), (q1, .inl (kA 6, 20, .inr (.inr (.inr (.inr f120))))), (q121, .inr (5, [.ref q124, .ref q125, .ref q126, .ref q127, .int 0]))] H123 := hP
  have hD : va_D A [(h0, .inr (7, [.ref q1, .int 0, .int 0])), (q1, .inl (kA 6, 20, .inr (.inr (.inr (.inr f120))))), (q121, .inr (5, [.ref q124, .ref q125, .ref q126, .ref q127, .int 0]))] := hD
  refine W.widen (k := 71) (n := 482) (Nat.le_of_ble_eq_true rfl) (Nat.le_of_ble_eq_true rfl) ?_
  refine W.eq (g2 := F0 m 33 ls [.ref q121, .int 13, .ref q1]) rfl ?_
  refine va_astq (D := (dC, dI)) hx hb hK hP hD hS 1 6 2 5 rfl rfl rfl rfl (vpi (by decide +kernel)) dX7_init_33 (fun H128 locs hP hD hS => ?_)
  have hP : va_P (dC, dI) vwCl [(h0, .inr (7, [.ref q1, .int 0, .int 0])), (q1, .inl (kA 6, 20, .inr (.inr (.inr (.inr (va_up f120 (13 : Int32).toNatClampNeg (some q121))))))), (q121, .inr (5, [.ref q124, .ref q125, .ref q126, .ref q127, .int 0]))] H128 := hP
  have hD : va_D A [(h0, .inr (7, [.ref q1, .int 0, .int 0])), (q1, .inl (kA 6, 20, .inr (.inr (.inr (.inr (va_up f120 (13 : Int32).toNatClampNeg (some q121))))))), (q121, .inr (5, [.ref q124, .ref q125, .ref q126, .ref q127, .int 0]))] := hD
  generalize (va_up f120 (13 : Int32).toNatClampNeg (some q121)) = f129 at hP hD
  have hP := hP.sub (ws' := [(h0, .inr (7, [.ref q1, .int 0, .int 0])), (q1, .inl (kA 6, 20, .inr (.inr (.inr (.inr f129)))))]) [0, 1] rfl
  have hD := hD.sub (ws' := [(h0, .inr (7, [.ref q1, .int 0, .int 0])), (q1, .inl (kA 6, 20, .inr (.inr (.inr (.inr f129)))))]) [0, 1] (by decide) rfl
  refine lv_iinc (v := 14) (lv' := [(1, .int 14), (0, .ref h0)]) hx hb dX7_init_34 hl (k := 0) rfl (by decide) (by decide) rfl (fun ls hl => ?_)
  refine lv_goto (tgt := 15) hx hb dX7_init_37 (by decide) ?_
  refine lv_iload_n hx hb dX7_init_15 rfl (lv_at hl 0 rfl) ?_
  refine lv_bipush (v := 20) hx hb dX7_init_16 (by decide) ?_
  refine lv_icmp_ge (tgt := 40) hx hb dX7_init_18 (by decide) (fun c15 => ?_) (fun c15 => ?_)
  · exact False.elim (by revert c15; decide)
  refine lv_aload_n hx hb dX7_init_21 rfl (lv_at hl 1 rfl) ?_
  refine va_get (D := (dC, dI)) (ci := 7) (v := .ref q1) (C := RX7) (T := TX7) (N := 3) hx hb hts uX7 hown hK hP 0 rfl rfl 0 (by decide) (hts _ lk_358) (fun _ h9 => h9) rfl dX7_init_22 ?_
  refine lv_iload_n hx hb dX7_init_25 rfl (lv_at hl 0 rfl) ?_
  refine va_new (D := (dC, dI)) (ci := 5) (fs := [.null, .null, .null, .null, .int 0]) (C := RX5) (T := TX5) (N := 5) hx hb hts uX5 tyX5 tyX5_ok hown (hts _ lk_355) (hts _ lk_272) (hts _ lk_116) hK hP hD hS hA rfl vX5 (Nat.le_of_ble_eq_true rfl) (Nat.le_of_ble_eq_true rfl) dX7_init_26 (fun q130 H131 hP hD hS => ?_)
  have hP : va_P (dC, dI) vwCl [(h0, .inr (7, [.ref q1, .int 0, .int 0])), (q1, .inl (kA 6, 20, .inr (.inr (.inr (.inr f129))))), (q130, .inr (5, [.null, .null, .null, .null, .int 0]))] H131 := hP
  have hD : va_D A [(h0, .inr (7, [.ref q1, .int 0, .int 0])), (q1, .inl (kA 6, 20, .inr (.inr (.inr (.inr f129))))), (q130, .inr (5, [.null, .null, .null, .null, .int 0]))] := hD
  refine W.widen (k := 72) (n := 487) (Nat.le_of_ble_eq_true rfl) (Nat.le_of_ble_eq_true rfl) ?_
  refine lv_dup hx hb dX7_init_29 rfl ?_
  have hPc := hP.sub (ws' := [(q130, .inr (5, [.null, .null, .null, .null, .int 0]))]) [2] rfl
  have hDc := hD.sub (ws' := [(q130, .inr (5, [.null, .null, .null, .null, .int 0]))]) [2] (by decide) rfl
  refine cM (wc := [(q130, .inr (5, [.null, .null, .null, .null, .int 0]))]) (wr := [(h0, .inr (7, [.ref q1, .int 0, .int 0])), (q1, .inl (kA 6, 20, .inr (.inr (.inr (.inr f129)))))]) [2] [0, 1] hP hD hS hA rfl rfl (by decide) (by decide) (va_runIN (As := []) (rest := [.ref q130, .int 14, .ref q1]) ⟨hx, hb, hml, hown, hts⟩ (c_X5_init_s l dC dI kA H131.size q130 ) ⟨va_cnB 0 hts (gI lk_275) rfl rfl rfl (hN.at 12 rfl) (hts _ lk_116) (by decide +kernel) ⟨Nat.le_of_ble_eq_true rfl, Nat.le_of_ble_eq_true rfl⟩, rfl, hts _ lk_274⟩ (pw_s hPc hDc hK hN) rfl rfl hl.1 rfl (lv_room (Nat.le_of_ble_eq_true rfl)) dX7_init_30 ⟨Nat.le_of_ble_eq_true rfl, Nat.le_of_ble_eq_true rfl⟩) (fun w1 H132 locs hw hP hD hS => ?_)
  obtain ⟨q133, q134, q135, q136, rfl⟩ := hw
  have hP : va_P (dC, dI) vwCl [(h0, .inr (7, [.ref q1, .int 0, .int 0])), (q1, .inl (kA 6, 20, .inr (.inr (.inr (.inr f129))))), (q130, .inr (5, [.ref q133, .ref q134, .ref q135, .ref q136, .int 0]))] H132 := hP
  have hD : va_D A [(h0, .inr (7, [.ref q1, .int 0, .int 0])), (q1, .inl (kA 6, 20, .inr (.inr (.inr (.inr f129))))), (q130, .inr (5, [.ref q133, .ref q134, .ref q135, .ref q136, .int 0]))] := hD
  refine W.widen (k := 76) (n := 515) (Nat.le_of_ble_eq_true rfl) (Nat.le_of_ble_eq_true rfl) ?_
  refine W.eq (g2 := F0 m 33 ls [.ref q130, .int 14, .ref q1]) rfl ?_
  refine va_astq (D := (dC, dI)) hx hb hK hP hD hS 1 6 2 5 rfl rfl rfl rfl (vpi (by decide +kernel)) dX7_init_33 (fun H137 locs hP hD hS => ?_)
  have hP : va_P (dC, dI) vwCl [(h0, .inr (7, [.ref q1, .int 0, .int 0])), (q1, .inl (kA 6, 20, .inr (.inr (.inr (.inr (va_up f129 (14 : Int32).toNatClampNeg (some q130))))))), (q130, .inr (5, [.ref q133, .ref q134, .ref q135, .ref q136, .int 0]))] H137 := hP
  have hD : va_D A [(h0, .inr (7, [.ref q1, .int 0, .int 0])), (q1, .inl (kA 6, 20, .inr (.inr (.inr (.inr (va_up f129 (14 : Int32).toNatClampNeg (some q130))))))), (q130, .inr (5, [.ref q133, .ref q134, .ref q135, .ref q136, .int 0]))] := hD
  generalize (va_up f129 (14 : Int32).toNatClampNeg (some q130)) = f138 at hP hD
  have hP := hP.sub (ws' := [(h0, .inr (7, [.ref q1, .int 0, .int 0])), (q1, .inl (kA 6, 20, .inr (.inr (.inr (.inr f138)))))]) [0, 1] rfl
  have hD := hD.sub (ws' := [(h0, .inr (7, [.ref q1, .int 0, .int 0])), (q1, .inl (kA 6, 20, .inr (.inr (.inr (.inr f138)))))]) [0, 1] (by decide) rfl
  refine lv_iinc (v := 15) (lv' := [(1, .int 15), (0, .ref h0)]) hx hb dX7_init_34 hl (k := 0) rfl (by decide) (by decide) rfl (fun ls hl => ?_)
  refine lv_goto (tgt := 15) hx hb dX7_init_37 (by decide) ?_
  refine lv_iload_n hx hb dX7_init_15 rfl (lv_at hl 0 rfl) ?_
  refine lv_bipush (v := 20) hx hb dX7_init_16 (by decide) ?_
  refine lv_icmp_ge (tgt := 40) hx hb dX7_init_18 (by decide) (fun c16 => ?_) (fun c16 => ?_)
  · exact False.elim (by revert c16; decide)
  refine lv_aload_n hx hb dX7_init_21 rfl (lv_at hl 1 rfl) ?_
  refine va_get (D := (dC, dI)) (ci := 7) (v := .ref q1) (C := RX7) (T := TX7) (N := 3) hx hb hts uX7 hown hK hP 0 rfl rfl 0 (by decide) (hts _ lk_358) (fun _ h9 => h9) rfl dX7_init_22 ?_
  refine lv_iload_n hx hb dX7_init_25 rfl (lv_at hl 0 rfl) ?_
  refine va_new (D := (dC, dI)) (ci := 5) (fs := [.null, .null, .null, .null, .int 0]) (C := RX5) (T := TX5) (N := 5) hx hb hts uX5 tyX5 tyX5_ok hown (hts _ lk_355) (hts _ lk_272) (hts _ lk_116) hK hP hD hS hA rfl vX5 (Nat.le_of_ble_eq_true rfl) (Nat.le_of_ble_eq_true rfl) dX7_init_26 (fun q139 H140 hP hD hS => ?_)
  have hP : va_P (dC, dI) vwCl [(h0, .inr (7, [.ref q1, .int 0, .int 0])), (q1, .inl (kA 6, 20, .inr (.inr (.inr (.inr f138))))), (q139, .inr (5, [.null, .null, .null, .null, .int 0]))] H140 := hP
  have hD : va_D A [(h0, .inr (7, [.ref q1, .int 0, .int 0])), (q1, .inl (kA 6, 20, .inr (.inr (.inr (.inr f138))))), (q139, .inr (5, [.null, .null, .null, .null, .int 0]))] := hD
  refine W.widen (k := 77) (n := 520) (Nat.le_of_ble_eq_true rfl) (Nat.le_of_ble_eq_true rfl) ?_
  refine lv_dup hx hb dX7_init_29 rfl ?_
  have hPc := hP.sub (ws' := [(q139, .inr (5, [.null, .null, .null, .null, .int 0]))]) [2] rfl
  have hDc := hD.sub (ws' := [(q139, .inr (5, [.null, .null, .null, .null, .int 0]))]) [2] (by decide) rfl
  refine cM (wc := [(q139, .inr (5, [.null, .null, .null, .null, .int 0]))]) (wr := [(h0, .inr (7, [.ref q1, .int 0, .int 0])), (q1, .inl (kA 6, 20, .inr (.inr (.inr (.inr f138)))))]) [2] [0, 1] hP hD hS hA rfl rfl (by decide) (by decide) (va_runIN (As := []) (rest := [.ref q139, .int 15, .ref q1]) ⟨hx, hb, hml, hown, hts⟩ (c_X5_init_s l dC dI kA H140.size q139 ) ⟨va_cnB 0 hts (gI lk_275) rfl rfl rfl (hN.at 12 rfl) (hts _ lk_116) (by decide +kernel) ⟨Nat.le_of_ble_eq_true rfl, Nat.le_of_ble_eq_true rfl⟩, rfl, hts _ lk_274⟩ (pw_s hPc hDc hK hN) rfl rfl hl.1 rfl (lv_room (Nat.le_of_ble_eq_true rfl)) dX7_init_30 ⟨Nat.le_of_ble_eq_true rfl, Nat.le_of_ble_eq_true rfl⟩) (fun w1 H141 locs hw hP hD hS => ?_)
  obtain ⟨q142, q143, q144, q145, rfl⟩ := hw
  have hP : va_P (dC, dI) vwCl [(h0, .inr (7, [.ref q1, .int 0, .int 0])), (q1, .inl (kA 6, 20, .inr (.inr (.inr (.inr f138))))), (q139, .inr (5, [.ref q142, .ref q143, .ref q144, .ref q145, .int 0]))] H141 := hP
  have hD : va_D A [(h0, .inr (7, [.ref q1, .int 0, .int 0])), (q1, .inl (kA 6, 20, .inr (.inr (.inr (.inr f138))))), (q139, .inr (5, [.ref q142, .ref q143, .ref q144, .ref q145, .int 0]))] := hD
  refine W.widen (k := 81) (n := 548) (Nat.le_of_ble_eq_true rfl) (Nat.le_of_ble_eq_true rfl) ?_
  refine W.eq (g2 := F0 m 33 ls [.ref q139, .int 15, .ref q1]) rfl ?_
  refine va_astq (D := (dC, dI)) hx hb hK hP hD hS 1 6 2 5 rfl rfl rfl rfl (vpi (by decide +kernel)) dX7_init_33 (fun H146 locs hP hD hS => ?_)
  have hP : va_P (dC, dI) vwCl [(h0, .inr (7, [.ref q1, .int 0, .int 0])), (q1, .inl (kA 6, 20, .inr (.inr (.inr (.inr (va_up f138 (15 : Int32).toNatClampNeg (some q139))))))), (q139, .inr (5, [.ref q142, .ref q143, .ref q144, .ref q145, .int 0]))] H146 := hP
  have hD : va_D A [(h0, .inr (7, [.ref q1, .int 0, .int 0])), (q1, .inl (kA 6, 20, .inr (.inr (.inr (.inr (va_up f138 (15 : Int32).toNatClampNeg (some q139))))))), (q139, .inr (5, [.ref q142, .ref q143, .ref q144, .ref q145, .int 0]))] := hD
  generalize (va_up f138 (15 : Int32).toNatClampNeg (some q139)) = f147 at hP hD
  have hP := hP.sub (ws' := [(h0, .inr (7, [.ref q1, .int 0, .int 0])), (q1, .inl (kA 6, 20, .inr (.inr (.inr (.inr f147)))))]) [0, 1] rfl
  have hD := hD.sub (ws' := [(h0, .inr (7, [.ref q1, .int 0, .int 0])), (q1, .inl (kA 6, 20, .inr (.inr (.inr (.inr f147)))))]) [0, 1] (by decide) rfl
  refine lv_iinc (v := 16) (lv' := [(1, .int 16), (0, .ref h0)]) hx hb dX7_init_34 hl (k := 0) rfl (by decide) (by decide) rfl (fun ls hl => ?_)
  refine lv_goto (tgt := 15) hx hb dX7_init_37 (by decide) ?_
  refine lv_iload_n hx hb dX7_init_15 rfl (lv_at hl 0 rfl) ?_
  refine lv_bipush (v := 20) hx hb dX7_init_16 (by decide) ?_
  refine lv_icmp_ge (tgt := 40) hx hb dX7_init_18 (by decide) (fun c17 => ?_) (fun c17 => ?_)
  · exact False.elim (by revert c17; decide)
  refine lv_aload_n hx hb dX7_init_21 rfl (lv_at hl 1 rfl) ?_
  refine va_get (D := (dC, dI)) (ci := 7) (v := .ref q1) (C := RX7) (T := TX7) (N := 3) hx hb hts uX7 hown hK hP 0 rfl rfl 0 (by decide) (hts _ lk_358) (fun _ h9 => h9) rfl dX7_init_22 ?_
  refine lv_iload_n hx hb dX7_init_25 rfl (lv_at hl 0 rfl) ?_
  refine va_new (D := (dC, dI)) (ci := 5) (fs := [.null, .null, .null, .null, .int 0]) (C := RX5) (T := TX5) (N := 5) hx hb hts uX5 tyX5 tyX5_ok hown (hts _ lk_355) (hts _ lk_272) (hts _ lk_116) hK hP hD hS hA rfl vX5 (Nat.le_of_ble_eq_true rfl) (Nat.le_of_ble_eq_true rfl) dX7_init_26 (fun q148 H149 hP hD hS => ?_)
  have hP : va_P (dC, dI) vwCl [(h0, .inr (7, [.ref q1, .int 0, .int 0])), (q1, .inl (kA 6, 20, .inr (.inr (.inr (.inr f147))))), (q148, .inr (5, [.null, .null, .null, .null, .int 0]))] H149 := hP
  have hD : va_D A [(h0, .inr (7, [.ref q1, .int 0, .int 0])), (q1, .inl (kA 6, 20, .inr (.inr (.inr (.inr f147))))), (q148, .inr (5, [.null, .null, .null, .null, .int 0]))] := hD
  refine W.widen (k := 82) (n := 553) (Nat.le_of_ble_eq_true rfl) (Nat.le_of_ble_eq_true rfl) ?_
  refine lv_dup hx hb dX7_init_29 rfl ?_
  have hPc := hP.sub (ws' := [(q148, .inr (5, [.null, .null, .null, .null, .int 0]))]) [2] rfl
  have hDc := hD.sub (ws' := [(q148, .inr (5, [.null, .null, .null, .null, .int 0]))]) [2] (by decide) rfl
  refine cM (wc := [(q148, .inr (5, [.null, .null, .null, .null, .int 0]))]) (wr := [(h0, .inr (7, [.ref q1, .int 0, .int 0])), (q1, .inl (kA 6, 20, .inr (.inr (.inr (.inr f147)))))]) [2] [0, 1] hP hD hS hA rfl rfl (by decide) (by decide) (va_runIN (As := []) (rest := [.ref q148, .int 16, .ref q1]) ⟨hx, hb, hml, hown, hts⟩ (c_X5_init_s l dC dI kA H149.size q148 ) ⟨va_cnB 0 hts (gI lk_275) rfl rfl rfl (hN.at 12 rfl) (hts _ lk_116) (by decide +kernel) ⟨Nat.le_of_ble_eq_true rfl, Nat.le_of_ble_eq_true rfl⟩, rfl, hts _ lk_274⟩ (pw_s hPc hDc hK hN) rfl rfl hl.1 rfl (lv_room (Nat.le_of_ble_eq_true rfl)) dX7_init_30 ⟨Nat.le_of_ble_eq_true rfl, Nat.le_of_ble_eq_true rfl⟩) (fun w1 H150 locs hw hP hD hS => ?_)
  obtain ⟨q151, q152, q153, q154, rfl⟩ := hw
  have hP : va_P (dC, dI) vwCl [(h0, .inr (7, [.ref q1, .int 0, .int 0])), (q1, .inl (kA 6, 20, .inr (.inr (.inr (.inr f147))))), (q148, .inr (5, [.ref q151, .ref q152, .ref q153, .ref q154, .int 0]))] H150 := hP
  have hD : va_D A [(h0, .inr (7, [.ref q1, .int 0, .int 0])), (q1, .inl (kA 6, 20, .inr (.inr (.inr (.inr f147))))), (q148, .inr (5, [.ref q151, .ref q152, .ref q153, .ref q154, .int 0]))] := hD
  refine W.widen (k := 86) (n := 581) (Nat.le_of_ble_eq_true rfl) (Nat.le_of_ble_eq_true rfl) ?_
  refine W.eq (g2 := F0 m 33 ls [.ref q148, .int 16, .ref q1]) rfl ?_
  refine va_astq (D := (dC, dI)) hx hb hK hP hD hS 1 6 2 5 rfl rfl rfl rfl (vpi (by decide +kernel)) dX7_init_33 (fun H155 locs hP hD hS => ?_)
  have hP : va_P (dC, dI) vwCl [(h0, .inr (7, [.ref q1, .int 0, .int 0])), (q1, .inl (kA 6, 20, .inr (.inr (.inr (.inr (va_up f147 (16 : Int32).toNatClampNeg (some q148))))))), (q148, .inr (5, [.ref q151, .ref q152, .ref q153, .ref q154, .int 0]))] H155 := hP
  have hD : va_D A [(h0, .inr (7, [.ref q1, .int 0, .int 0])), (q1, .inl (kA 6, 20, .inr (.inr (.inr (.inr (va_up f147 (16 : Int32).toNatClampNeg (some q148))))))), (q148, .inr (5, [.ref q151, .ref q152, .ref q153, .ref q154, .int 0]))] := hD
  generalize (va_up f147 (16 : Int32).toNatClampNeg (some q148)) = f156 at hP hD
  have hP := hP.sub (ws' := [(h0, .inr (7, [.ref q1, .int 0, .int 0])), (q1, .inl (kA 6, 20, .inr (.inr (.inr (.inr f156)))))]) [0, 1] rfl
  have hD := hD.sub (ws' := [(h0, .inr (7, [.ref q1, .int 0, .int 0])), (q1, .inl (kA 6, 20, .inr (.inr (.inr (.inr f156)))))]) [0, 1] (by decide) rfl
  refine lv_iinc (v := 17) (lv' := [(1, .int 17), (0, .ref h0)]) hx hb dX7_init_34 hl (k := 0) rfl (by decide) (by decide) rfl (fun ls hl => ?_)
  refine lv_goto (tgt := 15) hx hb dX7_init_37 (by decide) ?_
  refine lv_iload_n hx hb dX7_init_15 rfl (lv_at hl 0 rfl) ?_
  refine lv_bipush (v := 20) hx hb dX7_init_16 (by decide) ?_
  refine lv_icmp_ge (tgt := 40) hx hb dX7_init_18 (by decide) (fun c18 => ?_) (fun c18 => ?_)
  · exact False.elim (by revert c18; decide)
  refine lv_aload_n hx hb dX7_init_21 rfl (lv_at hl 1 rfl) ?_
  refine va_get (D := (dC, dI)) (ci := 7) (v := .ref q1) (C := RX7) (T := TX7) (N := 3) hx hb hts uX7 hown hK hP 0 rfl rfl 0 (by decide) (hts _ lk_358) (fun _ h9 => h9) rfl dX7_init_22 ?_
  refine lv_iload_n hx hb dX7_init_25 rfl (lv_at hl 0 rfl) ?_
  refine va_new (D := (dC, dI)) (ci := 5) (fs := [.null, .null, .null, .null, .int 0]) (C := RX5) (T := TX5) (N := 5) hx hb hts uX5 tyX5 tyX5_ok hown (hts _ lk_355) (hts _ lk_272) (hts _ lk_116) hK hP hD hS hA rfl vX5 (Nat.le_of_ble_eq_true rfl) (Nat.le_of_ble_eq_true rfl) dX7_init_26 (fun q157 H158 hP hD hS => ?_)
  have hP : va_P (dC, dI) vwCl [(h0, .inr (7, [.ref q1, .int 0, .int 0])), (q1, .inl (kA 6, 20, .inr (.inr (.inr (.inr f156))))), (q157, .inr (5, [.null, .null, .null, .null, .int 0]))] H158 := hP
  have hD : va_D A [(h0, .inr (7, [.ref q1, .int 0, .int 0])), (q1, .inl (kA 6, 20, .inr (.inr (.inr (.inr f156))))), (q157, .inr (5, [.null, .null, .null, .null, .int 0]))] := hD
  refine W.widen (k := 87) (n := 586) (Nat.le_of_ble_eq_true rfl) (Nat.le_of_ble_eq_true rfl) ?_
  refine lv_dup hx hb dX7_init_29 rfl ?_
  have hPc := hP.sub (ws' := [(q157, .inr (5, [.null, .null, .null, .null, .int 0]))]) [2] rfl
  have hDc := hD.sub (ws' := [(q157, .inr (5, [.null, .null, .null, .null, .int 0]))]) [2] (by decide) rfl
  refine cM (wc := [(q157, .inr (5, [.null, .null, .null, .null, .int 0]))]) (wr := [(h0, .inr (7, [.ref q1, .int 0, .int 0])), (q1, .inl (kA 6, 20, .inr (.inr (.inr (.inr f156)))))]) [2] [0, 1] hP hD hS hA rfl rfl (by decide) (by decide) (va_runIN (As := []) (rest := [.ref q157, .int 17, .ref q1]) ⟨hx, hb, hml, hown, hts⟩ (c_X5_init_s l dC dI kA H158.size q157 ) ⟨va_cnB 0 hts (gI lk_275) rfl rfl rfl (hN.at 12 rfl) (hts _ lk_116) (by decide +kernel) ⟨Nat.le_of_ble_eq_true rfl, Nat.le_of_ble_eq_true rfl⟩, rfl, hts _ lk_274⟩ (pw_s hPc hDc hK hN) rfl rfl hl.1 rfl (lv_room (Nat.le_of_ble_eq_true rfl)) dX7_init_30 ⟨Nat.le_of_ble_eq_true rfl, Nat.le_of_ble_eq_true rfl⟩) (fun w1 H159 locs hw hP hD hS => ?_)
  obtain ⟨q160, q161, q162, q163, rfl⟩ := hw
  have hP : va_P (dC, dI) vwCl [(h0, .inr (7, [.ref q1, .int 0, .int 0])), (q1, .inl (kA 6, 20, .inr (.inr (.inr (.inr f156))))), (q157, .inr (5, [.ref q160, .ref q161, .ref q162, .ref q163, .int 0]))] H159 := hP
  have hD : va_D A [(h0, .inr (7, [.ref q1, .int 0, .int 0])), (q1, .inl (kA 6, 20, .inr (.inr (.inr (.inr f156))))), (q157, .inr (5, [.ref q160, .ref q161, .ref q162, .ref q163, .int 0]))] := hD
  refine W.widen (k := 91) (n := 614) (Nat.le_of_ble_eq_true rfl) (Nat.le_of_ble_eq_true rfl) ?_
  refine W.eq (g2 := F0 m 33 ls [.ref q157, .int 17, .ref q1]) rfl ?_
  refine va_astq (D := (dC, dI)) hx hb hK hP hD hS 1 6 2 5 rfl rfl rfl rfl (vpi (by decide +kernel)) dX7_init_33 (fun H164 locs hP hD hS => ?_)
  have hP : va_P (dC, dI) vwCl [(h0, .inr (7, [.ref q1, .int 0, .int 0])), (q1, .inl (kA 6, 20, .inr (.inr (.inr (.inr (va_up f156 (17 : Int32).toNatClampNeg (some q157))))))), (q157, .inr (5, [.ref q160, .ref q161, .ref q162, .ref q163, .int 0]))] H164 := hP
  have hD : va_D A [(h0, .inr (7, [.ref q1, .int 0, .int 0])), (q1, .inl (kA 6, 20, .inr (.inr (.inr (.inr (va_up f156 (17 : Int32).toNatClampNeg (some q157))))))), (q157, .inr (5, [.ref q160, .ref q161, .ref q162, .ref q163, .int 0]))] := hD
  generalize (va_up f156 (17 : Int32).toNatClampNeg (some q157)) = f165 at hP hD
  have hP := hP.sub (ws' := [(h0, .inr (7, [.ref q1, .int 0, .int 0])), (q1, .inl (kA 6, 20, .inr (.inr (.inr (.inr f165)))))]) [0, 1] rfl
  have hD := hD.sub (ws' := [(h0, .inr (7, [.ref q1, .int 0, .int 0])), (q1, .inl (kA 6, 20, .inr (.inr (.inr (.inr f165)))))]) [0, 1] (by decide) rfl
  refine lv_iinc (v := 18) (lv' := [(1, .int 18), (0, .ref h0)]) hx hb dX7_init_34 hl (k := 0) rfl (by decide) (by decide) rfl (fun ls hl => ?_)
  refine lv_goto (tgt := 15) hx hb dX7_init_37 (by decide) ?_
  refine lv_iload_n hx hb dX7_init_15 rfl (lv_at hl 0 rfl) ?_
  refine lv_bipush (v := 20) hx hb dX7_init_16 (by decide) ?_
  refine lv_icmp_ge (tgt := 40) hx hb dX7_init_18 (by decide) (fun c19 => ?_) (fun c19 => ?_)
  · exact False.elim (by revert c19; decide)
  refine lv_aload_n hx hb dX7_init_21 rfl (lv_at hl 1 rfl) ?_
  refine va_get (D := (dC, dI)) (ci := 7) (v := .ref q1) (C := RX7) (T := TX7) (N := 3) hx hb hts uX7 hown hK hP 0 rfl rfl 0 (by decide) (hts _ lk_358) (fun _ h9 => h9) rfl dX7_init_22 ?_
  refine lv_iload_n hx hb dX7_init_25 rfl (lv_at hl 0 rfl) ?_
  refine va_new (D := (dC, dI)) (ci := 5) (fs := [.null, .null, .null, .null, .int 0]) (C := RX5) (T := TX5) (N := 5) hx hb hts uX5 tyX5 tyX5_ok hown (hts _ lk_355) (hts _ lk_272) (hts _ lk_116) hK hP hD hS hA rfl vX5 (Nat.le_of_ble_eq_true rfl) (Nat.le_of_ble_eq_true rfl) dX7_init_26 (fun q166 H167 hP hD hS => ?_)
  have hP : va_P (dC, dI) vwCl [(h0, .inr (7, [.ref q1, .int 0, .int 0])), (q1, .inl (kA 6, 20, .inr (.inr (.inr (.inr f165))))), (q166, .inr (5, [.null, .null, .null, .null, .int 0]))] H167 := hP
  have hD : va_D A [(h0, .inr (7, [.ref q1, .int 0, .int 0])), (q1, .inl (kA 6, 20, .inr (.inr (.inr (.inr f165))))), (q166, .inr (5, [.null, .null, .null, .null, .int 0]))] := hD
  refine W.widen (k := 92) (n := 619) (Nat.le_of_ble_eq_true rfl) (Nat.le_of_ble_eq_true rfl) ?_
  refine lv_dup hx hb dX7_init_29 rfl ?_
  have hPc := hP.sub (ws' := [(q166, .inr (5, [.null, .null, .null, .null, .int 0]))]) [2] rfl
  have hDc := hD.sub (ws' := [(q166, .inr (5, [.null, .null, .null, .null, .int 0]))]) [2] (by decide) rfl
  refine cM (wc := [(q166, .inr (5, [.null, .null, .null, .null, .int 0]))]) (wr := [(h0, .inr (7, [.ref q1, .int 0, .int 0])), (q1, .inl (kA 6, 20, .inr (.inr (.inr (.inr f165)))))]) [2] [0, 1] hP hD hS hA rfl rfl (by decide) (by decide) (va_runIN (As := []) (rest := [.ref q166, .int 18, .ref q1]) ⟨hx, hb, hml, hown, hts⟩ (c_X5_init_s l dC dI kA H167.size q166 ) ⟨va_cnB 0 hts (gI lk_275) rfl rfl rfl (hN.at 12 rfl) (hts _ lk_116) (by decide +kernel) ⟨Nat.le_of_ble_eq_true rfl, Nat.le_of_ble_eq_true rfl⟩, rfl, hts _ lk_274⟩ (pw_s hPc hDc hK hN) rfl rfl hl.1 rfl (lv_room (Nat.le_of_ble_eq_true rfl)) dX7_init_30 ⟨Nat.le_of_ble_eq_true rfl, Nat.le_of_ble_eq_true rfl⟩) (fun w1 H168 locs hw hP hD hS => ?_)
  obtain ⟨q169, q170, q171, q172, rfl⟩ := hw
  have hP : va_P (dC, dI) vwCl [(h0, .inr (7, [.ref q1, .int 0, .int 0])), (q1, .inl (kA 6, 20, .inr (.inr (.inr (.inr f165))))), (q166, .inr (5, [.ref q169, .ref q170, .ref q171, .ref q172, .int 0]))] H168 := hP
  have hD : va_D A [(h0, .inr (7, [.ref q1, .int 0, .int 0])), (q1, .inl (kA 6, 20, .inr (.inr (.inr (.inr f165))))), (q166, .inr (5, [.ref q169, .ref q170, .ref q171, .ref q172, .int 0]))] := hD
  refine W.widen (k := 96) (n := 647) (Nat.le_of_ble_eq_true rfl) (Nat.le_of_ble_eq_true rfl) ?_
  refine W.eq (g2 := F0 m 33 ls [.ref q166, .int 18, .ref q1]) rfl ?_
  refine va_astq (D := (dC, dI)) hx hb hK hP hD hS 1 6 2 5 rfl rfl rfl rfl (vpi (by decide +kernel)) dX7_init_33 (fun H173 locs hP hD hS => ?_)
  have hP : va_P (dC, dI) vwCl [(h0, .inr (7, [.ref q1, .int 0, .int 0])), (q1, .inl (kA 6, 20, .inr (.inr (.inr (.inr (va_up f165 (18 : Int32).toNatClampNeg (some q166))))))), (q166, .inr (5, [.ref q169, .ref q170, .ref q171, .ref q172, .int 0]))] H173 := hP
  have hD : va_D A [(h0, .inr (7, [.ref q1, .int 0, .int 0])), (q1, .inl (kA 6, 20, .inr (.inr (.inr (.inr (va_up f165 (18 : Int32).toNatClampNeg (some q166))))))), (q166, .inr (5, [.ref q169, .ref q170, .ref q171, .ref q172, .int 0]))] := hD
  generalize (va_up f165 (18 : Int32).toNatClampNeg (some q166)) = f174 at hP hD
  have hP := hP.sub (ws' := [(h0, .inr (7, [.ref q1, .int 0, .int 0])), (q1, .inl (kA 6, 20, .inr (.inr (.inr (.inr f174)))))]) [0, 1] rfl
  have hD := hD.sub (ws' := [(h0, .inr (7, [.ref q1, .int 0, .int 0])), (q1, .inl (kA 6, 20, .inr (.inr (.inr (.inr f174)))))]) [0, 1] (by decide) rfl
  refine lv_iinc (v := 19) (lv' := [(1, .int 19), (0, .ref h0)]) hx hb dX7_init_34 hl (k := 0) rfl (by decide) (by decide) rfl (fun ls hl => ?_)
  refine lv_goto (tgt := 15) hx hb dX7_init_37 (by decide) ?_
  refine lv_iload_n hx hb dX7_init_15 rfl (lv_at hl 0 rfl) ?_
  refine lv_bipush (v := 20) hx hb dX7_init_16 (by decide) ?_
  refine lv_icmp_ge (tgt := 40) hx hb dX7_init_18 (by decide) (fun c20 => ?_) (fun c20 => ?_)
  · exact False.elim (by revert c20; decide)
  refine lv_aload_n hx hb dX7_init_21 rfl (lv_at hl 1 rfl) ?_
  refine va_get (D := (dC, dI)) (ci := 7) (v := .ref q1) (C := RX7) (T := TX7) (N := 3) hx hb hts uX7 hown hK hP 0 rfl rfl 0 (by decide) (hts _ lk_358) (fun _ h9 => h9) rfl dX7_init_22 ?_
  refine lv_iload_n hx hb dX7_init_25 rfl (lv_at hl 0 rfl) ?_
  refine va_new (D := (dC, dI)) (ci := 5) (fs := [.null, .null, .null, .null, .int 0]) (C := RX5) (T := TX5) (N := 5) hx hb hts uX5 tyX5 tyX5_ok hown (hts _ lk_355) (hts _ lk_272) (hts _ lk_116) hK hP hD hS hA rfl vX5 (Nat.le_of_ble_eq_true rfl) (Nat.le_of_ble_eq_true rfl) dX7_init_26 (fun q175 H176 hP hD hS => ?_)
  have hP : va_P (dC, dI) vwCl [(h0, .inr (7, [.ref q1, .int 0, .int 0])), (q1, .inl (kA 6, 20, .inr (.inr (.inr (.inr f174))))), (q175, .inr (5, [.null, .null, .null, .null, .int 0]))] H176 := hP
  have hD : va_D A [(h0, .inr (7, [.ref q1, .int 0, .int 0])), (q1, .inl (kA 6, 20, .inr (.inr (.inr (.inr f174))))), (q175, .inr (5, [.null, .null, .null, .null, .int 0]))] := hD
  refine W.widen (k := 97) (n := 652) (Nat.le_of_ble_eq_true rfl) (Nat.le_of_ble_eq_true rfl) ?_
  refine lv_dup hx hb dX7_init_29 rfl ?_
  have hPc := hP.sub (ws' := [(q175, .inr (5, [.null, .null, .null, .null, .int 0]))]) [2] rfl
  have hDc := hD.sub (ws' := [(q175, .inr (5, [.null, .null, .null, .null, .int 0]))]) [2] (by decide) rfl
  refine cM (wc := [(q175, .inr (5, [.null, .null, .null, .null, .int 0]))]) (wr := [(h0, .inr (7, [.ref q1, .int 0, .int 0])), (q1, .inl (kA 6, 20, .inr (.inr (.inr (.inr f174)))))]) [2] [0, 1] hP hD hS hA rfl rfl (by decide) (by decide) (va_runIN (As := []) (rest := [.ref q175, .int 19, .ref q1]) ⟨hx, hb, hml, hown, hts⟩ (c_X5_init_s l dC dI kA H176.size q175 ) ⟨va_cnB 0 hts (gI lk_275) rfl rfl rfl (hN.at 12 rfl) (hts _ lk_116) (by decide +kernel) ⟨Nat.le_of_ble_eq_true rfl, Nat.le_of_ble_eq_true rfl⟩, rfl, hts _ lk_274⟩ (pw_s hPc hDc hK hN) rfl rfl hl.1 rfl (lv_room (Nat.le_of_ble_eq_true rfl)) dX7_init_30 ⟨Nat.le_of_ble_eq_true rfl, Nat.le_of_ble_eq_true rfl⟩) (fun w1 H177 locs hw hP hD hS => ?_)
  obtain ⟨q178, q179, q180, q181, rfl⟩ := hw
  have hP : va_P (dC, dI) vwCl [(h0, .inr (7, [.ref q1, .int 0, .int 0])), (q1, .inl (kA 6, 20, .inr (.inr (.inr (.inr f174))))), (q175, .inr (5, [.ref q178, .ref q179, .ref q180, .ref q181, .int 0]))] H177 := hP
  have hD : va_D A [(h0, .inr (7, [.ref q1, .int 0, .int 0])), (q1, .inl (kA 6, 20, .inr (.inr (.inr (.inr f174))))), (q175, .inr (5, [.ref q178, .ref q179, .ref q180, .ref q181, .int 0]))] := hD
  refine W.widen (k := 101) (n := 680) (Nat.le_of_ble_eq_true rfl) (Nat.le_of_ble_eq_true rfl) ?_
  refine W.eq (g2 := F0 m 33 ls [.ref q175, .int 19, .ref q1]) rfl ?_
  refine va_astq (D := (dC, dI)) hx hb hK hP hD hS 1 6 2 5 rfl rfl rfl rfl (vpi (by decide +kernel)) dX7_init_33 (fun H182 locs hP hD hS => ?_)
  have hP : va_P (dC, dI) vwCl [(h0, .inr (7, [.ref q1, .int 0, .int 0])), (q1, .inl (kA 6, 20, .inr (.inr (.inr (.inr (va_up f174 (19 : Int32).toNatClampNeg (some q175))))))), (q175, .inr (5, [.ref q178, .ref q179, .ref q180, .ref q181, .int 0]))] H182 := hP
  have hD : va_D A [(h0, .inr (7, [.ref q1, .int 0, .int 0])), (q1, .inl (kA 6, 20, .inr (.inr (.inr (.inr (va_up f174 (19 : Int32).toNatClampNeg (some q175))))))), (q175, .inr (5, [.ref q178, .ref q179, .ref q180, .ref q181, .int 0]))] := hD
  generalize (va_up f174 (19 : Int32).toNatClampNeg (some q175)) = f183 at hP hD
  have hP := hP.sub (ws' := [(h0, .inr (7, [.ref q1, .int 0, .int 0])), (q1, .inl (kA 6, 20, .inr (.inr (.inr (.inr f183)))))]) [0, 1] rfl
  have hD := hD.sub (ws' := [(h0, .inr (7, [.ref q1, .int 0, .int 0])), (q1, .inl (kA 6, 20, .inr (.inr (.inr (.inr f183)))))]) [0, 1] (by decide) rfl
  refine lv_iinc (v := 20) (lv' := [(1, .int 20), (0, .ref h0)]) hx hb dX7_init_34 hl (k := 0) rfl (by decide) (by decide) rfl (fun ls hl => ?_)
  refine lv_goto (tgt := 15) hx hb dX7_init_37 (by decide) ?_
  refine lv_iload_n hx hb dX7_init_15 rfl (lv_at hl 0 rfl) ?_
  refine lv_bipush (v := 20) hx hb dX7_init_16 (by decide) ?_
  refine lv_icmp_ge (tgt := 40) hx hb dX7_init_18 (by decide) (fun c21 => ?_) (fun c21 => ?_)
  rotate_left
  · exact False.elim (by revert c21; decide)
  refine W.widen (k := 101) (n := 680) (Nat.le_of_ble_eq_true rfl) (Nat.le_of_ble_eq_true rfl) ?_
  have hP9 := hP.sub (ws' := [(h0, .inr (7, [.ref q1, .int 0, .int 0]))]) [0] rfl
  have hD9 := hD.sub (ws' := [(h0, .inr (7, [.ref q1, .int 0, .int 0]))]) [0] (by decide) rfl
  exact rM_v hx hb hr hlocks hP9 hD9 hS ⟨q1, rfl⟩ dX7_init_40

set_option maxHeartbeats 4000000 in
set_option maxRecDepth 100000 in
theorem c_X6_init (l : Launch) (dC : Nat → ClassId) (dI : Nat → Nat → Nat) (kA : Nat → ClassId) (sz : Nat) (h0 : Nat)  : Met l yX6_init (wsU yX6_init cX6_init 1 none) ({ frames := 1, cells := 11, slots := 199, locals := 12 }) (va_Pc [.ref h0] (PW dC dI kA [(h0, .inr (6, [.null, .null, .null, .null, .null, .int 0]))] sz)) (QU dC dI none (fun w => ∃ (q1 : Nat) (q4 : Nat) (q7 : Nat), w = [(h0, .inr (6, [.ref q1, .ref q4, .ref q7, .null, .null, .int 0]))]) (va_A [(h0, .inr (6, [.null, .null, .null, .null, .null, .int 0]))] sz)) 11 199 (va_A [(h0, .inr (6, [.null, .null, .null, .null, .null, .int 0]))] sz) := by
  refine met_M (own := RX6) (by decide) rfl (Nat.le_of_ble_eq_true rfl) ?_
  intro p e s m below meth c ls A hx hb hr hts hown hlocks hml hin hK hN hA hP hD hS hl
  have hl : lv_has ls 1 [(0, .ref h0)] := hl
  have hP : va_P (dC, dI) vwCl [(h0, .inr (6, [.null, .null, .null, .null, .null, .int 0]))] s.heap := hP
  have hD : va_D A [(h0, .inr (6, [.null, .null, .null, .null, .null, .int 0]))] := hD
  have hin : meth.name = "<init>" := hin
  refine lv_aload_n hx hb dX6_init_0 rfl (lv_at hl 0 rfl) ?_
  refine W.objInit hx hb hown (hts _ lk_388) (hts _ lk_137) (hts _ lk_138) rfl (by rw [hml]; exact hl.1) rfl dX6_init_1 (Nat.le_of_ble_eq_true rfl) (Nat.le_of_ble_eq_true rfl) ?_
  refine W.eq (g2 := F0 m 4 ls []) rfl ?_
  refine lv_aload_n hx hb dX6_init_4 rfl (lv_at hl 0 rfl) ?_
  refine lv_bipush (v := 7) hx hb dX6_init_5 (by decide) ?_
  refine nw_a (atype := .int) (ty := .int) (N' := 7) (a0 := (7, .inl (fun _ => 0))) hx hb (hts _ lk_198) rfl hK hP hD hS hA 0 rfl (va_zi 7 .int rfl) (by decide +kernel) (by decide +kernel) (by decide +kernel) (Nat.le_of_ble_eq_true rfl) (Nat.le_of_ble_eq_true rfl) dX6_init_7 (fun q1 H2 hP hD hS => ?_)
  have hP : va_P (dC, dI) vwCl [(h0, .inr (6, [.null, .null, .null, .null, .null, .int 0])), (q1, .inl (kA 0, 7, .inl (fun _ => 0)))] H2 := hP
  have hD : va_D A [(h0, .inr (6, [.null, .null, .null, .null, .null, .int 0])), (q1, .inl (kA 0, 7, .inl (fun _ => 0)))] := hD
  refine W.widen (k := 1) (n := 7) (Nat.le_of_ble_eq_true rfl) (Nat.le_of_ble_eq_true rfl) ?_
  refine va_putF (D := (dC, dI)) (ci := 6) (v := .ref q1) (ty := .array .int) (C := RX6) (T := TX6) (N := 6) hx hb hts uX6 tyX6 tyX6_ok nmX6 hown hK hP hD hS 0 rfl rfl 0 (by decide) (hts _ lk_391) (fun _ h9 => h9) rfl hin rfl (by decide +kernel) rfl rfl (Nat.le_of_ble_eq_true rfl) dX6_init_9 (fun H3 locs hP hD hS => ?_)
  have hP : va_P (dC, dI) vwCl [(h0, .inr (6, [.ref q1, .null, .null, .null, .null, .int 0])), (q1, .inl (kA 0, 7, .inl (fun _ => 0)))] H3 := hP
  have hD : va_D A [(h0, .inr (6, [.ref q1, .null, .null, .null, .null, .int 0])), (q1, .inl (kA 0, 7, .inl (fun _ => 0)))] := hD
  refine lv_aload_n hx hb dX6_init_12 rfl (lv_at hl 0 rfl) ?_
  refine lv_sipush (v := 128) hx hb dX6_init_13 (by decide) ?_
  refine nw_a (atype := .int) (ty := .int) (N' := 128) (a0 := (128, .inl (fun _ => 0))) hx hb (hts _ lk_198) rfl hK hP hD hS hA 0 rfl (va_zi 128 .int rfl) (by decide +kernel) (by decide +kernel) (by decide +kernel) (Nat.le_of_ble_eq_true rfl) (Nat.le_of_ble_eq_true rfl) dX6_init_16 (fun q4 H5 hP hD hS => ?_)
  have hP : va_P (dC, dI) vwCl [(h0, .inr (6, [.ref q1, .null, .null, .null, .null, .int 0])), (q1, .inl (kA 0, 7, .inl (fun _ => 0))), (q4, .inl (kA 0, 128, .inl (fun _ => 0)))] H5 := hP
  have hD : va_D A [(h0, .inr (6, [.ref q1, .null, .null, .null, .null, .int 0])), (q1, .inl (kA 0, 7, .inl (fun _ => 0))), (q4, .inl (kA 0, 128, .inl (fun _ => 0)))] := hD
  refine W.widen (k := 2) (n := 135) (Nat.le_of_ble_eq_true rfl) (Nat.le_of_ble_eq_true rfl) ?_
  refine va_putF (D := (dC, dI)) (ci := 6) (v := .ref q4) (ty := .array .int) (C := RX6) (T := TX6) (N := 6) hx hb hts uX6 tyX6 tyX6_ok nmX6 hown hK hP hD hS 0 rfl rfl 1 (by decide) (hts _ lk_392) (fun _ h9 => h9) rfl hin rfl (by decide +kernel) rfl rfl (Nat.le_of_ble_eq_true rfl) dX6_init_18 (fun H6 locs hP hD hS => ?_)
  have hP : va_P (dC, dI) vwCl [(h0, .inr (6, [.ref q1, .ref q4, .null, .null, .null, .int 0])), (q1, .inl (kA 0, 7, .inl (fun _ => 0))), (q4, .inl (kA 0, 128, .inl (fun _ => 0)))] H6 := hP
  have hD : va_D A [(h0, .inr (6, [.ref q1, .ref q4, .null, .null, .null, .int 0])), (q1, .inl (kA 0, 7, .inl (fun _ => 0))), (q4, .inl (kA 0, 128, .inl (fun _ => 0)))] := hD
  refine lv_aload_n hx hb dX6_init_21 rfl (lv_at hl 0 rfl) ?_
  refine lv_bipush (v := 8) hx hb dX6_init_22 (by decide) ?_
  refine lv_bipush (v := 7) hx hb dX6_init_24 (by decide) ?_
  refine nw_m hx hb hown (hts _ lk_389) hN.2.2.2.2 hP hD hS (Nat.le_of_ble_eq_true rfl) (Nat.le_of_ble_eq_true rfl) dX6_init_26 (fun q7 H8 hP hD hS => ?_)
  have hP : va_P (dC, dI) vwCl [(h0, .inr (6, [.ref q1, .ref q4, .null, .null, .null, .int 0])), (q1, .inl (kA 0, 7, .inl (fun _ => 0))), (q4, .inl (kA 0, 128, .inl (fun _ => 0)))] H8 := hP
  have hD : va_D A [(h0, .inr (6, [.ref q1, .ref q4, .null, .null, .null, .int 0])), (q1, .inl (kA 0, 7, .inl (fun _ => 0))), (q4, .inl (kA 0, 128, .inl (fun _ => 0)))] := hD
  refine W.widen (k := 11) (n := 199) (Nat.le_of_ble_eq_true rfl) (Nat.le_of_ble_eq_true rfl) ?_
  refine va_putF (D := (dC, dI)) (ci := 6) (v := .ref q7) (ty := .array (.array .int)) (C := RX6) (T := TX6) (N := 6) hx hb hts uX6 tyX6 tyX6_ok nmX6 hown hK hP hD hS 0 rfl rfl 2 (by decide) (hts _ lk_393) (fun _ h9 => h9) rfl hin rfl (by decide +kernel) rfl rfl (Nat.le_of_ble_eq_true rfl) dX6_init_30 (fun H9 locs hP hD hS => ?_)
  have hP : va_P (dC, dI) vwCl [(h0, .inr (6, [.ref q1, .ref q4, .ref q7, .null, .null, .int 0])), (q1, .inl (kA 0, 7, .inl (fun _ => 0))), (q4, .inl (kA 0, 128, .inl (fun _ => 0)))] H9 := hP
  have hD : va_D A [(h0, .inr (6, [.ref q1, .ref q4, .ref q7, .null, .null, .int 0])), (q1, .inl (kA 0, 7, .inl (fun _ => 0))), (q4, .inl (kA 0, 128, .inl (fun _ => 0)))] := hD
  refine W.widen (k := 11) (n := 199) (Nat.le_of_ble_eq_true rfl) (Nat.le_of_ble_eq_true rfl) ?_
  have hP9 := hP.sub (ws' := [(h0, .inr (6, [.ref q1, .ref q4, .ref q7, .null, .null, .int 0]))]) [0] rfl
  have hD9 := hD.sub (ws' := [(h0, .inr (6, [.ref q1, .ref q4, .ref q7, .null, .null, .int 0]))]) [0] (by decide) rfl
  exact rM_v hx hb hr hlocks hP9 hD9 hS ⟨q1, q4, q7, rfl⟩ dX6_init_33

set_option maxHeartbeats 4000000 in
set_option maxRecDepth 100000 in
theorem c_X0_init_s (l : Launch) (dC : Nat → ClassId) (dI : Nat → Nat → Nat) (kA : Nat → ClassId) (sz : Nat) (h0 : Nat)  : Met l yX0_init (wsU yX0_init cX0_init 1 none) ({ frames := 2, cells := 5, slots := 33, locals := 32 }) (va_Pc [.ref h0] (PW dC dI kA [(h0, .inr (0, [.null, .int 0, .int 0, .int 0, .int 0, .int 0]))] sz)) (QU dC dI none (fun w => ∃ (q1 : Nat), w = [(h0, .inr (0, [.ref q1, .int 0, .int 0, .int 0, .int 0, .int 0]))]) (va_A [(h0, .inr (0, [.null, .int 0, .int 0, .int 0, .int 0, .int 0]))] sz)) 5 33 (va_A [(h0, .inr (0, [.null, .int 0, .int 0, .int 0, .int 0, .int 0]))] sz) := by
  refine met_M (own := RX0) (by decide) rfl (Nat.le_of_ble_eq_true rfl) ?_
  intro p e s m below meth c ls A hx hb hr hts hown hlocks hml hin hK hN hA hP hD hS hl
  have hl : lv_has ls 1 [(0, .ref h0)] := hl
  have hP : va_P (dC, dI) vwCl [(h0, .inr (0, [.null, .int 0, .int 0, .int 0, .int 0, .int 0]))] s.heap := hP
  have hD : va_D A [(h0, .inr (0, [.null, .int 0, .int 0, .int 0, .int 0, .int 0]))] := hD
  have hin : meth.name = "<init>" := hin
  refine lv_aload_n hx hb dX0_init_0 rfl (lv_at hl 0 rfl) ?_
  refine W.objInit hx hb hown (hts _ lk_415) (hts _ lk_137) (hts _ lk_138) rfl (by rw [hml]; exact hl.1) rfl dX0_init_1 (Nat.le_of_ble_eq_true rfl) (Nat.le_of_ble_eq_true rfl) ?_
  refine W.eq (g2 := F0 m 4 ls []) rfl ?_
  refine lv_aload_n hx hb dX0_init_4 rfl (lv_at hl 0 rfl) ?_
  refine va_new (D := (dC, dI)) (ci := 5) (fs := [.null, .null, .null, .null, .int 0]) (C := RX5) (T := TX5) (N := 5) hx hb hts uX5 tyX5 tyX5_ok hown (hts _ lk_416) (hts _ lk_272) (hts _ lk_116) hK hP hD hS hA rfl vX5 (Nat.le_of_ble_eq_true rfl) (Nat.le_of_ble_eq_true rfl) dX0_init_5 (fun q1 H2 hP hD hS => ?_)
  have hP : va_P (dC, dI) vwCl [(h0, .inr (0, [.null, .int 0, .int 0, .int 0, .int 0, .int 0])), (q1, .inr (5, [.null, .null, .null, .null, .int 0]))] H2 := hP
  have hD : va_D A [(h0, .inr (0, [.null, .int 0, .int 0, .int 0, .int 0, .int 0])), (q1, .inr (5, [.null, .null, .null, .null, .int 0]))] := hD
  refine W.widen (k := 1) (n := 5) (Nat.le_of_ble_eq_true rfl) (Nat.le_of_ble_eq_true rfl) ?_
  refine lv_dup hx hb dX0_init_8 rfl ?_
  have hPc := hP.sub (ws' := [(q1, .inr (5, [.null, .null, .null, .null, .int 0]))]) [1] rfl
  have hDc := hD.sub (ws' := [(q1, .inr (5, [.null, .null, .null, .null, .int 0]))]) [1] (by decide) rfl
  refine cM (wc := [(q1, .inr (5, [.null, .null, .null, .null, .int 0]))]) (wr := [(h0, .inr (0, [.null, .int 0, .int 0, .int 0, .int 0, .int 0]))]) [1] [0] hP hD hS hA rfl rfl (by decide) (by decide) (va_runIN (As := []) (rest := [.ref q1, .ref h0]) ⟨hx, hb, hml, hown, hts⟩ (c_X5_init l dC dI kA H2.size q1 ) ⟨va_cnB 0 hts (gI lk_275) rfl rfl rfl (hN.at 9 rfl) (hts _ lk_116) (by decide +kernel) ⟨Nat.le_of_ble_eq_true rfl, Nat.le_of_ble_eq_true rfl⟩, rfl, hts _ lk_274⟩ (pw_s hPc hDc hK hN) rfl rfl hl.1 rfl (lv_room (Nat.le_of_ble_eq_true rfl)) dX0_init_9 ⟨Nat.le_of_ble_eq_true rfl, Nat.le_of_ble_eq_true rfl⟩) (fun w1 H3 locs hw hP hD hS => ?_)
  obtain ⟨q4, q5, q6, q7, rfl⟩ := hw
  have hP : va_P (dC, dI) vwCl [(h0, .inr (0, [.null, .int 0, .int 0, .int 0, .int 0, .int 0])), (q1, .inr (5, [.ref q4, .ref q5, .ref q6, .ref q7, .int 0])), (q4, .inl (kA 0, 7, .inl (fun _ => 0))), (q5, .inl (kA 0, 7, .inl (fun _ => 0))), (q6, .inl (kA 0, 7, .inl (fun _ => 0))), (q7, .inl (kA 0, 7, .inl (fun _ => 0)))] H3 := hP
  have hD : va_D A [(h0, .inr (0, [.null, .int 0, .int 0, .int 0, .int 0, .int 0])), (q1, .inr (5, [.ref q4, .ref q5, .ref q6, .ref q7, .int 0])), (q4, .inl (kA 0, 7, .inl (fun _ => 0))), (q5, .inl (kA 0, 7, .inl (fun _ => 0))), (q6, .inl (kA 0, 7, .inl (fun _ => 0))), (q7, .inl (kA 0, 7, .inl (fun _ => 0)))] := hD
  refine W.widen (k := 5) (n := 33) (Nat.le_of_ble_eq_true rfl) (Nat.le_of_ble_eq_true rfl) ?_
  refine W.eq (g2 := F0 m 12 ls [.ref q1, .ref h0]) rfl ?_
  refine va_putF (D := (dC, dI)) (ci := 0) (v := .ref q1) (ty := .object "LinenName$Linen") (C := RX0) (T := TX0) (N := 6) hx hb hts uX0 tyX0 tyX0_ok nmX0 hown hK hP hD hS 0 rfl rfl 0 (by decide) (hts _ lk_418) (fun _ h9 => h9) rfl hin rfl (by decide +kernel) rfl rfl (Nat.le_of_ble_eq_true rfl) dX0_init_12 (fun H8 locs hP hD hS => ?_)
  have hP : va_P (dC, dI) vwCl [(h0, .inr (0, [.ref q1, .int 0, .int 0, .int 0, .int 0, .int 0])), (q1, .inr (5, [.ref q4, .ref q5, .ref q6, .ref q7, .int 0])), (q4, .inl (kA 0, 7, .inl (fun _ => 0))), (q5, .inl (kA 0, 7, .inl (fun _ => 0))), (q6, .inl (kA 0, 7, .inl (fun _ => 0))), (q7, .inl (kA 0, 7, .inl (fun _ => 0)))] H8 := hP
  have hD : va_D A [(h0, .inr (0, [.ref q1, .int 0, .int 0, .int 0, .int 0, .int 0])), (q1, .inr (5, [.ref q4, .ref q5, .ref q6, .ref q7, .int 0])), (q4, .inl (kA 0, 7, .inl (fun _ => 0))), (q5, .inl (kA 0, 7, .inl (fun _ => 0))), (q6, .inl (kA 0, 7, .inl (fun _ => 0))), (q7, .inl (kA 0, 7, .inl (fun _ => 0)))] := hD
  refine W.widen (k := 5) (n := 33) (Nat.le_of_ble_eq_true rfl) (Nat.le_of_ble_eq_true rfl) ?_
  have hP9 := hP.sub (ws' := [(h0, .inr (0, [.ref q1, .int 0, .int 0, .int 0, .int 0, .int 0]))]) [0] rfl
  have hD9 := hD.sub (ws' := [(h0, .inr (0, [.ref q1, .int 0, .int 0, .int 0, .int 0, .int 0]))]) [0] (by decide) rfl
  exact rM_v hx hb hr hlocks hP9 hD9 hS ⟨q1, rfl⟩ dX0_init_15

set_option maxHeartbeats 4000000 in
set_option maxRecDepth 100000 in
theorem c_X1_init_s (l : Launch) (dC : Nat → ClassId) (dI : Nat → Nat → Nat) (kA : Nat → ClassId) (sz : Nat) (h0 : Nat)  : Met l yX1_init (wsU yX1_init cX1_init 1 none) ({ frames := 1, cells := 5, slots := 38, locals := 12 }) (va_Pc [.ref h0] (PW dC dI kA [(h0, .inr (1, [.int 0, .int 0, .int 0, .int 0, .int 0, .null, .null, .null, .null, .null]))] sz)) (QU dC dI none (fun w => ∃ (q1 : Nat) (q4 : Nat) (q7 : Nat) (q10 : Nat) (q13 : Nat), w = [(h0, .inr (1, [.int 0, .int 0, .int 0, .int 0, .int 0, .ref q1, .ref q4, .ref q7, .ref q10, .ref q13]))]) (va_A [(h0, .inr (1, [.int 0, .int 0, .int 0, .int 0, .int 0, .null, .null, .null, .null, .null]))] sz)) 5 38 (va_A [(h0, .inr (1, [.int 0, .int 0, .int 0, .int 0, .int 0, .null, .null, .null, .null, .null]))] sz) := by
  refine met_M (own := RX1) (by decide) rfl (Nat.le_of_ble_eq_true rfl) ?_
  intro p e s m below meth c ls A hx hb hr hts hown hlocks hml hin hK hN hA hP hD hS hl
  have hl : lv_has ls 1 [(0, .ref h0)] := hl
  have hP : va_P (dC, dI) vwCl [(h0, .inr (1, [.int 0, .int 0, .int 0, .int 0, .int 0, .null, .null, .null, .null, .null]))] s.heap := hP
  have hD : va_D A [(h0, .inr (1, [.int 0, .int 0, .int 0, .int 0, .int 0, .null, .null, .null, .null, .null]))] := hD
  have hin : meth.name = "<init>" := hin
  refine lv_aload_n hx hb dX1_init_0 rfl (lv_at hl 0 rfl) ?_
  refine W.objInit hx hb hown (hts _ lk_212) (hts _ lk_137) (hts _ lk_138) rfl (by rw [hml]; exact hl.1) rfl dX1_init_1 (Nat.le_of_ble_eq_true rfl) (Nat.le_of_ble_eq_true rfl) ?_
  refine W.eq (g2 := F0 m 4 ls []) rfl ?_
  refine lv_aload_n hx hb dX1_init_4 rfl (lv_at hl 0 rfl) ?_
  refine lv_bipush (v := 7) hx hb dX1_init_5 (by decide) ?_
  refine nw_a (atype := .int) (ty := .int) (N' := 7) (a0 := (7, .inl (fun _ => 0))) hx hb (hts _ lk_198) rfl hK hP hD hS hA 0 rfl (va_zi 7 .int rfl) (by decide +kernel) (by decide +kernel) (by decide +kernel) (Nat.le_of_ble_eq_true rfl) (Nat.le_of_ble_eq_true rfl) dX1_init_7 (fun q1 H2 hP hD hS => ?_)
  have hP : va_P (dC, dI) vwCl [(h0, .inr (1, [.int 0, .int 0, .int 0, .int 0, .int 0, .null, .null, .null, .null, .null])), (q1, .inl (kA 0, 7, .inl (fun _ => 0)))] H2 := hP
  have hD : va_D A [(h0, .inr (1, [.int 0, .int 0, .int 0, .int 0, .int 0, .null, .null, .null, .null, .null])), (q1, .inl (kA 0, 7, .inl (fun _ => 0)))] := hD
  refine W.widen (k := 1) (n := 7) (Nat.le_of_ble_eq_true rfl) (Nat.le_of_ble_eq_true rfl) ?_
  refine va_putF (D := (dC, dI)) (ci := 1) (v := .ref q1) (ty := .array .int) (C := RX1) (T := TX1) (N := 10) hx hb hts uX1 tyX1 tyX1_ok nmX1 hown hK hP hD hS 0 rfl rfl 5 (by decide) (hts _ lk_233) (fun _ h9 => h9) rfl hin rfl (by decide +kernel) rfl rfl (Nat.le_of_ble_eq_true rfl) dX1_init_9 (fun H3 locs hP hD hS => ?_)
  have hP : va_P (dC, dI) vwCl [(h0, .inr (1, [.int 0, .int 0, .int 0, .int 0, .int 0, .ref q1, .null, .null, .null, .null])), (q1, .inl (kA 0, 7, .inl (fun _ => 0)))] H3 := hP
  have hD : va_D A [(h0, .inr (1, [.int 0, .int 0, .int 0, .int 0, .int 0, .ref q1, .null, .null, .null, .null])), (q1, .inl (kA 0, 7, .inl (fun _ => 0)))] := hD
  refine lv_aload_n hx hb dX1_init_12 rfl (lv_at hl 0 rfl) ?_
  refine lv_bipush (v := 7) hx hb dX1_init_13 (by decide) ?_
  refine nw_a (atype := .int) (ty := .int) (N' := 7) (a0 := (7, .inl (fun _ => 0))) hx hb (hts _ lk_198) rfl hK hP hD hS hA 0 rfl (va_zi 7 .int rfl) (by decide +kernel) (by decide +kernel) (by decide +kernel) (Nat.le_of_ble_eq_true rfl) (Nat.le_of_ble_eq_true rfl) dX1_init_15 (fun q4 H5 hP hD hS => ?_)
  have hP : va_P (dC, dI) vwCl [(h0, .inr (1, [.int 0, .int 0, .int 0, .int 0, .int 0, .ref q1, .null, .null, .null, .null])), (q1, .inl (kA 0, 7, .inl (fun _ => 0))), (q4, .inl (kA 0, 7, .inl (fun _ => 0)))] H5 := hP
  have hD : va_D A [(h0, .inr (1, [.int 0, .int 0, .int 0, .int 0, .int 0, .ref q1, .null, .null, .null, .null])), (q1, .inl (kA 0, 7, .inl (fun _ => 0))), (q4, .inl (kA 0, 7, .inl (fun _ => 0)))] := hD
  refine W.widen (k := 2) (n := 14) (Nat.le_of_ble_eq_true rfl) (Nat.le_of_ble_eq_true rfl) ?_
  refine va_putF (D := (dC, dI)) (ci := 1) (v := .ref q4) (ty := .array .int) (C := RX1) (T := TX1) (N := 10) hx hb hts uX1 tyX1 tyX1_ok nmX1 hown hK hP hD hS 0 rfl rfl 6 (by decide) (hts _ lk_235) (fun _ h9 => h9) rfl hin rfl (by decide +kernel) rfl rfl (Nat.le_of_ble_eq_true rfl) dX1_init_17 (fun H6 locs hP hD hS => ?_)
  have hP : va_P (dC, dI) vwCl [(h0, .inr (1, [.int 0, .int 0, .int 0, .int 0, .int 0, .ref q1, .ref q4, .null, .null, .null])), (q1, .inl (kA 0, 7, .inl (fun _ => 0))), (q4, .inl (kA 0, 7, .inl (fun _ => 0)))] H6 := hP
  have hD : va_D A [(h0, .inr (1, [.int 0, .int 0, .int 0, .int 0, .int 0, .ref q1, .ref q4, .null, .null, .null])), (q1, .inl (kA 0, 7, .inl (fun _ => 0))), (q4, .inl (kA 0, 7, .inl (fun _ => 0)))] := hD
  refine lv_aload_n hx hb dX1_init_20 rfl (lv_at hl 0 rfl) ?_
  refine lv_bipush (v := 8) hx hb dX1_init_21 (by decide) ?_
  refine nw_a (atype := .int) (ty := .int) (N' := 8) (a0 := (8, .inl (fun _ => 0))) hx hb (hts _ lk_198) rfl hK hP hD hS hA 0 rfl (va_zi 8 .int rfl) (by decide +kernel) (by decide +kernel) (by decide +kernel) (Nat.le_of_ble_eq_true rfl) (Nat.le_of_ble_eq_true rfl) dX1_init_23 (fun q7 H8 hP hD hS => ?_)
  have hP : va_P (dC, dI) vwCl [(h0, .inr (1, [.int 0, .int 0, .int 0, .int 0, .int 0, .ref q1, .ref q4, .null, .null, .null])), (q1, .inl (kA 0, 7, .inl (fun _ => 0))), (q4, .inl (kA 0, 7, .inl (fun _ => 0))), (q7, .inl (kA 0, 8, .inl (fun _ => 0)))] H8 := hP
  have hD : va_D A [(h0, .inr (1, [.int 0, .int 0, .int 0, .int 0, .int 0, .ref q1, .ref q4, .null, .null, .null])), (q1, .inl (kA 0, 7, .inl (fun _ => 0))), (q4, .inl (kA 0, 7, .inl (fun _ => 0))), (q7, .inl (kA 0, 8, .inl (fun _ => 0)))] := hD
  refine W.widen (k := 3) (n := 22) (Nat.le_of_ble_eq_true rfl) (Nat.le_of_ble_eq_true rfl) ?_
  refine va_putF (D := (dC, dI)) (ci := 1) (v := .ref q7) (ty := .array .int) (C := RX1) (T := TX1) (N := 10) hx hb hts uX1 tyX1 tyX1_ok nmX1 hown hK hP hD hS 0 rfl rfl 7 (by decide) (hts _ lk_241) (fun _ h9 => h9) rfl hin rfl (by decide +kernel) rfl rfl (Nat.le_of_ble_eq_true rfl) dX1_init_25 (fun H9 locs hP hD hS => ?_)
  have hP : va_P (dC, dI) vwCl [(h0, .inr (1, [.int 0, .int 0, .int 0, .int 0, .int 0, .ref q1, .ref q4, .ref q7, .null, .null])), (q1, .inl (kA 0, 7, .inl (fun _ => 0))), (q4, .inl (kA 0, 7, .inl (fun _ => 0))), (q7, .inl (kA 0, 8, .inl (fun _ => 0)))] H9 := hP
  have hD : va_D A [(h0, .inr (1, [.int 0, .int 0, .int 0, .int 0, .int 0, .ref q1, .ref q4, .ref q7, .null, .null])), (q1, .inl (kA 0, 7, .inl (fun _ => 0))), (q4, .inl (kA 0, 7, .inl (fun _ => 0))), (q7, .inl (kA 0, 8, .inl (fun _ => 0)))] := hD
  refine lv_aload_n hx hb dX1_init_28 rfl (lv_at hl 0 rfl) ?_
  refine lv_bipush (v := 8) hx hb dX1_init_29 (by decide) ?_
  refine nw_a (atype := .int) (ty := .int) (N' := 8) (a0 := (8, .inl (fun _ => 0))) hx hb (hts _ lk_198) rfl hK hP hD hS hA 0 rfl (va_zi 8 .int rfl) (by decide +kernel) (by decide +kernel) (by decide +kernel) (Nat.le_of_ble_eq_true rfl) (Nat.le_of_ble_eq_true rfl) dX1_init_31 (fun q10 H11 hP hD hS => ?_)
  have hP : va_P (dC, dI) vwCl [(h0, .inr (1, [.int 0, .int 0, .int 0, .int 0, .int 0, .ref q1, .ref q4, .ref q7, .null, .null])), (q1, .inl (kA 0, 7, .inl (fun _ => 0))), (q4, .inl (kA 0, 7, .inl (fun _ => 0))), (q7, .inl (kA 0, 8, .inl (fun _ => 0))), (q10, .inl (kA 0, 8, .inl (fun _ => 0)))] H11 := hP
  have hD : va_D A [(h0, .inr (1, [.int 0, .int 0, .int 0, .int 0, .int 0, .ref q1, .ref q4, .ref q7, .null, .null])), (q1, .inl (kA 0, 7, .inl (fun _ => 0))), (q4, .inl (kA 0, 7, .inl (fun _ => 0))), (q7, .inl (kA 0, 8, .inl (fun _ => 0))), (q10, .inl (kA 0, 8, .inl (fun _ => 0)))] := hD
  refine W.widen (k := 4) (n := 30) (Nat.le_of_ble_eq_true rfl) (Nat.le_of_ble_eq_true rfl) ?_
  refine va_putF (D := (dC, dI)) (ci := 1) (v := .ref q10) (ty := .array .int) (C := RX1) (T := TX1) (N := 10) hx hb hts uX1 tyX1 tyX1_ok nmX1 hown hK hP hD hS 0 rfl rfl 8 (by decide) (hts _ lk_244) (fun _ h9 => h9) rfl hin rfl (by decide +kernel) rfl rfl (Nat.le_of_ble_eq_true rfl) dX1_init_33 (fun H12 locs hP hD hS => ?_)
  have hP : va_P (dC, dI) vwCl [(h0, .inr (1, [.int 0, .int 0, .int 0, .int 0, .int 0, .ref q1, .ref q4, .ref q7, .ref q10, .null])), (q1, .inl (kA 0, 7, .inl (fun _ => 0))), (q4, .inl (kA 0, 7, .inl (fun _ => 0))), (q7, .inl (kA 0, 8, .inl (fun _ => 0))), (q10, .inl (kA 0, 8, .inl (fun _ => 0)))] H12 := hP
  have hD : va_D A [(h0, .inr (1, [.int 0, .int 0, .int 0, .int 0, .int 0, .ref q1, .ref q4, .ref q7, .ref q10, .null])), (q1, .inl (kA 0, 7, .inl (fun _ => 0))), (q4, .inl (kA 0, 7, .inl (fun _ => 0))), (q7, .inl (kA 0, 8, .inl (fun _ => 0))), (q10, .inl (kA 0, 8, .inl (fun _ => 0)))] := hD
  refine lv_aload_n hx hb dX1_init_36 rfl (lv_at hl 0 rfl) ?_
  refine lv_bipush (v := 8) hx hb dX1_init_37 (by decide) ?_
  refine nw_a (atype := .int) (ty := .int) (N' := 8) (a0 := (8, .inl (fun _ => 0))) hx hb (hts _ lk_198) rfl hK hP hD hS hA 0 rfl (va_zi 8 .int rfl) (by decide +kernel) (by decide +kernel) (by decide +kernel) (Nat.le_of_ble_eq_true rfl) (Nat.le_of_ble_eq_true rfl) dX1_init_39 (fun q13 H14 hP hD hS => ?_)
  have hP : va_P (dC, dI) vwCl [(h0, .inr (1, [.int 0, .int 0, .int 0, .int 0, .int 0, .ref q1, .ref q4, .ref q7, .ref q10, .null])), (q1, .inl (kA 0, 7, .inl (fun _ => 0))), (q4, .inl (kA 0, 7, .inl (fun _ => 0))), (q7, .inl (kA 0, 8, .inl (fun _ => 0))), (q10, .inl (kA 0, 8, .inl (fun _ => 0))), (q13, .inl (kA 0, 8, .inl (fun _ => 0)))] H14 := hP
  have hD : va_D A [(h0, .inr (1, [.int 0, .int 0, .int 0, .int 0, .int 0, .ref q1, .ref q4, .ref q7, .ref q10, .null])), (q1, .inl (kA 0, 7, .inl (fun _ => 0))), (q4, .inl (kA 0, 7, .inl (fun _ => 0))), (q7, .inl (kA 0, 8, .inl (fun _ => 0))), (q10, .inl (kA 0, 8, .inl (fun _ => 0))), (q13, .inl (kA 0, 8, .inl (fun _ => 0)))] := hD
  refine W.widen (k := 5) (n := 38) (Nat.le_of_ble_eq_true rfl) (Nat.le_of_ble_eq_true rfl) ?_
  refine va_putF (D := (dC, dI)) (ci := 1) (v := .ref q13) (ty := .array .int) (C := RX1) (T := TX1) (N := 10) hx hb hts uX1 tyX1 tyX1_ok nmX1 hown hK hP hD hS 0 rfl rfl 9 (by decide) (hts _ lk_247) (fun _ h9 => h9) rfl hin rfl (by decide +kernel) rfl rfl (Nat.le_of_ble_eq_true rfl) dX1_init_41 (fun H15 locs hP hD hS => ?_)
  have hP : va_P (dC, dI) vwCl [(h0, .inr (1, [.int 0, .int 0, .int 0, .int 0, .int 0, .ref q1, .ref q4, .ref q7, .ref q10, .ref q13])), (q1, .inl (kA 0, 7, .inl (fun _ => 0))), (q4, .inl (kA 0, 7, .inl (fun _ => 0))), (q7, .inl (kA 0, 8, .inl (fun _ => 0))), (q10, .inl (kA 0, 8, .inl (fun _ => 0))), (q13, .inl (kA 0, 8, .inl (fun _ => 0)))] H15 := hP
  have hD : va_D A [(h0, .inr (1, [.int 0, .int 0, .int 0, .int 0, .int 0, .ref q1, .ref q4, .ref q7, .ref q10, .ref q13])), (q1, .inl (kA 0, 7, .inl (fun _ => 0))), (q4, .inl (kA 0, 7, .inl (fun _ => 0))), (q7, .inl (kA 0, 8, .inl (fun _ => 0))), (q10, .inl (kA 0, 8, .inl (fun _ => 0))), (q13, .inl (kA 0, 8, .inl (fun _ => 0)))] := hD
  refine W.widen (k := 5) (n := 38) (Nat.le_of_ble_eq_true rfl) (Nat.le_of_ble_eq_true rfl) ?_
  have hP9 := hP.sub (ws' := [(h0, .inr (1, [.int 0, .int 0, .int 0, .int 0, .int 0, .ref q1, .ref q4, .ref q7, .ref q10, .ref q13]))]) [0] rfl
  have hD9 := hD.sub (ws' := [(h0, .inr (1, [.int 0, .int 0, .int 0, .int 0, .int 0, .ref q1, .ref q4, .ref q7, .ref q10, .ref q13]))]) [0] (by decide) rfl
  exact rM_v hx hb hr hlocks hP9 hD9 hS ⟨q1, q4, q7, q10, q13, rfl⟩ dX1_init_44
