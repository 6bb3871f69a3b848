set_option maxHeartbeats 4000000 in
theorem c_J0_coder (l : Launch) (dC : Nat → ClassId) (dI : Nat → Nat → Nat) (kA : Nat → ClassId) (sz : Nat) (k v n : Nat) : Met l yJ0_coder_7d493 (wsU yJ0_coder_7d493 cJ0_coder_7d493 1 (some .byte)) ({ frames := 0, cells := 0, slots := 0, locals := 0 }) (va_Pc [.ref k] (PWS dC dI kA [] sz [(k, v, n)] [])) (QP (some (.int 0))) 0 0 (fun _ => False) := by
  refine met_PS (own := RJ0) (by decide) rfl (Nat.le_of_ble_eq_true rfl) ?_
  intro p e s m below meth c ls A hx hb hr hts hown hlocks hml hK hN hA hP hD hS hl hSL hRL
  have hl : lv_has ls 1 [(0, .ref k)] := hl
  obtain ⟨h1, h2, h3, h4, h5⟩ := hSL (k, v, n) List.mem_cons_self
  refine va_gets hx hb h5 hS hown (hts _ lk_546) (fun _ h9 => h9) dJ0_coder_7d493_0 ?_
  refine lv_if_eq (tgt := 13) hx hb dJ0_coder_7d493_3 (by decide) (fun c1 => ?_) (fun c1 => ?_)
  · exact False.elim (by revert c1; decide)
  refine lv_aload_n hx hb dJ0_coder_7d493_6 rfl (lv_at hl 0 rfl) ?_
  refine vk_getf hx hb h2 hS hown (hts _ lk_1705) (fun _ h9 => h9) dJ0_coder_7d493_7 ?_
  refine lv_goto (tgt := 14) hx hb dJ0_coder_7d493_10 (by decide) ?_
  exact W.zret (ty := .byte) hx hb hr (by decide) (fun t ht _ => ⟨rfl, ht⟩) (fun q h => by cases h) dJ0_coder_7d493_14 hlocks
set_option maxHeartbeats 4000000 in
theorem c_J0_length_3 (l : Launch) (dC : Nat → ClassId) (dI : Nat → Nat → Nat) (kA : Nat → ClassId) (sz : Nat) (k v : Nat) : Met l yJ0_length_8abf5 (wsU yJ0_length_8abf5 cJ0_length_8abf5 1 (some .int)) ({ frames := 1, cells := 0, slots := 0, locals := 20 }) (va_Pc [.ref k] (PWS dC dI kA [] sz [(k, v, 3)] [])) (QP (some (.int 3))) 0 0 (fun _ => False) := by
  refine met_PS (own := RJ0) (by decide) rfl (Nat.le_of_ble_eq_true rfl) ?_
  intro p e s m below meth c ls A hx hb hr hts hown hlocks hml hK hN hA hP hD hS hl hSL hRL
  have hl : lv_has ls 1 [(0, .ref k)] := hl
  have hST := hSL (k, v, 3) List.mem_cons_self
  obtain ⟨h1, h2, h3, ⟨f, h4⟩, h5⟩ := id hST
  refine lv_aload_n hx hb dJ0_length_8abf5_0 rfl (lv_at hl 0 rfl) ?_
  refine vk_getf hx hb h3 hS hown (hts _ lk_1704) (fun _ h9 => h9) dJ0_length_8abf5_1 ?_
  refine va_tlen (v := 3) hx hb h4 hS rfl dJ0_length_8abf5_4 ?_
  refine lv_aload_n hx hb dJ0_length_8abf5_5 rfl (lv_at hl 0 rfl) ?_
  refine cP (W.runV (As := []) (rest := [.int 3]) ⟨hx, hb, hml, hown, hts⟩ (c_J0_coder l dC dI kA s.heap.size k v 3) (cwV 0 hts (gV lk_542 lk_543 lk_544 lk_122 lk_545) rfl rfl rfl (by decide +kernel) ⟨Nat.le_of_ble_eq_true rfl, Nat.le_of_ble_eq_true rfl⟩) (pws_k hK hN hA hS hST) rfl rfl hl.1 rfl (lv_room (Nat.le_of_ble_eq_true rfl)) dJ0_length_8abf5_6 ⟨Nat.le_of_ble_eq_true rfl, Nat.le_of_ble_eq_true rfl⟩) ?_
  refine W.eq (g2 := F0 m 9 ls [.int 0, .int 3]) rfl ?_
  refine lv_ishr hx hb dJ0_length_8abf5_9 ?_
  refine lv_toc (y := 3) (by decide) ?_
  exact rP_i hx hb hr hlocks dJ0_length_8abf5_10
set_option maxHeartbeats 4000000 in
theorem c_J0_length_4 (l : Launch) (dC : Nat → ClassId) (dI : Nat → Nat → Nat) (kA : Nat → ClassId) (sz : Nat) (k v : Nat) : Met l yJ0_length_8abf5 (wsU yJ0_length_8abf5 cJ0_length_8abf5 1 (some .int)) ({ frames := 1, cells := 0, slots := 0, locals := 20 }) (va_Pc [.ref k] (PWS dC dI kA [] sz [(k, v, 4)] [])) (QP (some (.int 4))) 0 0 (fun _ => False) := by
  refine met_PS (own := RJ0) (by decide) rfl (Nat.le_of_ble_eq_true rfl) ?_
  intro p e s m below meth c ls A hx hb hr hts hown hlocks hml hK hN hA hP hD hS hl hSL hRL
  have hl : lv_has ls 1 [(0, .ref k)] := hl
  have hST := hSL (k, v, 4) List.mem_cons_self
  obtain ⟨h1, h2, h3, ⟨f, h4⟩, h5⟩ := id hST
  refine lv_aload_n hx hb dJ0_length_8abf5_0 rfl (lv_at hl 0 rfl) ?_
  refine vk_getf hx hb h3 hS hown (hts _ lk_1704) (fun _ h9 => h9) dJ0_length_8abf5_1 ?_
  refine va_tlen (v := 4) hx hb h4 hS rfl dJ0_length_8abf5_4 ?_
  refine lv_aload_n hx hb dJ0_length_8abf5_5 rfl (lv_at hl 0 rfl) ?_
  refine cP (W.runV (As := []) (rest := [.int 4]) ⟨hx, hb, hml, hown, hts⟩ (c_J0_coder l dC dI kA s.heap.size k v 4) (cwV 0 hts (gV lk_542 lk_543 lk_544 lk_122 lk_545) rfl rfl rfl (by decide +kernel) ⟨Nat.le_of_ble_eq_true rfl, Nat.le_of_ble_eq_true rfl⟩) (pws_k hK hN hA hS hST) rfl rfl hl.1 rfl (lv_room (Nat.le_of_ble_eq_true rfl)) dJ0_length_8abf5_6 ⟨Nat.le_of_ble_eq_true rfl, Nat.le_of_ble_eq_true rfl⟩) ?_
  refine W.eq (g2 := F0 m 9 ls [.int 0, .int 4]) rfl ?_
  refine lv_ishr hx hb dJ0_length_8abf5_9 ?_
  refine lv_toc (y := 4) (by decide) ?_
  exact rP_i hx hb hr hlocks dJ0_length_8abf5_10
set_option maxHeartbeats 4000000 in
theorem c_J0_length_5 (l : Launch) (dC : Nat → ClassId) (dI : Nat → Nat → Nat) (kA : Nat → ClassId) (sz : Nat) (k v : Nat) : Met l yJ0_length_8abf5 (wsU yJ0_length_8abf5 cJ0_length_8abf5 1 (some .int)) ({ frames := 1, cells := 0, slots := 0, locals := 20 }) (va_Pc [.ref k] (PWS dC dI kA [] sz [(k, v, 5)] [])) (QP (some (.int 5))) 0 0 (fun _ => False) := by
  refine met_PS (own := RJ0) (by decide) rfl (Nat.le_of_ble_eq_true rfl) ?_
  intro p e s m below meth c ls A hx hb hr hts hown hlocks hml hK hN hA hP hD hS hl hSL hRL
  have hl : lv_has ls 1 [(0, .ref k)] := hl
  have hST := hSL (k, v, 5) List.mem_cons_self
  obtain ⟨h1, h2, h3, ⟨f, h4⟩, h5⟩ := id hST
  refine lv_aload_n hx hb dJ0_length_8abf5_0 rfl (lv_at hl 0 rfl) ?_
  refine vk_getf hx hb h3 hS hown (hts _ lk_1704) (fun _ h9 => h9) dJ0_length_8abf5_1 ?_
  refine va_tlen (v := 5) hx hb h4 hS rfl dJ0_length_8abf5_4 ?_
  refine lv_aload_n hx hb dJ0_length_8abf5_5 rfl (lv_at hl 0 rfl) ?_
  refine cP (W.runV (As := []) (rest := [.int 5]) ⟨hx, hb, hml, hown, hts⟩ (c_J0_coder l dC dI kA s.heap.size k v 5) (cwV 0 hts (gV lk_542 lk_543 lk_544 lk_122 lk_545) rfl rfl rfl (by decide +kernel) ⟨Nat.le_of_ble_eq_true rfl, Nat.le_of_ble_eq_true rfl⟩) (pws_k hK hN hA hS hST) rfl rfl hl.1 rfl (lv_room (Nat.le_of_ble_eq_true rfl)) dJ0_length_8abf5_6 ⟨Nat.le_of_ble_eq_true rfl, Nat.le_of_ble_eq_true rfl⟩) ?_
  refine W.eq (g2 := F0 m 9 ls [.int 0, .int 5]) rfl ?_
  refine lv_ishr hx hb dJ0_length_8abf5_9 ?_
  refine lv_toc (y := 5) (by decide) ?_
  exact rP_i hx hb hr hlocks dJ0_length_8abf5_10
set_option maxHeartbeats 4000000 in
theorem c_J0_length_6 (l : Launch) (dC : Nat → ClassId) (dI : Nat → Nat → Nat) (kA : Nat → ClassId) (sz : Nat) (k v : Nat) : Met l yJ0_length_8abf5 (wsU yJ0_length_8abf5 cJ0_length_8abf5 1 (some .int)) ({ frames := 1, cells := 0, slots := 0, locals := 20 }) (va_Pc [.ref k] (PWS dC dI kA [] sz [(k, v, 6)] [])) (QP (some (.int 6))) 0 0 (fun _ => False) := by
  refine met_PS (own := RJ0) (by decide) rfl (Nat.le_of_ble_eq_true rfl) ?_
  intro p e s m below meth c ls A hx hb hr hts hown hlocks hml hK hN hA hP hD hS hl hSL hRL
  have hl : lv_has ls 1 [(0, .ref k)] := hl
  have hST := hSL (k, v, 6) List.mem_cons_self
  obtain ⟨h1, h2, h3, ⟨f, h4⟩, h5⟩ := id hST
  refine lv_aload_n hx hb dJ0_length_8abf5_0 rfl (lv_at hl 0 rfl) ?_
  refine vk_getf hx hb h3 hS hown (hts _ lk_1704) (fun _ h9 => h9) dJ0_length_8abf5_1 ?_
  refine va_tlen (v := 6) hx hb h4 hS rfl dJ0_length_8abf5_4 ?_
  refine lv_aload_n hx hb dJ0_length_8abf5_5 rfl (lv_at hl 0 rfl) ?_
  refine cP (W.runV (As := []) (rest := [.int 6]) ⟨hx, hb, hml, hown, hts⟩ (c_J0_coder l dC dI kA s.heap.size k v 6) (cwV 0 hts (gV lk_542 lk_543 lk_544 lk_122 lk_545) rfl rfl rfl (by decide +kernel) ⟨Nat.le_of_ble_eq_true rfl, Nat.le_of_ble_eq_true rfl⟩) (pws_k hK hN hA hS hST) rfl rfl hl.1 rfl (lv_room (Nat.le_of_ble_eq_true rfl)) dJ0_length_8abf5_6 ⟨Nat.le_of_ble_eq_true rfl, Nat.le_of_ble_eq_true rfl⟩) ?_
  refine W.eq (g2 := F0 m 9 ls [.int 0, .int 6]) rfl ?_
  refine lv_ishr hx hb dJ0_length_8abf5_9 ?_
  refine lv_toc (y := 6) (by decide) ?_
  exact rP_i hx hb hr hlocks dJ0_length_8abf5_10
set_option maxHeartbeats 4000000 in
set_option maxRecDepth 100000 in
theorem c_X10_behind (l : Launch) (dC : Nat → ClassId) (dI : Nat → Nat → Nat) (kA : Nat → ClassId) (sz : Nat) (x_tape : Nat) (x_bytes : Nat)  : Met l yX10_behind (wsU yX10_behind cX10_behind 8 (some .int)) ({ frames := 0, cells := 0, slots := 0, locals := 0 }) (va_Pc [.ref x_tape, .int 0, .int 32, .int 32] (PW dC dI kA [(x_tape, .inr (10, [.ref x_bytes, .int 0, .int 0, .int 0, .int 0, .int 0]))] sz)) (QP (some (.int 0))) 0 0 (fun _ => False) := by
  refine met_P (own := RX10) (by decide) rfl (Nat.le_of_ble_eq_true rfl) ?_
  intro p e s m below meth c ls hx hb hr hts hown hlocks hml hK hN hP hD hl
  have hl : lv_has ls 8 [(0, .ref x_tape), (1, .int 0), (2, .int 32), (3, .int 32)] := hl
  have hP : va_P (dC, dI) vwCl [(x_tape, .inr (10, [.ref x_bytes, .int 0, .int 0, .int 0, .int 0, .int 0]))] s.heap := hP
  refine lv_iload_n hx hb dX10_behind_0 rfl (lv_at hl 1 rfl) ?_
  refine lv_istore (lv' := [(4, .int 0), (0, .ref x_tape), (1, .int 0), (2, .int 32), (3, .int 32)]) hx hb dX10_behind_1 hl (by decide) rfl (fun ls hl => ?_)
  refine lv_iconst (v := 1) hx hb dX10_behind_3 (by decide) ?_
  refine lv_istore (lv' := [(5, .int 1), (4, .int 0), (0, .ref x_tape), (1, .int 0), (2, .int 32), (3, .int 32)]) hx hb dX10_behind_4 hl (by decide) rfl (fun ls hl => ?_)
  refine lv_iload_n hx hb dX10_behind_6 rfl (lv_at hl 3 rfl) ?_
  refine lv_istore (lv' := [(6, .int 0), (5, .int 1), (4, .int 0), (0, .ref x_tape), (1, .int 0), (2, .int 32), (3, .int 32)]) hx hb dX10_behind_7 hl (by decide) rfl (fun ls hl => ?_)
  refine lv_iload hx hb dX10_behind_9 (lv_at hl 1 rfl) ?_
  refine lv_if_eq (tgt := 77) hx hb dX10_behind_11 (by decide) (fun c1 => ?_) (fun c1 => ?_)
  · exact False.elim (by revert c1; decide)
  refine lv_iload hx hb dX10_behind_14 (lv_at hl 0 rfl) ?_
  refine lv_aload_n hx hb dX10_behind_16 rfl (lv_at hl 3 rfl) ?_
  refine va_get (D := (dC, dI)) (ci := 10) (v := .int 0) (C := RX10) (T := TX10) (N := 6) hx hb hts uX10 hown hK hP 0 rfl rfl 1 (by decide) (hts _ lk_146) (fun _ h9 => h9) rfl dX10_behind_17 ?_
  refine lv_icmp_ge (tgt := 77) hx hb dX10_behind_20 (by decide) (fun c2 => ?_) (fun c2 => ?_)
  rotate_left
  · exact False.elim (by revert c2; decide)
  refine lv_iload hx hb dX10_behind_77 (lv_at hl 2 rfl) ?_
  exact rP_i hx hb hr hlocks dX10_behind_79

set_option maxHeartbeats 4000000 in
set_option maxRecDepth 100000 in
theorem c_X10_byteAt (l : Launch) (dC : Nat → ClassId) (dI : Nat → Nat → Nat) (kA : Nat → ClassId) (sz : Nat) (x_tape : Nat) (x_bytes : Nat)  : Met l yX10_byteAt (wsU yX10_byteAt cX10_byteAt 2 (some .int)) ({ frames := 0, cells := 0, slots := 0, locals := 0 }) (va_Pc [.ref x_tape, .int 0] (PW dC dI kA [(x_tape, .inr (10, [.ref x_bytes, .int 0, .int 0, .int 0, .int 0, .int 0]))] sz)) (QP (some (.int 256))) 0 0 (fun _ => False) := by
  refine met_P (own := RX10) (by decide) rfl (Nat.le_of_ble_eq_true rfl) ?_
  intro p e s m below meth c ls hx hb hr hts hown hlocks hml hK hN hP hD hl
  have hl : lv_has ls 2 [(0, .ref x_tape), (1, .int 0)] := hl
  have hP : va_P (dC, dI) vwCl [(x_tape, .inr (10, [.ref x_bytes, .int 0, .int 0, .int 0, .int 0, .int 0]))] s.heap := hP
  refine lv_iload_n hx hb dX10_byteAt_0 rfl (lv_at hl 1 rfl) ?_
  refine lv_if_lt (tgt := 25) hx hb dX10_byteAt_1 (by decide) (fun c1 => ?_) (fun c1 => ?_)
  · exact False.elim (by revert c1; decide)
  refine lv_iload_n hx hb dX10_byteAt_4 rfl (lv_at hl 1 rfl) ?_
  refine lv_aload_n hx hb dX10_byteAt_5 rfl (lv_at hl 0 rfl) ?_
  refine va_get (D := (dC, dI)) (ci := 10) (v := .int 0) (C := RX10) (T := TX10) (N := 6) hx hb hts uX10 hown hK hP 0 rfl rfl 1 (by decide) (hts _ lk_146) (fun _ h9 => h9) rfl dX10_byteAt_6 ?_
  refine lv_icmp_ge (tgt := 25) hx hb dX10_byteAt_9 (by decide) (fun c2 => ?_) (fun c2 => ?_)
  rotate_left
  · exact False.elim (by revert c2; decide)
  refine lv_sipush (v := 256) hx hb dX10_byteAt_25 (by decide) ?_
  exact rP_i hx hb hr hlocks dX10_byteAt_28

set_option maxHeartbeats 4000000 in
set_option maxRecDepth 100000 in
theorem c_X10_step (l : Launch) (dC : Nat → ClassId) (dI : Nat → Nat → Nat) (kA : Nat → ClassId) (sz : Nat) (x_tape : Nat) (x_bytes : Nat)  : Met l yX10_step (wsU yX10_step cX10_step 1 none) ({ frames := 1, cells := 0, slots := 0, locals := 27 }) (va_Pc [.ref x_tape] (PW dC dI kA [(x_tape, .inr (10, [.ref x_bytes, .int 0, .int 0, .int 0, .int 0, .int 0]))] sz)) (QU dC dI none (fun w => w = [(x_tape, .inr (10, [.ref x_bytes, .int 0, .int 0, .int 256, .int 0, .int 0]))]) (va_A [(x_tape, .inr (10, [.ref x_bytes, .int 0, .int 0, .int 0, .int 0, .int 0]))] sz)) 0 0 (va_A [(x_tape, .inr (10, [.ref x_bytes, .int 0, .int 0, .int 0, .int 0, .int 0]))] sz) := by
  refine met_M (own := RX10) (by decide) rfl (Nat.le_of_ble_eq_true rfl) ?_
  intro p e s m below meth c ls A hx hb hr hts hown hlocks hml hin hK hN hA hP hD hS hl
  have hl : lv_has ls 1 [(0, .ref x_tape)] := hl
  have hP : va_P (dC, dI) vwCl [(x_tape, .inr (10, [.ref x_bytes, .int 0, .int 0, .int 0, .int 0, .int 0]))] s.heap := hP
  have hD : va_D A [(x_tape, .inr (10, [.ref x_bytes, .int 0, .int 0, .int 0, .int 0, .int 0]))] := hD
  refine lv_aload_n hx hb dX10_step_0 rfl (lv_at hl 0 rfl) ?_
  refine lv_aload_n hx hb dX10_step_1 rfl (lv_at hl 0 rfl) ?_
  refine lv_aload_n hx hb dX10_step_2 rfl (lv_at hl 0 rfl) ?_
  refine va_get (D := (dC, dI)) (ci := 10) (v := .int 0) (C := RX10) (T := TX10) (N := 6) hx hb hts uX10 hown hK hP 0 rfl rfl 5 (by decide) (hts _ lk_154) (fun _ h9 => h9) rfl dX10_step_3 ?_
  refine lv_bipush (v := 32) hx hb dX10_step_6 (by decide) ?_
  refine lv_bipush (v := 32) hx hb dX10_step_8 (by decide) ?_
  have hPc := hP.sub (ws' := [(x_tape, .inr (10, [.ref x_bytes, .int 0, .int 0, .int 0, .int 0, .int 0]))]) [0] rfl
  have hDc := hD.sub (ws' := [(x_tape, .inr (10, [.ref x_bytes, .int 0, .int 0, .int 0, .int 0, .int 0]))]) [0] (by decide) rfl
  refine cP (W.runV (As := [.int 0, .int 32, .int 32]) (rest := [.ref x_tape]) ⟨hx, hb, hml, hown, hts⟩ (c_X10_behind l dC dI kA s.heap.size x_tape x_bytes ) (cwV 3 hts (gV lk_522 lk_524 lk_0 lk_111 lk_525) rfl rfl rfl (by decide +kernel) ⟨Nat.le_of_ble_eq_true rfl, Nat.le_of_ble_eq_true rfl⟩) (pw_v hPc hDc hK hN 0 10 rfl rfl) rfl rfl hl.1 rfl (lv_room (Nat.le_of_ble_eq_true rfl)) dX10_step_10 ⟨Nat.le_of_ble_eq_true rfl, Nat.le_of_ble_eq_true rfl⟩) ?_
  refine W.eq (g2 := F0 m 13 ls [.int 0, .ref x_tape]) rfl ?_
  refine va_put (D := (dC, dI)) (ci := 10) (v := .int 0) (ty := .int) (C := RX10) (T := TX10) (N := 6) hx hb hts uX10 tyX10 tyX10_ok nmX10 hown hK hP hD hS 0 rfl rfl 4 (by decide) (hts _ lk_153) (fun _ h9 => h9) rfl (by decide +kernel) rfl rfl (Nat.le_of_ble_eq_true rfl) dX10_step_13 (fun H1 locs hP hD hS => ?_)
  have hP : va_P (dC, dI) vwCl [(x_tape, .inr (10, [.ref x_bytes, .int 0, .int 0, .int 0, .int 0, .int 0]))] H1 := hP
  have hD : va_D A [(x_tape, .inr (10, [.ref x_bytes, .int 0, .int 0, .int 0, .int 0, .int 0]))] := hD
  refine lv_aload_n hx hb dX10_step_16 rfl (lv_at hl 0 rfl) ?_
  refine lv_aload_n hx hb dX10_step_17 rfl (lv_at hl 0 rfl) ?_
  refine lv_aload_n hx hb dX10_step_18 rfl (lv_at hl 0 rfl) ?_
  refine va_get (D := (dC, dI)) (ci := 10) (v := .int 0) (C := RX10) (T := TX10) (N := 6) hx hb hts uX10 hown hK hP 0 rfl rfl 4 (by decide) (hts _ lk_153) (fun _ h9 => h9) rfl dX10_step_19 ?_
  have hPc := hP.sub (ws' := [(x_tape, .inr (10, [.ref x_bytes, .int 0, .int 0, .int 0, .int 0, .int 0]))]) [0] rfl
  have hDc := hD.sub (ws' := [(x_tape, .inr (10, [.ref x_bytes, .int 0, .int 0, .int 0, .int 0, .int 0]))]) [0] (by decide) rfl
  refine cP (W.runV (As := [.int 0]) (rest := [.ref x_tape]) ⟨hx, hb, hml, hown, hts⟩ (c_X10_byteAt l dC dI kA H1.size x_tape x_bytes ) (cwV 1 hts (gV lk_526 lk_528 lk_1 lk_111 lk_529) rfl rfl rfl (by decide +kernel) ⟨Nat.le_of_ble_eq_true rfl, Nat.le_of_ble_eq_true rfl⟩) (pw_v hPc hDc hK hN 0 10 rfl rfl) rfl rfl hl.1 rfl (lv_room (Nat.le_of_ble_eq_true rfl)) dX10_step_22 ⟨Nat.le_of_ble_eq_true rfl, Nat.le_of_ble_eq_true rfl⟩) ?_
  refine W.eq (g2 := F0 m 25 ls [.int 256, .ref x_tape]) rfl ?_
  refine va_put (D := (dC, dI)) (ci := 10) (v := .int 256) (ty := .int) (C := RX10) (T := TX10) (N := 6) hx hb hts uX10 tyX10 tyX10_ok nmX10 hown hK hP hD hS 0 rfl rfl 3 (by decide) (hts _ lk_152) (fun _ h9 => h9) rfl (by decide +kernel) rfl rfl (Nat.le_of_ble_eq_true rfl) dX10_step_25 (fun H2 locs hP hD hS => ?_)
  have hP : va_P (dC, dI) vwCl [(x_tape, .inr (10, [.ref x_bytes, .int 0, .int 0, .int 256, .int 0, .int 0]))] H2 := hP
  have hD : va_D A [(x_tape, .inr (10, [.ref x_bytes, .int 0, .int 0, .int 256, .int 0, .int 0]))] := hD
  refine lv_aload_n hx hb dX10_step_28 rfl (lv_at hl 0 rfl) ?_
  refine lv_aload_n hx hb dX10_step_29 rfl (lv_at hl 0 rfl) ?_
  refine va_get (D := (dC, dI)) (ci := 10) (v := .int 0) (C := RX10) (T := TX10) (N := 6) hx hb hts uX10 hown hK hP 0 rfl rfl 4 (by decide) (hts _ lk_153) (fun _ h9 => h9) rfl dX10_step_30 ?_
  refine lv_iconst (v := 1) hx hb dX10_step_33 (by decide) ?_
  refine lv_iadd hx hb dX10_step_34 ?_
  refine lv_toc (y := 1) (by decide) ?_
  refine va_put (D := (dC, dI)) (ci := 10) (v := .int 1) (ty := .int) (C := RX10) (T := TX10) (N := 6) hx hb hts uX10 tyX10 tyX10_ok nmX10 hown hK hP hD hS 0 rfl rfl 5 (by decide) (hts _ lk_154) (fun _ h9 => h9) rfl (by decide +kernel) rfl rfl (Nat.le_of_ble_eq_true rfl) dX10_step_35 (fun H3 locs hP hD hS => ?_)
  have hP : va_P (dC, dI) vwCl [(x_tape, .inr (10, [.ref x_bytes, .int 0, .int 0, .int 256, .int 0, .int 1]))] H3 := hP
  have hD : va_D A [(x_tape, .inr (10, [.ref x_bytes, .int 0, .int 0, .int 256, .int 0, .int 1]))] := hD
  refine lv_aload_n hx hb dX10_step_38 rfl (lv_at hl 0 rfl) ?_
  refine va_get (D := (dC, dI)) (ci := 10) (v := .int 256) (C := RX10) (T := TX10) (N := 6) hx hb hts uX10 hown hK hP 0 rfl rfl 3 (by decide) (hts _ lk_152) (fun _ h9 => h9) rfl dX10_step_39 ?_
  refine lv_sipush (v := 256) hx hb dX10_step_42 (by decide) ?_
  refine lv_icmp_ne (tgt := 59) hx hb dX10_step_45 (by decide) (fun c1 => ?_) (fun c1 => ?_)
  · exact False.elim (by revert c1; decide)
  refine lv_aload_n hx hb dX10_step_48 rfl (lv_at hl 0 rfl) ?_
  refine lv_aload_n hx hb dX10_step_49 rfl (lv_at hl 0 rfl) ?_
  refine va_get (D := (dC, dI)) (ci := 10) (v := .int 0) (C := RX10) (T := TX10) (N := 6) hx hb hts uX10 hown hK hP 0 rfl rfl 4 (by decide) (hts _ lk_153) (fun _ h9 => h9) rfl dX10_step_50 ?_
  refine va_put (D := (dC, dI)) (ci := 10) (v := .int 0) (ty := .int) (C := RX10) (T := TX10) (N := 6) hx hb hts uX10 tyX10 tyX10_ok nmX10 hown hK hP hD hS 0 rfl rfl 5 (by decide) (hts _ lk_154) (fun _ h9 => h9) rfl (by decide +kernel) rfl rfl (Nat.le_of_ble_eq_true rfl) dX10_step_53 (fun H4 locs hP hD hS => ?_)
  have hP : va_P (dC, dI) vwCl [(x_tape, .inr (10, [.ref x_bytes, .int 0, .int 0, .int 256, .int 0, .int 0]))] H4 := hP
  have hD : va_D A [(x_tape, .inr (10, [.ref x_bytes, .int 0, .int 0, .int 256, .int 0, .int 0]))] := hD
  refine lv_goto (tgt := 210) hx hb dX10_step_56 (by decide) ?_
  refine W.widen (k := 0) (n := 0) (Nat.le_of_ble_eq_true rfl) (Nat.le_of_ble_eq_true rfl) ?_
  have hP9 := hP.sub (ws' := [(x_tape, .inr (10, [.ref x_bytes, .int 0, .int 0, .int 256, .int 0, .int 0]))]) [0] rfl
  have hD9 := hD.sub (ws' := [(x_tape, .inr (10, [.ref x_bytes, .int 0, .int 0, .int 256, .int 0, .int 0]))]) [0] (by decide) rfl
  exact rM_v hx hb hr hlocks hP9 hD9 hS rfl dX10_step_210

set_option maxHeartbeats 4000000 in
set_option maxRecDepth 100000 in
theorem c_X10_rewind (l : Launch) (dC : Nat → ClassId) (dI : Nat → Nat → Nat) (kA : Nat → ClassId) (sz : Nat) (x_tape : Nat) (x_bytes : Nat)  : Met l yX10_rewind (wsU yX10_rewind cX10_rewind 1 none) ({ frames := 2, cells := 0, slots := 0, locals := 47 }) (va_Pc [.ref x_tape] (PW dC dI kA [(x_tape, .inr (10, [.ref x_bytes, .int 0, .int 0, .int 0, .int 0, .int 0]))] sz)) (QU dC dI none (fun w => w = [(x_tape, .inr (10, [.ref x_bytes, .int 0, .int 0, .int 256, .int 0, .int 0]))]) (va_A [(x_tape, .inr (10, [.ref x_bytes, .int 0, .int 0, .int 0, .int 0, .int 0]))] sz)) 0 0 (va_A [(x_tape, .inr (10, [.ref x_bytes, .int 0, .int 0, .int 0, .int 0, .int 0]))] sz) := by
  refine met_M (own := RX10) (by decide) rfl (Nat.le_of_ble_eq_true rfl) ?_
  intro p e s m below meth c ls A hx hb hr hts hown hlocks hml hin hK hN hA hP hD hS hl
  have hl : lv_has ls 1 [(0, .ref x_tape)] := hl
  have hP : va_P (dC, dI) vwCl [(x_tape, .inr (10, [.ref x_bytes, .int 0, .int 0, .int 0, .int 0, .int 0]))] s.heap := hP
  have hD : va_D A [(x_tape, .inr (10, [.ref x_bytes, .int 0, .int 0, .int 0, .int 0, .int 0]))] := hD
  refine lv_aload_n hx hb dX10_rewind_0 rfl (lv_at hl 0 rfl) ?_
  refine lv_iconst (v := 0) hx hb dX10_rewind_1 (by decide) ?_
  refine va_put (D := (dC, dI)) (ci := 10) (v := .int 0) (ty := .int) (C := RX10) (T := TX10) (N := 6) hx hb hts uX10 tyX10 tyX10_ok nmX10 hown hK hP hD hS 0 rfl rfl 2 (by decide) (hts _ lk_148) (fun _ h9 => h9) rfl (by decide +kernel) rfl rfl (Nat.le_of_ble_eq_true rfl) dX10_rewind_2 (fun H1 locs hP hD hS => ?_)
  have hP : va_P (dC, dI) vwCl [(x_tape, .inr (10, [.ref x_bytes, .int 0, .int 0, .int 0, .int 0, .int 0]))] H1 := hP
  have hD : va_D A [(x_tape, .inr (10, [.ref x_bytes, .int 0, .int 0, .int 0, .int 0, .int 0]))] := hD
  refine lv_aload_n hx hb dX10_rewind_5 rfl (lv_at hl 0 rfl) ?_
  refine lv_iconst (v := 0) hx hb dX10_rewind_6 (by decide) ?_
  refine va_put (D := (dC, dI)) (ci := 10) (v := .int 0) (ty := .int) (C := RX10) (T := TX10) (N := 6) hx hb hts uX10 tyX10 tyX10_ok nmX10 hown hK hP hD hS 0 rfl rfl 5 (by decide) (hts _ lk_154) (fun _ h9 => h9) rfl (by decide +kernel) rfl rfl (Nat.le_of_ble_eq_true rfl) dX10_rewind_7 (fun H2 locs hP hD hS => ?_)
  have hP : va_P (dC, dI) vwCl [(x_tape, .inr (10, [.ref x_bytes, .int 0, .int 0, .int 0, .int 0, .int 0]))] H2 := hP
  have hD : va_D A [(x_tape, .inr (10, [.ref x_bytes, .int 0, .int 0, .int 0, .int 0, .int 0]))] := hD
  refine lv_aload_n hx hb dX10_rewind_10 rfl (lv_at hl 0 rfl) ?_
  have hPc := hP.sub (ws' := [(x_tape, .inr (10, [.ref x_bytes, .int 0, .int 0, .int 0, .int 0, .int 0]))]) [0] rfl
  have hDc := hD.sub (ws' := [(x_tape, .inr (10, [.ref x_bytes, .int 0, .int 0, .int 0, .int 0, .int 0]))]) [0] (by decide) rfl
  refine cM (wc := [(x_tape, .inr (10, [.ref x_bytes, .int 0, .int 0, .int 0, .int 0, .int 0]))]) (wr := []) [0] [] hP hD hS hA rfl rfl (by decide) (by decide) (va_runV (As := []) (rest := []) ⟨hx, hb, hml, hown, hts⟩ (c_X10_step l dC dI kA H2.size x_tape x_bytes ) (cwV 0 hts (gV lk_518 lk_519 lk_520 lk_111 lk_521) rfl rfl rfl (by decide +kernel) ⟨Nat.le_of_ble_eq_true rfl, Nat.le_of_ble_eq_true rfl⟩) (pw_v hPc hDc hK hN 0 10 rfl rfl) rfl rfl hl.1 rfl (lv_room (Nat.le_of_ble_eq_true rfl)) dX10_rewind_11 ⟨Nat.le_of_ble_eq_true rfl, Nat.le_of_ble_eq_true rfl⟩) (fun w1 H3 locs hw hP hD hS => ?_)
  obtain ⟨rfl⟩ := hw
  have hP : va_P (dC, dI) vwCl [(x_tape, .inr (10, [.ref x_bytes, .int 0, .int 0, .int 256, .int 0, .int 0]))] H3 := hP
  have hD : va_D A [(x_tape, .inr (10, [.ref x_bytes, .int 0, .int 0, .int 256, .int 0, .int 0]))] := hD
  refine W.eq (g2 := F0 m 14 ls []) rfl ?_
  refine W.widen (k := 0) (n := 0) (Nat.le_of_ble_eq_true rfl) (Nat.le_of_ble_eq_true rfl) ?_
  have hP9 := hP.sub (ws' := [(x_tape, .inr (10, [.ref x_bytes, .int 0, .int 0, .int 256, .int 0, .int 0]))]) [0] rfl
  have hD9 := hD.sub (ws' := [(x_tape, .inr (10, [.ref x_bytes, .int 0, .int 0, .int 256, .int 0, .int 0]))]) [0] (by decide) rfl
  exact rM_v hx hb hr hlocks hP9 hD9 hS rfl dX10_rewind_14

set_option maxHeartbeats 4000000 in
set_option maxRecDepth 100000 in
theorem c_X10_isWordIn_3 (l : Launch) (dC : Nat → ClassId) (dI : Nat → Nat → Nat) (kA : Nat → ClassId) (sz : Nat) (x_tape : Nat) (ka : Nat) (x_bytes : Nat)  : Met l yX10_isWordIn (wsU yX10_isWordIn cX10_isWordIn 7 (some .boolean)) ({ frames := 0, cells := 0, slots := 0, locals := 0 }) (va_Pc [.ref x_tape, .ref ka, .int 0, .int 3] (PW dC dI kA [(x_tape, .inr (10, [.ref x_bytes, .int 0, .int 0, .int 256, .int 0, .int 0]))] sz)) (QP (some (.int 0))) 0 0 (fun _ => False) := by
  refine met_P (own := RX10) (by decide) rfl (Nat.le_of_ble_eq_true rfl) ?_
  intro p e s m below meth c ls hx hb hr hts hown hlocks hml hK hN hP hD hl
  have hl : lv_has ls 7 [(0, .ref x_tape), (1, .ref ka), (2, .int 0), (3, .int 3)] := hl
  have hP : va_P (dC, dI) vwCl [(x_tape, .inr (10, [.ref x_bytes, .int 0, .int 0, .int 256, .int 0, .int 0]))] s.heap := hP
  refine lv_aload_n hx hb dX10_isWordIn_0 rfl (lv_at hl 0 rfl) ?_
  refine va_get (D := (dC, dI)) (ci := 10) (v := .int 0) (C := RX10) (T := TX10) (N := 6) hx hb hts uX10 hown hK hP 0 rfl rfl 5 (by decide) (hts _ lk_154) (fun _ h9 => h9) rfl dX10_isWordIn_1 ?_
  refine lv_aload_n hx hb dX10_isWordIn_4 rfl (lv_at hl 0 rfl) ?_
  refine va_get (D := (dC, dI)) (ci := 10) (v := .int 0) (C := RX10) (T := TX10) (N := 6) hx hb hts uX10 hown hK hP 0 rfl rfl 4 (by decide) (hts _ lk_153) (fun _ h9 => h9) rfl dX10_isWordIn_5 ?_
  refine lv_isub hx hb dX10_isWordIn_8 ?_
  refine lv_toc (y := 0) (by decide) ?_
  refine lv_istore (lv' := [(4, .int 0), (0, .ref x_tape), (1, .ref ka), (2, .int 0), (3, .int 3)]) hx hb dX10_isWordIn_9 hl (by decide) rfl (fun ls hl => ?_)
  refine lv_aload_n hx hb dX10_isWordIn_11 rfl (lv_at hl 1 rfl) ?_
  refine va_get (D := (dC, dI)) (ci := 10) (v := .int 256) (C := RX10) (T := TX10) (N := 6) hx hb hts uX10 hown hK hP 0 rfl rfl 3 (by decide) (hts _ lk_152) (fun _ h9 => h9) rfl dX10_isWordIn_12 ?_
  refine lv_sipush (v := 258) hx hb dX10_isWordIn_15 (by decide) ?_
  refine lv_icmp_ne (tgt := 41) hx hb dX10_isWordIn_18 (by decide) (fun c1 => ?_) (fun c1 => ?_)
  rotate_left
  · exact False.elim (by revert c1; decide)
  refine lv_iconst (v := 0) hx hb dX10_isWordIn_41 (by decide) ?_
  refine lv_istore (lv' := [(5, .int 0), (4, .int 0), (0, .ref x_tape), (1, .ref ka), (2, .int 0), (3, .int 3)]) hx hb dX10_isWordIn_42 hl (by decide) rfl (fun ls hl => ?_)
  refine lv_iconst (v := 0) hx hb dX10_isWordIn_44 (by decide) ?_
  refine lv_istore (lv' := [(6, .int 0), (5, .int 0), (4, .int 0), (0, .ref x_tape), (1, .ref ka), (2, .int 0), (3, .int 3)]) hx hb dX10_isWordIn_45 hl (by decide) rfl (fun ls hl => ?_)
  refine lv_iload hx hb dX10_isWordIn_47 (lv_at hl 1 rfl) ?_
  refine lv_if_eq (tgt := 105) hx hb dX10_isWordIn_49 (by decide) (fun c2 => ?_) (fun c2 => ?_)
  rotate_left
  · exact False.elim (by revert c2; decide)
  refine lv_iload hx hb dX10_isWordIn_105 (lv_at hl 1 rfl) ?_
  exact rP_z hx hb hr hlocks (by decide) dX10_isWordIn_107

set_option maxHeartbeats 4000000 in
set_option maxRecDepth 100000 in
theorem c_X10_isWord_3 (l : Launch) (dC : Nat → ClassId) (dI : Nat → Nat → Nat) (kA : Nat → ClassId) (sz : Nat) (x_tape : Nat) (ka : Nat) (x_bytes : Nat) (va : Nat)  : Met l yX10_isWord (wsU yX10_isWord cX10_isWord 2 (some .boolean)) ({ frames := 2, cells := 0, slots := 0, locals := 40 }) (va_Pc [.ref x_tape, .ref ka] (PWS dC dI kA [(x_tape, .inr (10, [.ref x_bytes, .int 0, .int 0, .int 256, .int 0, .int 0]))] sz [(ka, va, 3)] [])) (QP (some (.int 0))) 0 0 (fun _ => False) := by
  refine met_PS (own := RX10) (by decide) rfl (Nat.le_of_ble_eq_true rfl) ?_
  intro p e s m below meth c ls A hx hb hr hts hown hlocks hml hK hN hA hP hD hS hl hSL hRL
  have hl : lv_has ls 2 [(0, .ref x_tape), (1, .ref ka)] := hl
  have hP : va_P (dC, dI) vwCl [(x_tape, .inr (10, [.ref x_bytes, .int 0, .int 0, .int 256, .int 0, .int 0]))] s.heap := hP
  refine lv_aload_n hx hb dX10_isWord_0 rfl (lv_at hl 0 rfl) ?_
  refine lv_aload_n hx hb dX10_isWord_1 rfl (lv_at hl 1 rfl) ?_
  refine lv_iconst (v := 0) hx hb dX10_isWord_2 (by decide) ?_
  refine lv_aload_n hx hb dX10_isWord_3 rfl (lv_at hl 1 rfl) ?_
  refine cP (W.runV (As := []) (rest := [.int 0, .ref ka, .ref x_tape]) ⟨hx, hb, hml, hown, hts⟩ (c_J0_length_3 l dC dI kA s.heap.size ka va) (cwV 0 hts (gV lk_538 lk_539 lk_540 lk_122 lk_541) rfl rfl rfl (by decide +kernel) ⟨Nat.le_of_ble_eq_true rfl, Nat.le_of_ble_eq_true rfl⟩) (pws_k hK hN hA hS (hSL _ (List.mem_of_getElem? (i := 0) rfl))) rfl rfl hl.1 rfl (lv_room (Nat.le_of_ble_eq_true rfl)) dX10_isWord_4 ⟨Nat.le_of_ble_eq_true rfl, Nat.le_of_ble_eq_true rfl⟩) ?_
  refine W.eq (g2 := F0 m 7 ls [.int 3, .int 0, .ref ka, .ref x_tape]) rfl ?_
  have hPc := hP.sub (ws' := [(x_tape, .inr (10, [.ref x_bytes, .int 0, .int 0, .int 256, .int 0, .int 0]))]) [0] rfl
  have hDc := hD.sub (ws' := [(x_tape, .inr (10, [.ref x_bytes, .int 0, .int 0, .int 256, .int 0, .int 0]))]) [0] (by decide) rfl
  refine cP (W.runV (As := [.ref ka, .int 0, .int 3]) (rest := []) ⟨hx, hb, hml, hown, hts⟩ (c_X10_isWordIn_3 l dC dI kA s.heap.size x_tape ka x_bytes ) (cwV 3 hts (gV lk_548 lk_549 lk_550 lk_111 lk_551) rfl rfl rfl (by decide +kernel) ⟨Nat.le_of_ble_eq_true rfl, Nat.le_of_ble_eq_true rfl⟩) (pw_v hPc hDc hK hN 0 10 rfl rfl) rfl rfl hl.1 rfl (lv_room (Nat.le_of_ble_eq_true rfl)) dX10_isWord_7 ⟨Nat.le_of_ble_eq_true rfl, Nat.le_of_ble_eq_true rfl⟩) ?_
  refine W.eq (g2 := F0 m 10 ls [.int 0]) rfl ?_
  exact rP_z hx hb hr hlocks (by decide) dX10_isWord_10

set_option maxHeartbeats 4000000 in
set_option maxRecDepth 100000 in
theorem c_X10_isWordIn_4 (l : Launch) (dC : Nat → ClassId) (dI : Nat → Nat → Nat) (kA : Nat → ClassId) (sz : Nat) (x_tape : Nat) (ka : Nat) (x_bytes : Nat)  : Met l yX10_isWordIn (wsU yX10_isWordIn cX10_isWordIn 7 (some .boolean)) ({ frames := 0, cells := 0, slots := 0, locals := 0 }) (va_Pc [.ref x_tape, .ref ka, .int 0, .int 4] (PW dC dI kA [(x_tape, .inr (10, [.ref x_bytes, .int 0, .int 0, .int 256, .int 0, .int 0]))] sz)) (QP (some (.int 0))) 0 0 (fun _ => False) := by
  refine met_P (own := RX10) (by decide) rfl (Nat.le_of_ble_eq_true rfl) ?_
  intro p e s m below meth c ls hx hb hr hts hown hlocks hml hK hN hP hD hl
  have hl : lv_has ls 7 [(0, .ref x_tape), (1, .ref ka), (2, .int 0), (3, .int 4)] := hl
  have hP : va_P (dC, dI) vwCl [(x_tape, .inr (10, [.ref x_bytes, .int 0, .int 0, .int 256, .int 0, .int 0]))] s.heap := hP
  refine lv_aload_n hx hb dX10_isWordIn_0 rfl (lv_at hl 0 rfl) ?_
  refine va_get (D := (dC, dI)) (ci := 10) (v := .int 0) (C := RX10) (T := TX10) (N := 6) hx hb hts uX10 hown hK hP 0 rfl rfl 5 (by decide) (hts _ lk_154) (fun _ h9 => h9) rfl dX10_isWordIn_1 ?_
  refine lv_aload_n hx hb dX10_isWordIn_4 rfl (lv_at hl 0 rfl) ?_
  refine va_get (D := (dC, dI)) (ci := 10) (v := .int 0) (C := RX10) (T := TX10) (N := 6) hx hb hts uX10 hown hK hP 0 rfl rfl 4 (by decide) (hts _ lk_153) (fun _ h9 => h9) rfl dX10_isWordIn_5 ?_
  refine lv_isub hx hb dX10_isWordIn_8 ?_
  refine lv_toc (y := 0) (by decide) ?_
  refine lv_istore (lv' := [(4, .int 0), (0, .ref x_tape), (1, .ref ka), (2, .int 0), (3, .int 4)]) hx hb dX10_isWordIn_9 hl (by decide) rfl (fun ls hl => ?_)
  refine lv_aload_n hx hb dX10_isWordIn_11 rfl (lv_at hl 1 rfl) ?_
  refine va_get (D := (dC, dI)) (ci := 10) (v := .int 256) (C := RX10) (T := TX10) (N := 6) hx hb hts uX10 hown hK hP 0 rfl rfl 3 (by decide) (hts _ lk_152) (fun _ h9 => h9) rfl dX10_isWordIn_12 ?_
  refine lv_sipush (v := 258) hx hb dX10_isWordIn_15 (by decide) ?_
  refine lv_icmp_ne (tgt := 41) hx hb dX10_isWordIn_18 (by decide) (fun c1 => ?_) (fun c1 => ?_)
  rotate_left
  · exact False.elim (by revert c1; decide)
  refine lv_iconst (v := 0) hx hb dX10_isWordIn_41 (by decide) ?_
  refine lv_istore (lv' := [(5, .int 0), (4, .int 0), (0, .ref x_tape), (1, .ref ka), (2, .int 0), (3, .int 4)]) hx hb dX10_isWordIn_42 hl (by decide) rfl (fun ls hl => ?_)
  refine lv_iconst (v := 0) hx hb dX10_isWordIn_44 (by decide) ?_
  refine lv_istore (lv' := [(6, .int 0), (5, .int 0), (4, .int 0), (0, .ref x_tape), (1, .ref ka), (2, .int 0), (3, .int 4)]) hx hb dX10_isWordIn_45 hl (by decide) rfl (fun ls hl => ?_)
  refine lv_iload hx hb dX10_isWordIn_47 (lv_at hl 1 rfl) ?_
  refine lv_if_eq (tgt := 105) hx hb dX10_isWordIn_49 (by decide) (fun c2 => ?_) (fun c2 => ?_)
  rotate_left
  · exact False.elim (by revert c2; decide)
  refine lv_iload hx hb dX10_isWordIn_105 (lv_at hl 1 rfl) ?_
  exact rP_z hx hb hr hlocks (by decide) dX10_isWordIn_107

set_option maxHeartbeats 4000000 in
set_option maxRecDepth 100000 in
theorem c_X10_isWord_4 (l : Launch) (dC : Nat → ClassId) (dI : Nat → Nat → Nat) (kA : Nat → ClassId) (sz : Nat) (x_tape : Nat) (ka : Nat) (x_bytes : Nat) (va : Nat)  : Met l yX10_isWord (wsU yX10_isWord cX10_isWord 2 (some .boolean)) ({ frames := 2, cells := 0, slots := 0, locals := 40 }) (va_Pc [.ref x_tape, .ref ka] (PWS dC dI kA [(x_tape, .inr (10, [.ref x_bytes, .int 0, .int 0, .int 256, .int 0, .int 0]))] sz [(ka, va, 4)] [])) (QP (some (.int 0))) 0 0 (fun _ => False) := by
  refine met_PS (own := RX10) (by decide) rfl (Nat.le_of_ble_eq_true rfl) ?_
  intro p e s m below meth c ls A hx hb hr hts hown hlocks hml hK hN hA hP hD hS hl hSL hRL
  have hl : lv_has ls 2 [(0, .ref x_tape), (1, .ref ka)] := hl
  have hP : va_P (dC, dI) vwCl [(x_tape, .inr (10, [.ref x_bytes, .int 0, .int 0, .int 256, .int 0, .int 0]))] s.heap := hP
  refine lv_aload_n hx hb dX10_isWord_0 rfl (lv_at hl 0 rfl) ?_
  refine lv_aload_n hx hb dX10_isWord_1 rfl (lv_at hl 1 rfl) ?_
  refine lv_iconst (v := 0) hx hb dX10_isWord_2 (by decide) ?_
  refine lv_aload_n hx hb dX10_isWord_3 rfl (lv_at hl 1 rfl) ?_
  refine cP (W.runV (As := []) (rest := [.int 0, .ref ka, .ref x_tape]) ⟨hx, hb, hml, hown, hts⟩ (c_J0_length_4 l dC dI kA s.heap.size ka va) (cwV 0 hts (gV lk_538 lk_539 lk_540 lk_122 lk_541) rfl rfl rfl (by decide +kernel) ⟨Nat.le_of_ble_eq_true rfl, Nat.le_of_ble_eq_true rfl⟩) (pws_k hK hN hA hS (hSL _ (List.mem_of_getElem? (i := 0) rfl))) rfl rfl hl.1 rfl (lv_room (Nat.le_of_ble_eq_true rfl)) dX10_isWord_4 ⟨Nat.le_of_ble_eq_true rfl, Nat.le_of_ble_eq_true rfl⟩) ?_
  refine W.eq (g2 := F0 m 7 ls [.int 4, .int 0, .ref ka, .ref x_tape]) rfl ?_
  have hPc := hP.sub (ws' := [(x_tape, .inr (10, [.ref x_bytes, .int 0, .int 0, .int 256, .int 0, .int 0]))]) [0] rfl
  have hDc := hD.sub (ws' := [(x_tape, .inr (10, [.ref x_bytes, .int 0, .int 0, .int 256, .int 0, .int 0]))]) [0] (by decide) rfl
  refine cP (W.runV (As := [.ref ka, .int 0, .int 4]) (rest := []) ⟨hx, hb, hml, hown, hts⟩ (c_X10_isWordIn_4 l dC dI kA s.heap.size x_tape ka x_bytes ) (cwV 3 hts (gV lk_548 lk_549 lk_550 lk_111 lk_551) rfl rfl rfl (by decide +kernel) ⟨Nat.le_of_ble_eq_true rfl, Nat.le_of_ble_eq_true rfl⟩) (pw_v hPc hDc hK hN 0 10 rfl rfl) rfl rfl hl.1 rfl (lv_room (Nat.le_of_ble_eq_true rfl)) dX10_isWord_7 ⟨Nat.le_of_ble_eq_true rfl, Nat.le_of_ble_eq_true rfl⟩) ?_
  refine W.eq (g2 := F0 m 10 ls [.int 0]) rfl ?_
  exact rP_z hx hb hr hlocks (by decide) dX10_isWord_10

set_option maxHeartbeats 4000000 in
set_option maxRecDepth 100000 in
theorem c_X10_isWordIn_5 (l : Launch) (dC : Nat → ClassId) (dI : Nat → Nat → Nat) (kA : Nat → ClassId) (sz : Nat) (x_tape : Nat) (ka : Nat) (x_bytes : Nat)  : Met l yX10_isWordIn (wsU yX10_isWordIn cX10_isWordIn 7 (some .boolean)) ({ frames := 0, cells := 0, slots := 0, locals := 0 }) (va_Pc [.ref x_tape, .ref ka, .int 0, .int 5] (PW dC dI kA [(x_tape, .inr (10, [.ref x_bytes, .int 0, .int 0, .int 256, .int 0, .int 0]))] sz)) (QP (some (.int 0))) 0 0 (fun _ => False) := by
  refine met_P (own := RX10) (by decide) rfl (Nat.le_of_ble_eq_true rfl) ?_
  intro p e s m below meth c ls hx hb hr hts hown hlocks hml hK hN hP hD hl
  have hl : lv_has ls 7 [(0, .ref x_tape), (1, .ref ka), (2, .int 0), (3, .int 5)] := hl
  have hP : va_P (dC, dI) vwCl [(x_tape, .inr (10, [.ref x_bytes, .int 0, .int 0, .int 256, .int 0, .int 0]))] s.heap := hP
  refine lv_aload_n hx hb dX10_isWordIn_0 rfl (lv_at hl 0 rfl) ?_
  refine va_get (D := (dC, dI)) (ci := 10) (v := .int 0) (C := RX10) (T := TX10) (N := 6) hx hb hts uX10 hown hK hP 0 rfl rfl 5 (by decide) (hts _ lk_154) (fun _ h9 => h9) rfl dX10_isWordIn_1 ?_
  refine lv_aload_n hx hb dX10_isWordIn_4 rfl (lv_at hl 0 rfl) ?_
  refine va_get (D := (dC, dI)) (ci := 10) (v := .int 0) (C := RX10) (T := TX10) (N := 6) hx hb hts uX10 hown hK hP 0 rfl rfl 4 (by decide) (hts _ lk_153) (fun _ h9 => h9) rfl dX10_isWordIn_5 ?_
  refine lv_isub hx hb dX10_isWordIn_8 ?_
  refine lv_toc (y := 0) (by decide) ?_
  refine lv_istore (lv' := [(4, .int 0), (0, .ref x_tape), (1, .ref ka), (2, .int 0), (3, .int 5)]) hx hb dX10_isWordIn_9 hl (by decide) rfl (fun ls hl => ?_)
  refine lv_aload_n hx hb dX10_isWordIn_11 rfl (lv_at hl 1 rfl) ?_
  refine va_get (D := (dC, dI)) (ci := 10) (v := .int 256) (C := RX10) (T := TX10) (N := 6) hx hb hts uX10 hown hK hP 0 rfl rfl 3 (by decide) (hts _ lk_152) (fun _ h9 => h9) rfl dX10_isWordIn_12 ?_
  refine lv_sipush (v := 258) hx hb dX10_isWordIn_15 (by decide) ?_
  refine lv_icmp_ne (tgt := 41) hx hb dX10_isWordIn_18 (by decide) (fun c1 => ?_) (fun c1 => ?_)
  rotate_left
  · exact False.elim (by revert c1; decide)
  refine lv_iconst (v := 0) hx hb dX10_isWordIn_41 (by decide) ?_
  refine lv_istore (lv' := [(5, .int 0), (4, .int 0), (0, .ref x_tape), (1, .ref ka), (2, .int 0), (3, .int 5)]) hx hb dX10_isWordIn_42 hl (by decide) rfl (fun ls hl => ?_)
  refine lv_iconst (v := 0) hx hb dX10_isWordIn_44 (by decide) ?_
  refine lv_istore (lv' := [(6, .int 0), (5, .int 0), (4, .int 0), (0, .ref x_tape), (1, .ref ka), (2, .int 0), (3, .int 5)]) hx hb dX10_isWordIn_45 hl (by decide) rfl (fun ls hl => ?_)
  refine lv_iload hx hb dX10_isWordIn_47 (lv_at hl 1 rfl) ?_
  refine lv_if_eq (tgt := 105) hx hb dX10_isWordIn_49 (by decide) (fun c2 => ?_) (fun c2 => ?_)
  rotate_left
  · exact False.elim (by revert c2; decide)
  refine lv_iload hx hb dX10_isWordIn_105 (lv_at hl 1 rfl) ?_
  exact rP_z hx hb hr hlocks (by decide) dX10_isWordIn_107

set_option maxHeartbeats 4000000 in
set_option maxRecDepth 100000 in
theorem c_X10_isWord_5 (l : Launch) (dC : Nat → ClassId) (dI : Nat → Nat → Nat) (kA : Nat → ClassId) (sz : Nat) (x_tape : Nat) (ka : Nat) (x_bytes : Nat) (va : Nat)  : Met l yX10_isWord (wsU yX10_isWord cX10_isWord 2 (some .boolean)) ({ frames := 2, cells := 0, slots := 0, locals := 40 }) (va_Pc [.ref x_tape, .ref ka] (PWS dC dI kA [(x_tape, .inr (10, [.ref x_bytes, .int 0, .int 0, .int 256, .int 0, .int 0]))] sz [(ka, va, 5)] [])) (QP (some (.int 0))) 0 0 (fun _ => False) := by
  refine met_PS (own := RX10) (by decide) rfl (Nat.le_of_ble_eq_true rfl) ?_
  intro p e s m below meth c ls A hx hb hr hts hown hlocks hml hK hN hA hP hD hS hl hSL hRL
  have hl : lv_has ls 2 [(0, .ref x_tape), (1, .ref ka)] := hl
  have hP : va_P (dC, dI) vwCl [(x_tape, .inr (10, [.ref x_bytes, .int 0, .int 0, .int 256, .int 0, .int 0]))] s.heap := hP
  refine lv_aload_n hx hb dX10_isWord_0 rfl (lv_at hl 0 rfl) ?_
  refine lv_aload_n hx hb dX10_isWord_1 rfl (lv_at hl 1 rfl) ?_
  refine lv_iconst (v := 0) hx hb dX10_isWord_2 (by decide) ?_
  refine lv_aload_n hx hb dX10_isWord_3 rfl (lv_at hl 1 rfl) ?_
  refine cP (W.runV (As := []) (rest := [.int 0, .ref ka, .ref x_tape]) ⟨hx, hb, hml, hown, hts⟩ (c_J0_length_5 l dC dI kA s.heap.size ka va) (cwV 0 hts (gV lk_538 lk_539 lk_540 lk_122 lk_541) rfl rfl rfl (by decide +kernel) ⟨Nat.le_of_ble_eq_true rfl, Nat.le_of_ble_eq_true rfl⟩) (pws_k hK hN hA hS (hSL _ (List.mem_of_getElem? (i := 0) rfl))) rfl rfl hl.1 rfl (lv_room (Nat.le_of_ble_eq_true rfl)) dX10_isWord_4 ⟨Nat.le_of_ble_eq_true rfl, Nat.le_of_ble_eq_true rfl⟩) ?_
  refine W.eq (g2 := F0 m 7 ls [.int 5, .int 0, .ref ka, .ref x_tape]) rfl ?_
  have hPc := hP.sub (ws' := [(x_tape, .inr (10, [.ref x_bytes, .int 0, .int 0, .int 256, .int 0, .int 0]))]) [0] rfl
  have hDc := hD.sub (ws' := [(x_tape, .inr (10, [.ref x_bytes, .int 0, .int 0, .int 256, .int 0, .int 0]))]) [0] (by decide) rfl
  refine cP (W.runV (As := [.ref ka, .int 0, .int 5]) (rest := []) ⟨hx, hb, hml, hown, hts⟩ (c_X10_isWordIn_5 l dC dI kA s.heap.size x_tape ka x_bytes ) (cwV 3 hts (gV lk_548 lk_549 lk_550 lk_111 lk_551) rfl rfl rfl (by decide +kernel) ⟨Nat.le_of_ble_eq_true rfl, Nat.le_of_ble_eq_true rfl⟩) (pw_v hPc hDc hK hN 0 10 rfl rfl) rfl rfl hl.1 rfl (lv_room (Nat.le_of_ble_eq_true rfl)) dX10_isWord_7 ⟨Nat.le_of_ble_eq_true rfl, Nat.le_of_ble_eq_true rfl⟩) ?_
  refine W.eq (g2 := F0 m 10 ls [.int 0]) rfl ?_
  exact rP_z hx hb hr hlocks (by decide) dX10_isWord_10

set_option maxHeartbeats 4000000 in
set_option maxRecDepth 100000 in
theorem c_X10_isWordIn_6 (l : Launch) (dC : Nat → ClassId) (dI : Nat → Nat → Nat) (kA : Nat → ClassId) (sz : Nat) (x_tape : Nat) (ka : Nat) (x_bytes : Nat)  : Met l yX10_isWordIn (wsU yX10_isWordIn cX10_isWordIn 7 (some .boolean)) ({ frames := 0, cells := 0, slots := 0, locals := 0 }) (va_Pc [.ref x_tape, .ref ka, .int 0, .int 6] (PW dC dI kA [(x_tape, .inr (10, [.ref x_bytes, .int 0, .int 0, .int 256, .int 0, .int 0]))] sz)) (QP (some (.int 0))) 0 0 (fun _ => False) := by
  refine met_P (own := RX10) (by decide) rfl (Nat.le_of_ble_eq_true rfl) ?_
  intro p e s m below meth c ls hx hb hr hts hown hlocks hml hK hN hP hD hl
  have hl : lv_has ls 7 [(0, .ref x_tape), (1, .ref ka), (2, .int 0), (3, .int 6)] := hl
  have hP : va_P (dC, dI) vwCl [(x_tape, .inr (10, [.ref x_bytes, .int 0, .int 0, .int 256, .int 0, .int 0]))] s.heap := hP
  refine lv_aload_n hx hb dX10_isWordIn_0 rfl (lv_at hl 0 rfl) ?_
  refine va_get (D := (dC, dI)) (ci := 10) (v := .int 0) (C := RX10) (T := TX10) (N := 6) hx hb hts uX10 hown hK hP 0 rfl rfl 5 (by decide) (hts _ lk_154) (fun _ h9 => h9) rfl dX10_isWordIn_1 ?_
  refine lv_aload_n hx hb dX10_isWordIn_4 rfl (lv_at hl 0 rfl) ?_
  refine va_get (D := (dC, dI)) (ci := 10) (v := .int 0) (C := RX10) (T := TX10) (N := 6) hx hb hts uX10 hown hK hP 0 rfl rfl 4 (by decide) (hts _ lk_153) (fun _ h9 => h9) rfl dX10_isWordIn_5 ?_
  refine lv_isub hx hb dX10_isWordIn_8 ?_
  refine lv_toc (y := 0) (by decide) ?_
  refine lv_istore (lv' := [(4, .int 0), (0, .ref x_tape), (1, .ref ka), (2, .int 0), (3, .int 6)]) hx hb dX10_isWordIn_9 hl (by decide) rfl (fun ls hl => ?_)
  refine lv_aload_n hx hb dX10_isWordIn_11 rfl (lv_at hl 1 rfl) ?_
  refine va_get (D := (dC, dI)) (ci := 10) (v := .int 256) (C := RX10) (T := TX10) (N := 6) hx hb hts uX10 hown hK hP 0 rfl rfl 3 (by decide) (hts _ lk_152) (fun _ h9 => h9) rfl dX10_isWordIn_12 ?_
  refine lv_sipush (v := 258) hx hb dX10_isWordIn_15 (by decide) ?_
  refine lv_icmp_ne (tgt := 41) hx hb dX10_isWordIn_18 (by decide) (fun c1 => ?_) (fun c1 => ?_)
  rotate_left
  · exact False.elim (by revert c1; decide)
  refine lv_iconst (v := 0) hx hb dX10_isWordIn_41 (by decide) ?_
  refine lv_istore (lv' := [(5, .int 0), (4, .int 0), (0, .ref x_tape), (1, .ref ka), (2, .int 0), (3, .int 6)]) hx hb dX10_isWordIn_42 hl (by decide) rfl (fun ls hl => ?_)
  refine lv_iconst (v := 0) hx hb dX10_isWordIn_44 (by decide) ?_
  refine lv_istore (lv' := [(6, .int 0), (5, .int 0), (4, .int 0), (0, .ref x_tape), (1, .ref ka), (2, .int 0), (3, .int 6)]) hx hb dX10_isWordIn_45 hl (by decide) rfl (fun ls hl => ?_)
  refine lv_iload hx hb dX10_isWordIn_47 (lv_at hl 1 rfl) ?_
  refine lv_if_eq (tgt := 105) hx hb dX10_isWordIn_49 (by decide) (fun c2 => ?_) (fun c2 => ?_)
  rotate_left
  · exact False.elim (by revert c2; decide)
  refine lv_iload hx hb dX10_isWordIn_105 (lv_at hl 1 rfl) ?_
  exact rP_z hx hb hr hlocks (by decide) dX10_isWordIn_107

set_option maxHeartbeats 4000000 in
set_option maxRecDepth 100000 in
theorem c_X10_isWord_6 (l : Launch) (dC : Nat → ClassId) (dI : Nat → Nat → Nat) (kA : Nat → ClassId) (sz : Nat) (x_tape : Nat) (ka : Nat) (x_bytes : Nat) (va : Nat)  : Met l yX10_isWord (wsU yX10_isWord cX10_isWord 2 (some .boolean)) ({ frames := 2, cells := 0, slots := 0, locals := 40 }) (va_Pc [.ref x_tape, .ref ka] (PWS dC dI kA [(x_tape, .inr (10, [.ref x_bytes, .int 0, .int 0, .int 256, .int 0, .int 0]))] sz [(ka, va, 6)] [])) (QP (some (.int 0))) 0 0 (fun _ => False) := by
  refine met_PS (own := RX10) (by decide) rfl (Nat.le_of_ble_eq_true rfl) ?_
  intro p e s m below meth c ls A hx hb hr hts hown hlocks hml hK hN hA hP hD hS hl hSL hRL
  have hl : lv_has ls 2 [(0, .ref x_tape), (1, .ref ka)] := hl
  have hP : va_P (dC, dI) vwCl [(x_tape, .inr (10, [.ref x_bytes, .int 0, .int 0, .int 256, .int 0, .int 0]))] s.heap := hP
  refine lv_aload_n hx hb dX10_isWord_0 rfl (lv_at hl 0 rfl) ?_
  refine lv_aload_n hx hb dX10_isWord_1 rfl (lv_at hl 1 rfl) ?_
  refine lv_iconst (v := 0) hx hb dX10_isWord_2 (by decide) ?_
  refine lv_aload_n hx hb dX10_isWord_3 rfl (lv_at hl 1 rfl) ?_
  refine cP (W.runV (As := []) (rest := [.int 0, .ref ka, .ref x_tape]) ⟨hx, hb, hml, hown, hts⟩ (c_J0_length_6 l dC dI kA s.heap.size ka va) (cwV 0 hts (gV lk_538 lk_539 lk_540 lk_122 lk_541) rfl rfl rfl (by decide +kernel) ⟨Nat.le_of_ble_eq_true rfl, Nat.le_of_ble_eq_true rfl⟩) (pws_k hK hN hA hS (hSL _ (List.mem_of_getElem? (i := 0) rfl))) rfl rfl hl.1 rfl (lv_room (Nat.le_of_ble_eq_true rfl)) dX10_isWord_4 ⟨Nat.le_of_ble_eq_true rfl, Nat.le_of_ble_eq_true rfl⟩) ?_
  refine W.eq (g2 := F0 m 7 ls [.int 6, .int 0, .ref ka, .ref x_tape]) rfl ?_
  have hPc := hP.sub (ws' := [(x_tape, .inr (10, [.ref x_bytes, .int 0, .int 0, .int 256, .int 0, .int 0]))]) [0] rfl
  have hDc := hD.sub (ws' := [(x_tape, .inr (10, [.ref x_bytes, .int 0, .int 0, .int 256, .int 0, .int 0]))]) [0] (by decide) rfl
  refine cP (W.runV (As := [.ref ka, .int 0, .int 6]) (rest := []) ⟨hx, hb, hml, hown, hts⟩ (c_X10_isWordIn_6 l dC dI kA s.heap.size x_tape ka x_bytes ) (cwV 3 hts (gV lk_548 lk_549 lk_550 lk_111 lk_551) rfl rfl rfl (by decide +kernel) ⟨Nat.le_of_ble_eq_true rfl, Nat.le_of_ble_eq_true rfl⟩) (pw_v hPc hDc hK hN 0 10 rfl rfl) rfl rfl hl.1 rfl (lv_room (Nat.le_of_ble_eq_true rfl)) dX10_isWord_7 ⟨Nat.le_of_ble_eq_true rfl, Nat.le_of_ble_eq_true rfl⟩) ?_
  refine W.eq (g2 := F0 m 10 ls [.int 0]) rfl ?_
  exact rP_z hx hb hr hlocks (by decide) dX10_isWord_10

set_option maxHeartbeats 4000000 in
set_option maxRecDepth 100000 in
theorem c_X10_fail (l : Launch) (dC : Nat → ClassId) (dI : Nat → Nat → Nat) (kA : Nat → ClassId) (sz : Nat) (x_tape : Nat) (x_bytes : Nat)  : Met l yX10_fail (wsU yX10_fail cX10_fail 2 (some .boolean)) ({ frames := 0, cells := 0, slots := 0, locals := 0 }) (va_Pc [.ref x_tape, .int 0] (PW dC dI kA [(x_tape, .inr (10, [.ref x_bytes, .int 0, .int 0, .int 256, .int 0, .int 0]))] sz)) (QU dC dI (some (.int 0)) (fun w => w = [(x_tape, .inr (10, [.ref x_bytes, .int 0, .int 1, .int 256, .int 0, .int 0]))]) (va_A [(x_tape, .inr (10, [.ref x_bytes, .int 0, .int 0, .int 256, .int 0, .int 0]))] sz)) 0 0 (va_A [(x_tape, .inr (10, [.ref x_bytes, .int 0, .int 0, .int 256, .int 0, .int 0]))] sz) := by
  refine met_M (own := RX10) (by decide) rfl (Nat.le_of_ble_eq_true rfl) ?_
  intro p e s m below meth c ls A hx hb hr hts hown hlocks hml hin hK hN hA hP hD hS hl
  have hl : lv_has ls 2 [(0, .ref x_tape), (1, .int 0)] := hl
  have hP : va_P (dC, dI) vwCl [(x_tape, .inr (10, [.ref x_bytes, .int 0, .int 0, .int 256, .int 0, .int 0]))] s.heap := hP
  have hD : va_D A [(x_tape, .inr (10, [.ref x_bytes, .int 0, .int 0, .int 256, .int 0, .int 0]))] := hD
  refine lv_aload_n hx hb dX10_fail_0 rfl (lv_at hl 0 rfl) ?_
  refine lv_iconst (v := 1) hx hb dX10_fail_1 (by decide) ?_
  refine lv_bipush (v := 8) hx hb dX10_fail_2 (by decide) ?_
  refine lv_aload_n hx hb dX10_fail_4 rfl (lv_at hl 0 rfl) ?_
  refine va_get (D := (dC, dI)) (ci := 10) (v := .int 0) (C := RX10) (T := TX10) (N := 6) hx hb hts uX10 hown hK hP 0 rfl rfl 4 (by decide) (hts _ lk_153) (fun _ h9 => h9) rfl dX10_fail_5 ?_
  refine lv_imul hx hb dX10_fail_8 ?_
  refine lv_toc (y := 0) (by decide) ?_
  refine lv_iadd hx hb dX10_fail_9 ?_
  refine lv_toc (y := 1) (by decide) ?_
  refine lv_iload_n hx hb dX10_fail_10 rfl (lv_at hl 1 rfl) ?_
  refine lv_iadd hx hb dX10_fail_11 ?_
  refine lv_toc (y := 1) (by decide) ?_
  refine va_put (D := (dC, dI)) (ci := 10) (v := .int 1) (ty := .int) (C := RX10) (T := TX10) (N := 6) hx hb hts uX10 tyX10 tyX10_ok nmX10 hown hK hP hD hS 0 rfl rfl 2 (by decide) (hts _ lk_148) (fun _ h9 => h9) rfl (by decide +kernel) rfl rfl (Nat.le_of_ble_eq_true rfl) dX10_fail_12 (fun H1 locs hP hD hS => ?_)
  have hP : va_P (dC, dI) vwCl [(x_tape, .inr (10, [.ref x_bytes, .int 0, .int 1, .int 256, .int 0, .int 0]))] H1 := hP
  have hD : va_D A [(x_tape, .inr (10, [.ref x_bytes, .int 0, .int 1, .int 256, .int 0, .int 0]))] := hD
  refine lv_iconst (v := 0) hx hb dX10_fail_15 (by decide) ?_
  refine W.widen (k := 0) (n := 0) (Nat.le_of_ble_eq_true rfl) (Nat.le_of_ble_eq_true rfl) ?_
  have hP9 := hP.sub (ws' := [(x_tape, .inr (10, [.ref x_bytes, .int 0, .int 1, .int 256, .int 0, .int 0]))]) [0] rfl
  have hD9 := hD.sub (ws' := [(x_tape, .inr (10, [.ref x_bytes, .int 0, .int 1, .int 256, .int 0, .int 0]))]) [0] (by decide) rfl
  exact rM_z hx hb hr hlocks (by decide) hP9 hD9 hS rfl dX10_fail_16

set_option maxHeartbeats 4000000 in
set_option maxRecDepth 100000 in
theorem c_X1_clear (l : Launch) (dC : Nat → ClassId) (dI : Nat → Nat → Nat) (kA : Nat → ClassId) (sz : Nat) (x_draft : Nat) (d_grades : Nat) (d_wants : Nat) (d_mixWeeks : Nat) (d_mixOnes : Nat) (d_mixOthers : Nat)  : Met l yX1_clear (wsU yX1_clear cX1_clear 1 none) ({ frames := 0, cells := 0, slots := 0, locals := 0 }) (va_Pc [.ref x_draft] (PW dC dI kA [(x_draft, .inr (1, [.int 0, .int 0, .int 0, .int 0, .int 0, .ref d_grades, .ref d_wants, .ref d_mixWeeks, .ref d_mixOnes, .ref d_mixOthers]))] sz)) (QU dC dI none (fun w => w = [(x_draft, .inr (1, [.int 0, .int 0, .int 0, .int 0, .int 0, .ref d_grades, .ref d_wants, .ref d_mixWeeks, .ref d_mixOnes, .ref d_mixOthers]))]) (va_A [(x_draft, .inr (1, [.int 0, .int 0, .int 0, .int 0, .int 0, .ref d_grades, .ref d_wants, .ref d_mixWeeks, .ref d_mixOnes, .ref d_mixOthers]))] sz)) 0 0 (va_A [(x_draft, .inr (1, [.int 0, .int 0, .int 0, .int 0, .int 0, .ref d_grades, .ref d_wants, .ref d_mixWeeks, .ref d_mixOnes, .ref d_mixOthers]))] sz) := by
  refine met_M (own := RX1) (by decide) rfl (Nat.le_of_ble_eq_true rfl) ?_
  intro p e s m below meth c ls A hx hb hr hts hown hlocks hml hin hK hN hA hP hD hS hl
  have hl : lv_has ls 1 [(0, .ref x_draft)] := hl
  have hP : va_P (dC, dI) vwCl [(x_draft, .inr (1, [.int 0, .int 0, .int 0, .int 0, .int 0, .ref d_grades, .ref d_wants, .ref d_mixWeeks, .ref d_mixOnes, .ref d_mixOthers]))] s.heap := hP
  have hD : va_D A [(x_draft, .inr (1, [.int 0, .int 0, .int 0, .int 0, .int 0, .ref d_grades, .ref d_wants, .ref d_mixWeeks, .ref d_mixOnes, .ref d_mixOthers]))] := hD
  refine lv_aload_n hx hb dX1_clear_0 rfl (lv_at hl 0 rfl) ?_
  refine lv_iconst (v := 0) hx hb dX1_clear_1 (by decide) ?_
  refine va_put (D := (dC, dI)) (ci := 1) (v := .int 0) (ty := .boolean) (C := RX1) (T := TX1) (N := 10) hx hb hts uX1 tyX1 tyX1_ok nmX1 hown hK hP hD hS 0 rfl rfl 0 (by decide) (hts _ lk_213) (fun _ h9 => h9) rfl (by decide +kernel) rfl rfl (Nat.le_of_ble_eq_true rfl) dX1_clear_2 (fun H1 locs hP hD hS => ?_)
  have hP : va_P (dC, dI) vwCl [(x_draft, .inr (1, [.int 0, .int 0, .int 0, .int 0, .int 0, .ref d_grades, .ref d_wants, .ref d_mixWeeks, .ref d_mixOnes, .ref d_mixOthers]))] H1 := hP
  have hD : va_D A [(x_draft, .inr (1, [.int 0, .int 0, .int 0, .int 0, .int 0, .ref d_grades, .ref d_wants, .ref d_mixWeeks, .ref d_mixOnes, .ref d_mixOthers]))] := hD
  refine lv_aload_n hx hb dX1_clear_5 rfl (lv_at hl 0 rfl) ?_
  refine lv_iconst (v := 0) hx hb dX1_clear_6 (by decide) ?_
  refine va_put (D := (dC, dI)) (ci := 1) (v := .int 0) (ty := .int) (C := RX1) (T := TX1) (N := 10) hx hb hts uX1 tyX1 tyX1_ok nmX1 hown hK hP hD hS 0 rfl rfl 1 (by decide) (hts _ lk_216) (fun _ h9 => h9) rfl (by decide +kernel) rfl rfl (Nat.le_of_ble_eq_true rfl) dX1_clear_7 (fun H2 locs hP hD hS => ?_)
  have hP : va_P (dC, dI) vwCl [(x_draft, .inr (1, [.int 0, .int 0, .int 0, .int 0, .int 0, .ref d_grades, .ref d_wants, .ref d_mixWeeks, .ref d_mixOnes, .ref d_mixOthers]))] H2 := hP
  have hD : va_D A [(x_draft, .inr (1, [.int 0, .int 0, .int 0, .int 0, .int 0, .ref d_grades, .ref d_wants, .ref d_mixWeeks, .ref d_mixOnes, .ref d_mixOthers]))] := hD
  refine lv_aload_n hx hb dX1_clear_10 rfl (lv_at hl 0 rfl) ?_
  refine lv_iconst (v := 0) hx hb dX1_clear_11 (by decide) ?_
  refine va_put (D := (dC, dI)) (ci := 1) (v := .int 0) (ty := .int) (C := RX1) (T := TX1) (N := 10) hx hb hts uX1 tyX1 tyX1_ok nmX1 hown hK hP hD hS 0 rfl rfl 2 (by decide) (hts _ lk_220) (fun _ h9 => h9) rfl (by decide +kernel) rfl rfl (Nat.le_of_ble_eq_true rfl) dX1_clear_12 (fun H3 locs hP hD hS => ?_)
  have hP : va_P (dC, dI) vwCl [(x_draft, .inr (1, [.int 0, .int 0, .int 0, .int 0, .int 0, .ref d_grades, .ref d_wants, .ref d_mixWeeks, .ref d_mixOnes, .ref d_mixOthers]))] H3 := hP
  have hD : va_D A [(x_draft, .inr (1, [.int 0, .int 0, .int 0, .int 0, .int 0, .ref d_grades, .ref d_wants, .ref d_mixWeeks, .ref d_mixOnes, .ref d_mixOthers]))] := hD
  refine lv_aload_n hx hb dX1_clear_15 rfl (lv_at hl 0 rfl) ?_
  refine lv_iconst (v := 0) hx hb dX1_clear_16 (by decide) ?_
  refine va_put (D := (dC, dI)) (ci := 1) (v := .int 0) (ty := .int) (C := RX1) (T := TX1) (N := 10) hx hb hts uX1 tyX1 tyX1_ok nmX1 hown hK hP hD hS 0 rfl rfl 3 (by decide) (hts _ lk_223) (fun _ h9 => h9) rfl (by decide +kernel) rfl rfl (Nat.le_of_ble_eq_true rfl) dX1_clear_17 (fun H4 locs hP hD hS => ?_)
  have hP : va_P (dC, dI) vwCl [(x_draft, .inr (1, [.int 0, .int 0, .int 0, .int 0, .int 0, .ref d_grades, .ref d_wants, .ref d_mixWeeks, .ref d_mixOnes, .ref d_mixOthers]))] H4 := hP
  have hD : va_D A [(x_draft, .inr (1, [.int 0, .int 0, .int 0, .int 0, .int 0, .ref d_grades, .ref d_wants, .ref d_mixWeeks, .ref d_mixOnes, .ref d_mixOthers]))] := hD
  refine lv_aload_n hx hb dX1_clear_20 rfl (lv_at hl 0 rfl) ?_
  refine lv_iconst (v := 0) hx hb dX1_clear_21 (by decide) ?_
  refine va_put (D := (dC, dI)) (ci := 1) (v := .int 0) (ty := .int) (C := RX1) (T := TX1) (N := 10) hx hb hts uX1 tyX1 tyX1_ok nmX1 hown hK hP hD hS 0 rfl rfl 4 (by decide) (hts _ lk_229) (fun _ h9 => h9) rfl (by decide +kernel) rfl rfl (Nat.le_of_ble_eq_true rfl) dX1_clear_22 (fun H5 locs hP hD hS => ?_)
  have hP : va_P (dC, dI) vwCl [(x_draft, .inr (1, [.int 0, .int 0, .int 0, .int 0, .int 0, .ref d_grades, .ref d_wants, .ref d_mixWeeks, .ref d_mixOnes, .ref d_mixOthers]))] H5 := hP
  have hD : va_D A [(x_draft, .inr (1, [.int 0, .int 0, .int 0, .int 0, .int 0, .ref d_grades, .ref d_wants, .ref d_mixWeeks, .ref d_mixOnes, .ref d_mixOthers]))] := hD
  refine W.widen (k := 0) (n := 0) (Nat.le_of_ble_eq_true rfl) (Nat.le_of_ble_eq_true rfl) ?_
  have hP9 := hP.sub (ws' := [(x_draft, .inr (1, [.int 0, .int 0, .int 0, .int 0, .int 0, .ref d_grades, .ref d_wants, .ref d_mixWeeks, .ref d_mixOnes, .ref d_mixOthers]))]) [0] rfl
  have hD9 := hD.sub (ws' := [(x_draft, .inr (1, [.int 0, .int 0, .int 0, .int 0, .int 0, .ref d_grades, .ref d_wants, .ref d_mixWeeks, .ref d_mixOnes, .ref d_mixOthers]))]) [0] (by decide) rfl
  exact rM_v hx hb hr hlocks hP9 hD9 hS rfl dX1_clear_25

set_option maxHeartbeats 4000000 in
set_option maxRecDepth 100000 in
theorem c_X2_readsClause (l : Launch) (dC : Nat → ClassId) (dI : Nat → Nat → Nat) (kA : Nat → ClassId) (sz : Nat) (x_tape : Nat) (x_draft : Nat) (x_bytes : Nat) (ka : Nat) (va : Nat) (kb : Nat) (vb : Nat) (kc : Nat) (vc : Nat)  : Met l yX2_readsClause (wsU yX2_readsClause cX2_readsClause 6 (some .boolean)) ({ frames := 3, cells := 0, slots := 0, locals := 61 }) (va_Pc [.ref x_tape, .ref x_draft, .int 0] (PWS dC dI kA [(x_tape, .inr (10, [.ref x_bytes, .int 0, .int 0, .int 256, .int 0, .int 0]))] sz [(ka, va, 5), (kb, vb, 6), (kc, vc, 3)] [(RX2, 40, "house", ka), (RX2, 46, "lodger", kb), (RX2, 48, "mix", kc)])) (QU dC dI (some (.int 0)) (fun w => w = [(x_tape, .inr (10, [.ref x_bytes, .int 0, .int 1, .int 256, .int 0, .int 0]))]) (va_A [(x_tape, .inr (10, [.ref x_bytes, .int 0, .int 0, .int 256, .int 0, .int 0]))] sz)) 0 0 (va_A [(x_tape, .inr (10, [.ref x_bytes, .int 0, .int 0, .int 256, .int 0, .int 0]))] sz) := by
  refine met_MS (own := RX2) (by decide) rfl (Nat.le_of_ble_eq_true rfl) ?_
  intro p e s m below meth c ls A hx hb hr hts hown hlocks hml hin hK hN hA hP hD hS hl hSL hRL
  have hl : lv_has ls 6 [(0, .ref x_tape), (1, .ref x_draft), (2, .int 0)] := hl
  have hP : va_P (dC, dI) vwCl [(x_tape, .inr (10, [.ref x_bytes, .int 0, .int 0, .int 256, .int 0, .int 0]))] s.heap := hP
  have hD : va_D A [(x_tape, .inr (10, [.ref x_bytes, .int 0, .int 0, .int 256, .int 0, .int 0]))] := hD
  refine lv_aload_n hx hb dX2_readsClause_0 rfl (lv_at hl 0 rfl) ?_
  refine va_ldcS (own := RX2) (tx := "house") (q := ka) hx hb hown (hRL _ (List.mem_of_getElem? (i := 0) rfl)) dX2_readsClause_1 ?_
  have hPc := hP.sub (ws' := [(x_tape, .inr (10, [.ref x_bytes, .int 0, .int 0, .int 256, .int 0, .int 0]))]) [0] rfl
  have hDc := hD.sub (ws' := [(x_tape, .inr (10, [.ref x_bytes, .int 0, .int 0, .int 256, .int 0, .int 0]))]) [0] (by decide) rfl
  refine cP (W.runV (As := [.ref ka]) (rest := []) ⟨hx, hb, hml, hown, hts⟩ (c_X10_isWord_5 l dC dI kA s.heap.size x_tape ka x_bytes va ) (cwV 1 hts (gV lk_534 lk_535 lk_536 lk_111 lk_537) rfl rfl rfl (by decide +kernel) ⟨Nat.le_of_ble_eq_true rfl, Nat.le_of_ble_eq_true rfl⟩) (pws_v hPc hDc hK hN hS (va_free hD hS hA [0] rfl) hSL hRL (by simp) (fun _ h => absurd h List.not_mem_nil) 0 10 rfl rfl) rfl rfl hl.1 rfl (lv_room (Nat.le_of_ble_eq_true rfl)) dX2_readsClause_3 ⟨Nat.le_of_ble_eq_true rfl, Nat.le_of_ble_eq_true rfl⟩) ?_
  refine W.eq (g2 := F0 m 6 ls [.int 0]) rfl ?_
  refine lv_istore_n (lv' := [(3, .int 0), (0, .ref x_tape), (1, .ref x_draft), (2, .int 0)]) hx hb dX2_readsClause_6 rfl hl (by decide) rfl (fun ls hl => ?_)
  refine lv_aload_n hx hb dX2_readsClause_7 rfl (lv_at hl 1 rfl) ?_
  refine va_ldcS (own := RX2) (tx := "lodger") (q := kb) hx hb hown (hRL _ (List.mem_of_getElem? (i := 1) rfl)) dX2_readsClause_8 ?_
  have hPc := hP.sub (ws' := [(x_tape, .inr (10, [.ref x_bytes, .int 0, .int 0, .int 256, .int 0, .int 0]))]) [0] rfl
  have hDc := hD.sub (ws' := [(x_tape, .inr (10, [.ref x_bytes, .int 0, .int 0, .int 256, .int 0, .int 0]))]) [0] (by decide) rfl
  refine cP (W.runV (As := [.ref kb]) (rest := []) ⟨hx, hb, hml, hown, hts⟩ (c_X10_isWord_6 l dC dI kA s.heap.size x_tape kb x_bytes vb ) (cwV 1 hts (gV lk_534 lk_535 lk_536 lk_111 lk_537) rfl rfl rfl (by decide +kernel) ⟨Nat.le_of_ble_eq_true rfl, Nat.le_of_ble_eq_true rfl⟩) (pws_v hPc hDc hK hN hS (va_free hD hS hA [0] rfl) hSL hRL (by simp) (fun _ h => absurd h List.not_mem_nil) 0 10 rfl rfl) rfl rfl hl.1 rfl (lv_room (Nat.le_of_ble_eq_true rfl)) dX2_readsClause_10 ⟨Nat.le_of_ble_eq_true rfl, Nat.le_of_ble_eq_true rfl⟩) ?_
  refine W.eq (g2 := F0 m 13 ls [.int 0]) rfl ?_
  refine lv_istore (lv' := [(4, .int 0), (3, .int 0), (0, .ref x_tape), (1, .ref x_draft), (2, .int 0)]) hx hb dX2_readsClause_13 hl (by decide) rfl (fun ls hl => ?_)
  refine lv_aload_n hx hb dX2_readsClause_15 rfl (lv_at hl 2 rfl) ?_
  refine va_ldcS (own := RX2) (tx := "mix") (q := kc) hx hb hown (hRL _ (List.mem_of_getElem? (i := 2) rfl)) dX2_readsClause_16 ?_
  have hPc := hP.sub (ws' := [(x_tape, .inr (10, [.ref x_bytes, .int 0, .int 0, .int 256, .int 0, .int 0]))]) [0] rfl
  have hDc := hD.sub (ws' := [(x_tape, .inr (10, [.ref x_bytes, .int 0, .int 0, .int 256, .int 0, .int 0]))]) [0] (by decide) rfl
  refine cP (W.runV (As := [.ref kc]) (rest := []) ⟨hx, hb, hml, hown, hts⟩ (c_X10_isWord_3 l dC dI kA s.heap.size x_tape kc x_bytes vc ) (cwV 1 hts (gV lk_534 lk_535 lk_536 lk_111 lk_537) rfl rfl rfl (by decide +kernel) ⟨Nat.le_of_ble_eq_true rfl, Nat.le_of_ble_eq_true rfl⟩) (pws_v hPc hDc hK hN hS (va_free hD hS hA [0] rfl) hSL hRL (by simp) (fun _ h => absurd h List.not_mem_nil) 0 10 rfl rfl) rfl rfl hl.1 rfl (lv_room (Nat.le_of_ble_eq_true rfl)) dX2_readsClause_18 ⟨Nat.le_of_ble_eq_true rfl, Nat.le_of_ble_eq_true rfl⟩) ?_
  refine W.eq (g2 := F0 m 21 ls [.int 0]) rfl ?_
  refine lv_istore (lv' := [(5, .int 0), (4, .int 0), (3, .int 0), (0, .ref x_tape), (1, .ref x_draft), (2, .int 0)]) hx hb dX2_readsClause_21 hl (by decide) rfl (fun ls hl => ?_)
  refine lv_iload_n hx hb dX2_readsClause_23 rfl (lv_at hl 2 rfl) ?_
  refine lv_if_ne (tgt := 43) hx hb dX2_readsClause_24 (by decide) (fun c1 => ?_) (fun c1 => ?_)
  · exact False.elim (by revert c1; decide)
  refine lv_iload hx hb dX2_readsClause_27 (lv_at hl 1 rfl) ?_
  refine lv_if_ne (tgt := 43) hx hb dX2_readsClause_29 (by decide) (fun c2 => ?_) (fun c2 => ?_)
  · exact False.elim (by revert c2; decide)
  refine lv_iload hx hb dX2_readsClause_32 (lv_at hl 0 rfl) ?_
  refine lv_if_ne (tgt := 43) hx hb dX2_readsClause_34 (by decide) (fun c3 => ?_) (fun c3 => ?_)
  · exact False.elim (by revert c3; decide)
  refine lv_aload_n hx hb dX2_readsClause_37 rfl (lv_at hl 3 rfl) ?_
  refine lv_iconst (v := 0) hx hb dX2_readsClause_38 (by decide) ?_
  have hPc := hP.sub (ws' := [(x_tape, .inr (10, [.ref x_bytes, .int 0, .int 0, .int 256, .int 0, .int 0]))]) [0] rfl
  have hDc := hD.sub (ws' := [(x_tape, .inr (10, [.ref x_bytes, .int 0, .int 0, .int 256, .int 0, .int 0]))]) [0] (by decide) rfl
  refine cM (wc := [(x_tape, .inr (10, [.ref x_bytes, .int 0, .int 0, .int 256, .int 0, .int 0]))]) (wr := []) [0] [] hP hD hS hA rfl rfl (by decide) (by decide) (va_runV (As := [.int 0]) (rest := []) ⟨hx, hb, hml, hown, hts⟩ (c_X10_fail l dC dI kA s.heap.size x_tape x_bytes ) (cwV 1 hts (gV lk_592 lk_593 lk_594 lk_111 lk_595) rfl rfl rfl (by decide +kernel) ⟨Nat.le_of_ble_eq_true rfl, Nat.le_of_ble_eq_true rfl⟩) (pw_v hPc hDc hK hN 0 10 rfl rfl) rfl rfl hl.1 rfl (lv_room (Nat.le_of_ble_eq_true rfl)) dX2_readsClause_39 ⟨Nat.le_of_ble_eq_true rfl, Nat.le_of_ble_eq_true rfl⟩) (fun w1 H1 locs hw hP hD hS => ?_)
  obtain ⟨rfl⟩ := hw
  have hP : va_P (dC, dI) vwCl [(x_tape, .inr (10, [.ref x_bytes, .int 0, .int 1, .int 256, .int 0, .int 0]))] H1 := hP
  have hD : va_D A [(x_tape, .inr (10, [.ref x_bytes, .int 0, .int 1, .int 256, .int 0, .int 0]))] := hD
  refine W.eq (g2 := F0 m 42 ls [.int 0]) rfl ?_
  refine W.widen (k := 0) (n := 0) (Nat.le_of_ble_eq_true rfl) (Nat.le_of_ble_eq_true rfl) ?_
  have hP9 := hP.sub (ws' := [(x_tape, .inr (10, [.ref x_bytes, .int 0, .int 1, .int 256, .int 0, .int 0]))]) [0] rfl
  have hD9 := hD.sub (ws' := [(x_tape, .inr (10, [.ref x_bytes, .int 0, .int 1, .int 256, .int 0, .int 0]))]) [0] (by decide) rfl
  exact rM_z hx hb hr hlocks (by decide) hP9 hD9 hS rfl dX2_readsClause_42

set_option maxHeartbeats 4000000 in
set_option maxRecDepth 100000 in
theorem c_X2_reads (l : Launch) (dC : Nat → ClassId) (dI : Nat → Nat → Nat) (kA : Nat → ClassId) (sz : Nat) (x_houseReader : Nat) (x_tape : Nat) (x_draft : Nat) (x_bytes : Nat) (d_grades : Nat) (d_wants : Nat) (d_mixWeeks : Nat) (d_mixOnes : Nat) (d_mixOthers : Nat) (ka : Nat) (va : Nat) (kb : Nat) (vb : Nat) (kc : Nat) (vc : Nat)  : Met l yX2_reads (wsU yX2_reads cX2_reads 4 (some .boolean)) ({ frames := 4, cells := 0, slots := 0, locals := 86 }) (va_Pc [.ref x_houseReader, .ref x_tape, .ref x_draft] (PWS dC dI kA [(x_houseReader, .inr (2, [])), (x_tape, .inr (10, [.ref x_bytes, .int 0, .int 0, .int 0, .int 0, .int 0])), (x_draft, .inr (1, [.int 0, .int 0, .int 0, .int 0, .int 0, .ref d_grades, .ref d_wants, .ref d_mixWeeks, .ref d_mixOnes, .ref d_mixOthers]))] sz [(ka, va, 5), (kb, vb, 6), (kc, vc, 3)] [(RX2, 40, "house", ka), (RX2, 46, "lodger", kb), (RX2, 48, "mix", kc)])) (QU dC dI (some (.int 0)) (fun w => w = [(x_tape, .inr (10, [.ref x_bytes, .int 0, .int 1, .int 256, .int 0, .int 0]))]) (va_A [(x_houseReader, .inr (2, [])), (x_tape, .inr (10, [.ref x_bytes, .int 0, .int 0, .int 0, .int 0, .int 0])), (x_draft, .inr (1, [.int 0, .int 0, .int 0, .int 0, .int 0, .ref d_grades, .ref d_wants, .ref d_mixWeeks, .ref d_mixOnes, .ref d_mixOthers]))] sz)) 0 0 (va_A [(x_houseReader, .inr (2, [])), (x_tape, .inr (10, [.ref x_bytes, .int 0, .int 0, .int 0, .int 0, .int 0])), (x_draft, .inr (1, [.int 0, .int 0, .int 0, .int 0, .int 0, .ref d_grades, .ref d_wants, .ref d_mixWeeks, .ref d_mixOnes, .ref d_mixOthers]))] sz) := by
  refine met_MS (own := RX2) (by decide) rfl (Nat.le_of_ble_eq_true rfl) ?_
  intro p e s m below meth c ls A hx hb hr hts hown hlocks hml hin hK hN hA hP hD hS hl hSL hRL
  have hl : lv_has ls 4 [(0, .ref x_houseReader), (1, .ref x_tape), (2, .ref x_draft)] := hl
  have hP : va_P (dC, dI) vwCl [(x_houseReader, .inr (2, [])), (x_tape, .inr (10, [.ref x_bytes, .int 0, .int 0, .int 0, .int 0, .int 0])), (x_draft, .inr (1, [.int 0, .int 0, .int 0, .int 0, .int 0, .ref d_grades, .ref d_wants, .ref d_mixWeeks, .ref d_mixOnes, .ref d_mixOthers]))] s.heap := hP
  have hD : va_D A [(x_houseReader, .inr (2, [])), (x_tape, .inr (10, [.ref x_bytes, .int 0, .int 0, .int 0, .int 0, .int 0])), (x_draft, .inr (1, [.int 0, .int 0, .int 0, .int 0, .int 0, .ref d_grades, .ref d_wants, .ref d_mixWeeks, .ref d_mixOnes, .ref d_mixOthers]))] := hD
  refine lv_aload_n hx hb dX2_reads_0 rfl (lv_at hl 2 rfl) ?_
  have hPc := hP.sub (ws' := [(x_draft, .inr (1, [.int 0, .int 0, .int 0, .int 0, .int 0, .ref d_grades, .ref d_wants, .ref d_mixWeeks, .ref d_mixOnes, .ref d_mixOthers]))]) [2] rfl
  have hDc := hD.sub (ws' := [(x_draft, .inr (1, [.int 0, .int 0, .int 0, .int 0, .int 0, .ref d_grades, .ref d_wants, .ref d_mixWeeks, .ref d_mixOnes, .ref d_mixOthers]))]) [2] (by decide) rfl
  refine cM (wc := [(x_draft, .inr (1, [.int 0, .int 0, .int 0, .int 0, .int 0, .ref d_grades, .ref d_wants, .ref d_mixWeeks, .ref d_mixOnes, .ref d_mixOthers]))]) (wr := [(x_houseReader, .inr (2, [])), (x_tape, .inr (10, [.ref x_bytes, .int 0, .int 0, .int 0, .int 0, .int 0]))]) [2] [0, 1] hP hD hS hA rfl rfl (by decide) (by decide) (va_runV (As := []) (rest := []) ⟨hx, hb, hml, hown, hts⟩ (c_X1_clear l dC dI kA s.heap.size x_draft d_grades d_wants d_mixWeeks d_mixOnes d_mixOthers ) (cwV 0 hts (gV lk_510 lk_511 lk_512 lk_115 lk_513) rfl rfl rfl (by decide +kernel) ⟨Nat.le_of_ble_eq_true rfl, Nat.le_of_ble_eq_true rfl⟩) (pw_v hPc hDc hK hN 0 1 rfl rfl) rfl rfl hl.1 rfl (lv_room (Nat.le_of_ble_eq_true rfl)) dX2_reads_1 ⟨Nat.le_of_ble_eq_true rfl, Nat.le_of_ble_eq_true rfl⟩) (fun w1 H1 locs hw hP hD hS => ?_)
  obtain ⟨rfl⟩ := hw
  have hP : va_P (dC, dI) vwCl [(x_houseReader, .inr (2, [])), (x_tape, .inr (10, [.ref x_bytes, .int 0, .int 0, .int 0, .int 0, .int 0])), (x_draft, .inr (1, [.int 0, .int 0, .int 0, .int 0, .int 0, .ref d_grades, .ref d_wants, .ref d_mixWeeks, .ref d_mixOnes, .ref d_mixOthers]))] H1 := hP
  have hD : va_D A [(x_houseReader, .inr (2, [])), (x_tape, .inr (10, [.ref x_bytes, .int 0, .int 0, .int 0, .int 0, .int 0])), (x_draft, .inr (1, [.int 0, .int 0, .int 0, .int 0, .int 0, .ref d_grades, .ref d_wants, .ref d_mixWeeks, .ref d_mixOnes, .ref d_mixOthers]))] := hD
  refine W.eq (g2 := F0 m 4 ls []) rfl ?_
  refine lv_aload_n hx hb dX2_reads_4 rfl (lv_at hl 1 rfl) ?_
  have hPc := hP.sub (ws' := [(x_tape, .inr (10, [.ref x_bytes, .int 0, .int 0, .int 0, .int 0, .int 0]))]) [1] rfl
  have hDc := hD.sub (ws' := [(x_tape, .inr (10, [.ref x_bytes, .int 0, .int 0, .int 0, .int 0, .int 0]))]) [1] (by decide) rfl
  refine cM (wc := [(x_tape, .inr (10, [.ref x_bytes, .int 0, .int 0, .int 0, .int 0, .int 0]))]) (wr := [(x_houseReader, .inr (2, [])), (x_draft, .inr (1, [.int 0, .int 0, .int 0, .int 0, .int 0, .ref d_grades, .ref d_wants, .ref d_mixWeeks, .ref d_mixOnes, .ref d_mixOthers]))]) [1] [0, 2] hP hD hS hA rfl rfl (by decide) (by decide) (va_runV (As := []) (rest := []) ⟨hx, hb, hml, hown, hts⟩ (c_X10_rewind l dC dI kA H1.size x_tape x_bytes ) (cwV 0 hts (gV lk_514 lk_515 lk_516 lk_111 lk_517) rfl rfl rfl (by decide +kernel) ⟨Nat.le_of_ble_eq_true rfl, Nat.le_of_ble_eq_true rfl⟩) (pw_v hPc hDc hK hN 0 10 rfl rfl) rfl rfl hl.1 rfl (lv_room (Nat.le_of_ble_eq_true rfl)) dX2_reads_5 ⟨Nat.le_of_ble_eq_true rfl, Nat.le_of_ble_eq_true rfl⟩) (fun w1 H2 locs hw hP hD hS => ?_)
  obtain ⟨rfl⟩ := hw
  have hP : va_P (dC, dI) vwCl [(x_houseReader, .inr (2, [])), (x_draft, .inr (1, [.int 0, .int 0, .int 0, .int 0, .int 0, .ref d_grades, .ref d_wants, .ref d_mixWeeks, .ref d_mixOnes, .ref d_mixOthers])), (x_tape, .inr (10, [.ref x_bytes, .int 0, .int 0, .int 256, .int 0, .int 0]))] H2 := hP
  have hD : va_D A [(x_houseReader, .inr (2, [])), (x_draft, .inr (1, [.int 0, .int 0, .int 0, .int 0, .int 0, .ref d_grades, .ref d_wants, .ref d_mixWeeks, .ref d_mixOnes, .ref d_mixOthers])), (x_tape, .inr (10, [.ref x_bytes, .int 0, .int 0, .int 256, .int 0, .int 0]))] := hD
  refine W.eq (g2 := F0 m 8 ls []) rfl ?_
  refine lv_iconst (v := 0) hx hb dX2_reads_8 (by decide) ?_
  refine lv_istore_n (lv' := [(3, .int 0), (0, .ref x_houseReader), (1, .ref x_tape), (2, .ref x_draft)]) hx hb dX2_reads_9 rfl hl (by decide) rfl (fun ls hl => ?_)
  refine lv_iload_n hx hb dX2_reads_10 rfl (lv_at hl 0 rfl) ?_
  refine lv_bipush (v := 40) hx hb dX2_reads_11 (by decide) ?_
  refine lv_icmp_gt (tgt := 69) hx hb dX2_reads_13 (by decide) (fun c1 => ?_) (fun c1 => ?_)
  · exact False.elim (by revert c1; decide)
  refine lv_aload_n hx hb dX2_reads_16 rfl (lv_at hl 2 rfl) ?_
  refine lv_aload_n hx hb dX2_reads_17 rfl (lv_at hl 3 rfl) ?_
  refine lv_iload_n hx hb dX2_reads_18 rfl (lv_at hl 0 rfl) ?_
  have hPc := hP.sub (ws' := [(x_tape, .inr (10, [.ref x_bytes, .int 0, .int 0, .int 256, .int 0, .int 0]))]) [2] rfl
  have hDc := hD.sub (ws' := [(x_tape, .inr (10, [.ref x_bytes, .int 0, .int 0, .int 256, .int 0, .int 0]))]) [2] (by decide) rfl
  refine cM (wc := [(x_tape, .inr (10, [.ref x_bytes, .int 0, .int 0, .int 256, .int 0, .int 0]))]) (wr := [(x_houseReader, .inr (2, [])), (x_draft, .inr (1, [.int 0, .int 0, .int 0, .int 0, .int 0, .ref d_grades, .ref d_wants, .ref d_mixWeeks, .ref d_mixOnes, .ref d_mixOthers]))]) [2] [0, 1] hP hD hS hA rfl rfl (by decide) (by decide) (va_runS (As := [.ref x_tape, .ref x_draft, .int 0]) (rest := []) ⟨hx, hb, hml, hown, hts⟩ (c_X2_readsClause l dC dI kA H2.size x_tape x_draft x_bytes ka va kb vb kc vc ) (cwS 3 hts (gS lk_530 lk_531 lk_112 lk_532) rfl rfl rfl (by decide +kernel) ⟨Nat.le_of_ble_eq_true rfl, Nat.le_of_ble_eq_true rfl⟩) (pws_s hPc hDc hK hN hS (va_free hD hS hA [2] rfl) hSL hRL (by simp) (by simp)) rfl rfl hl.1 rfl (lv_room (Nat.le_of_ble_eq_true rfl)) dX2_reads_19 ⟨Nat.le_of_ble_eq_true rfl, Nat.le_of_ble_eq_true rfl⟩) (fun w1 H3 locs hw hP hD hS => ?_)
  obtain ⟨rfl⟩ := hw
  have hP : va_P (dC, dI) vwCl [(x_houseReader, .inr (2, [])), (x_draft, .inr (1, [.int 0, .int 0, .int 0, .int 0, .int 0, .ref d_grades, .ref d_wants, .ref d_mixWeeks, .ref d_mixOnes, .ref d_mixOthers])), (x_tape, .inr (10, [.ref x_bytes, .int 0, .int 1, .int 256, .int 0, .int 0]))] H3 := hP
  have hD : va_D A [(x_houseReader, .inr (2, [])), (x_draft, .inr (1, [.int 0, .int 0, .int 0, .int 0, .int 0, .ref d_grades, .ref d_wants, .ref d_mixWeeks, .ref d_mixOnes, .ref d_mixOthers])), (x_tape, .inr (10, [.ref x_bytes, .int 0, .int 1, .int 256, .int 0, .int 0]))] := hD
  refine W.eq (g2 := F0 m 22 ls [.int 0]) rfl ?_
  refine lv_if_ne (tgt := 27) hx hb dX2_reads_22 (by decide) (fun c2 => ?_) (fun c2 => ?_)
  · exact False.elim (by revert c2; decide)
  refine lv_iconst (v := 0) hx hb dX2_reads_25 (by decide) ?_
  refine W.widen (k := 0) (n := 0) (Nat.le_of_ble_eq_true rfl) (Nat.le_of_ble_eq_true rfl) ?_
  have hP9 := hP.sub (ws' := [(x_tape, .inr (10, [.ref x_bytes, .int 0, .int 1, .int 256, .int 0, .int 0]))]) [2] rfl
  have hD9 := hD.sub (ws' := [(x_tape, .inr (10, [.ref x_bytes, .int 0, .int 1, .int 256, .int 0, .int 0]))]) [2] (by decide) rfl
  exact rM_z hx hb hr hlocks (by decide) hP9 hD9 hS rfl dX2_reads_26

set_option maxHeartbeats 4000000 in
set_option maxRecDepth 100000 in
theorem c_X11_house (l : Launch) (dC : Nat → ClassId) (dI : Nat → Nat → Nat) (kA : Nat → ClassId) (sz : Nat) (x : Nat) (x_tape : Nat) (x_houseReader : Nat) (x_ruleReader : Nat) (x_rules : Nat) (x_now : Nat) (x_images : Nat) (x_past : Nat) (x_laundry : Nat) (x_orders : Nat) (x_contest : Nat) (x_asked : Nat) (x_tally : Nat) (x_draft : Nat) (x_bytes : Nat) (d_grades : Nat) (d_wants : Nat) (d_mixWeeks : Nat) (d_mixOnes : Nat) (d_mixOthers : Nat) (ka : Nat) (va : Nat) (kb : Nat) (vb : Nat) (kc : Nat) (vc : Nat)  : Met l yX11_house (wsU yX11_house cX11_house 2 (some .int)) ({ frames := 5, cells := 0, slots := 0, locals := 109 }) (va_Pc [.ref x] (PWS dC dI kA [(x, .inr (11, [.ref x_tape, .ref x_houseReader, .ref x_ruleReader, .ref x_rules, .ref x_now, .ref x_images, .ref x_past, .ref x_laundry, .ref x_orders, .ref x_contest, .ref x_asked, .ref x_tally, .int 0, .ref x_draft])), (x_houseReader, .inr (2, [])), (x_tape, .inr (10, [.ref x_bytes, .int 0, .int 0, .int 0, .int 0, .int 0])), (x_draft, .inr (1, [.int 0, .int 0, .int 0, .int 0, .int 0, .ref d_grades, .ref d_wants, .ref d_mixWeeks, .ref d_mixOnes, .ref d_mixOthers]))] sz [(ka, va, 5), (kb, vb, 6), (kc, vc, 3)] [(RX2, 40, "house", ka), (RX2, 46, "lodger", kb), (RX2, 48, "mix", kc)])) (QU dC dI (some (.int (-3))) (fun w => w = []) (va_A [(x, .inr (11, [.ref x_tape, .ref x_houseReader, .ref x_ruleReader, .ref x_rules, .ref x_now, .ref x_images, .ref x_past, .ref x_laundry, .ref x_orders, .ref x_contest, .ref x_asked, .ref x_tally, .int 0, .ref x_draft])), (x_houseReader, .inr (2, [])), (x_tape, .inr (10, [.ref x_bytes, .int 0, .int 0, .int 0, .int 0, .int 0])), (x_draft, .inr (1, [.int 0, .int 0, .int 0, .int 0, .int 0, .ref d_grades, .ref d_wants, .ref d_mixWeeks, .ref d_mixOnes, .ref d_mixOthers]))] sz)) 0 0 (va_A [(x, .inr (11, [.ref x_tape, .ref x_houseReader, .ref x_ruleReader, .ref x_rules, .ref x_now, .ref x_images, .ref x_past, .ref x_laundry, .ref x_orders, .ref x_contest, .ref x_asked, .ref x_tally, .int 0, .ref x_draft])), (x_houseReader, .inr (2, [])), (x_tape, .inr (10, [.ref x_bytes, .int 0, .int 0, .int 0, .int 0, .int 0])), (x_draft, .inr (1, [.int 0, .int 0, .int 0, .int 0, .int 0, .ref d_grades, .ref d_wants, .ref d_mixWeeks, .ref d_mixOnes, .ref d_mixOthers]))] sz) := by
  refine met_MS (own := RX11) (by decide) rfl (Nat.le_of_ble_eq_true rfl) ?_
  intro p e s m below meth c ls A hx hb hr hts hown hlocks hml hin hK hN hA hP hD hS hl hSL hRL
  have hl : lv_has ls 2 [(0, .ref x)] := hl
  have hP : va_P (dC, dI) vwCl [(x, .inr (11, [.ref x_tape, .ref x_houseReader, .ref x_ruleReader, .ref x_rules, .ref x_now, .ref x_images, .ref x_past, .ref x_laundry, .ref x_orders, .ref x_contest, .ref x_asked, .ref x_tally, .int 0, .ref x_draft])), (x_houseReader, .inr (2, [])), (x_tape, .inr (10, [.ref x_bytes, .int 0, .int 0, .int 0, .int 0, .int 0])), (x_draft, .inr (1, [.int 0, .int 0, .int 0, .int 0, .int 0, .ref d_grades, .ref d_wants, .ref d_mixWeeks, .ref d_mixOnes, .ref d_mixOthers]))] s.heap := hP
  have hD : va_D A [(x, .inr (11, [.ref x_tape, .ref x_houseReader, .ref x_ruleReader, .ref x_rules, .ref x_now, .ref x_images, .ref x_past, .ref x_laundry, .ref x_orders, .ref x_contest, .ref x_asked, .ref x_tally, .int 0, .ref x_draft])), (x_houseReader, .inr (2, [])), (x_tape, .inr (10, [.ref x_bytes, .int 0, .int 0, .int 0, .int 0, .int 0])), (x_draft, .inr (1, [.int 0, .int 0, .int 0, .int 0, .int 0, .ref d_grades, .ref d_wants, .ref d_mixWeeks, .ref d_mixOnes, .ref d_mixOthers]))] := hD
  refine lv_aload_n hx hb dX11_house_0 rfl (lv_at hl 0 rfl) ?_
  refine va_get (D := (dC, dI)) (ci := 11) (v := .ref x_houseReader) (C := RX11) (T := TX11) (N := 14) hx hb hts uX11 hown hK hP 0 rfl rfl 1 (by decide) (hts _ lk_444) (fun _ h9 => h9) rfl dX11_house_1 ?_
  refine lv_aload_n hx hb dX11_house_4 rfl (lv_at hl 0 rfl) ?_
  refine va_get (D := (dC, dI)) (ci := 11) (v := .ref x_tape) (C := RX11) (T := TX11) (N := 14) hx hb hts uX11 hown hK hP 0 rfl rfl 0 (by decide) (hts _ lk_443) (fun _ h9 => h9) rfl dX11_house_5 ?_
  refine lv_aload_n hx hb dX11_house_8 rfl (lv_at hl 0 rfl) ?_
  refine va_get (D := (dC, dI)) (ci := 11) (v := .ref x_draft) (C := RX11) (T := TX11) (N := 14) hx hb hts uX11 hown hK hP 0 rfl rfl 13 (by decide) (hts _ lk_456) (fun _ h9 => h9) rfl dX11_house_9 ?_
  have hPc := hP.sub (ws' := [(x_houseReader, .inr (2, [])), (x_tape, .inr (10, [.ref x_bytes, .int 0, .int 0, .int 0, .int 0, .int 0])), (x_draft, .inr (1, [.int 0, .int 0, .int 0, .int 0, .int 0, .ref d_grades, .ref d_wants, .ref d_mixWeeks, .ref d_mixOnes, .ref d_mixOthers]))]) [1, 2, 3] rfl
  have hDc := hD.sub (ws' := [(x_houseReader, .inr (2, [])), (x_tape, .inr (10, [.ref x_bytes, .int 0, .int 0, .int 0, .int 0, .int 0])), (x_draft, .inr (1, [.int 0, .int 0, .int 0, .int 0, .int 0, .ref d_grades, .ref d_wants, .ref d_mixWeeks, .ref d_mixOnes, .ref d_mixOthers]))]) [1, 2, 3] (by decide) rfl
  refine cM (wc := [(x_houseReader, .inr (2, [])), (x_tape, .inr (10, [.ref x_bytes, .int 0, .int 0, .int 0, .int 0, .int 0])), (x_draft, .inr (1, [.int 0, .int 0, .int 0, .int 0, .int 0, .ref d_grades, .ref d_wants, .ref d_mixWeeks, .ref d_mixOnes, .ref d_mixOthers]))]) (wr := [(x, .inr (11, [.ref x_tape, .ref x_houseReader, .ref x_ruleReader, .ref x_rules, .ref x_now, .ref x_images, .ref x_past, .ref x_laundry, .ref x_orders, .ref x_contest, .ref x_asked, .ref x_tally, .int 0, .ref x_draft]))]) [1, 2, 3] [0] hP hD hS hA rfl rfl (by decide) (by decide) (va_runV (As := [.ref x_tape, .ref x_draft]) (rest := []) ⟨hx, hb, hml, hown, hts⟩ (c_X2_reads l dC dI kA s.heap.size x_houseReader x_tape x_draft x_bytes d_grades d_wants d_mixWeeks d_mixOnes d_mixOthers ka va kb vb kc vc ) (cwV 2 hts (gV lk_506 lk_507 lk_508 lk_112 lk_509) rfl rfl rfl (by decide +kernel) ⟨Nat.le_of_ble_eq_true rfl, Nat.le_of_ble_eq_true rfl⟩) (pws_v hPc hDc hK hN hS (va_free hD hS hA [1, 2, 3] rfl) hSL hRL (by simp) (by simp) 0 2 rfl rfl) rfl rfl hl.1 rfl (lv_room (Nat.le_of_ble_eq_true rfl)) dX11_house_12 ⟨Nat.le_of_ble_eq_true rfl, Nat.le_of_ble_eq_true rfl⟩) (fun w1 H1 locs hw hP hD hS => ?_)
  obtain ⟨rfl⟩ := hw
  have hP : va_P (dC, dI) vwCl [(x, .inr (11, [.ref x_tape, .ref x_houseReader, .ref x_ruleReader, .ref x_rules, .ref x_now, .ref x_images, .ref x_past, .ref x_laundry, .ref x_orders, .ref x_contest, .ref x_asked, .ref x_tally, .int 0, .ref x_draft])), (x_tape, .inr (10, [.ref x_bytes, .int 0, .int 1, .int 256, .int 0, .int 0]))] H1 := hP
  have hD : va_D A [(x, .inr (11, [.ref x_tape, .ref x_houseReader, .ref x_ruleReader, .ref x_rules, .ref x_now, .ref x_images, .ref x_past, .ref x_laundry, .ref x_orders, .ref x_contest, .ref x_asked, .ref x_tally, .int 0, .ref x_draft])), (x_tape, .inr (10, [.ref x_bytes, .int 0, .int 1, .int 256, .int 0, .int 0]))] := hD
  refine W.eq (g2 := F0 m 15 ls [.int 0]) rfl ?_
  refine lv_if_ne (tgt := 29) hx hb dX11_house_15 (by decide) (fun c1 => ?_) (fun c1 => ?_)
  · exact False.elim (by revert c1; decide)
  refine lv_bipush (v := (-2)) hx hb dX11_house_18 (by decide) ?_
  refine lv_aload_n hx hb dX11_house_20 rfl (lv_at hl 0 rfl) ?_
  refine va_get (D := (dC, dI)) (ci := 11) (v := .ref x_tape) (C := RX11) (T := TX11) (N := 14) hx hb hts uX11 hown hK hP 0 rfl rfl 0 (by decide) (hts _ lk_443) (fun _ h9 => h9) rfl dX11_house_21 ?_
  refine va_get (D := (dC, dI)) (ci := 10) (v := .int 1) (C := RX10) (T := TX10) (N := 6) hx hb hts uX10 hown hK hP 1 rfl rfl 2 (by decide) (hts _ lk_149) (fun _ h9 => h9) rfl dX11_house_24 ?_
  refine lv_isub hx hb dX11_house_27 ?_
  refine lv_toc (y := (-3)) (by decide) ?_
  refine W.widen (k := 0) (n := 0) (Nat.le_of_ble_eq_true rfl) (Nat.le_of_ble_eq_true rfl) ?_
  have hP9 := hP.sub (ws' := []) [] rfl
  have hD9 := hD.sub (ws' := []) [] (by decide) rfl
  exact rM_i hx hb hr hlocks hP9 hD9 hS rfl dX11_house_28

set_option maxHeartbeats 4000000 in
set_option maxRecDepth 100000 in
theorem c_X9_readsClause (l : Launch) (dC : Nat → ClassId) (dI : Nat → Nat → Nat) (kA : Nat → ClassId) (sz : Nat) (x_ruleReader : Nat) (r_code : Nat) (r_ends : Nat) (x_tape : Nat) (x_bytes : Nat) (ka : Nat) (va : Nat)  : Met l yX9_readsClause (wsU yX9_readsClause cX9_readsClause 2 (some .boolean)) ({ frames := 3, cells := 0, slots := 0, locals := 61 }) (va_Pc [.ref x_ruleReader, .int 0] (PWS dC dI kA [(x_ruleReader, .inr (9, [.ref r_code, .ref r_ends, .ref x_tape, .int 0, .int 0])), (x_tape, .inr (10, [.ref x_bytes, .int 0, .int 0, .int 256, .int 0, .int 0]))] sz [(ka, va, 4)] [(RX9, 58, "fold", ka)])) (QU dC dI (some (.int 0)) (fun w => w = [(x_tape, .inr (10, [.ref x_bytes, .int 0, .int 1, .int 256, .int 0, .int 0]))]) (va_A [(x_ruleReader, .inr (9, [.ref r_code, .ref r_ends, .ref x_tape, .int 0, .int 0])), (x_tape, .inr (10, [.ref x_bytes, .int 0, .int 0, .int 256, .int 0, .int 0]))] sz)) 0 0 (va_A [(x_ruleReader, .inr (9, [.ref r_code, .ref r_ends, .ref x_tape, .int 0, .int 0])), (x_tape, .inr (10, [.ref x_bytes, .int 0, .int 0, .int 256, .int 0, .int 0]))] sz) := by
  refine met_MS (own := RX9) (by decide) rfl (Nat.le_of_ble_eq_true rfl) ?_
  intro p e s m below meth c ls A hx hb hr hts hown hlocks hml hin hK hN hA hP hD hS hl hSL hRL
  have hl : lv_has ls 2 [(0, .ref x_ruleReader), (1, .int 0)] := hl
  have hP : va_P (dC, dI) vwCl [(x_ruleReader, .inr (9, [.ref r_code, .ref r_ends, .ref x_tape, .int 0, .int 0])), (x_tape, .inr (10, [.ref x_bytes, .int 0, .int 0, .int 256, .int 0, .int 0]))] s.heap := hP
  have hD : va_D A [(x_ruleReader, .inr (9, [.ref r_code, .ref r_ends, .ref x_tape, .int 0, .int 0])), (x_tape, .inr (10, [.ref x_bytes, .int 0, .int 0, .int 256, .int 0, .int 0]))] := hD
  refine lv_aload_n hx hb dX9_readsClause_0 rfl (lv_at hl 0 rfl) ?_
  refine va_get (D := (dC, dI)) (ci := 9) (v := .ref x_tape) (C := RX9) (T := TX9) (N := 5) hx hb hts uX9 hown hK hP 0 rfl rfl 2 (by decide) (hts _ lk_184) (fun _ h9 => h9) rfl dX9_readsClause_1 ?_
  refine va_ldcS (own := RX9) (tx := "fold") (q := ka) hx hb hown (hRL _ (List.mem_of_getElem? (i := 0) rfl)) dX9_readsClause_4 ?_
  have hPc := hP.sub (ws' := [(x_tape, .inr (10, [.ref x_bytes, .int 0, .int 0, .int 256, .int 0, .int 0]))]) [1] rfl
  have hDc := hD.sub (ws' := [(x_tape, .inr (10, [.ref x_bytes, .int 0, .int 0, .int 256, .int 0, .int 0]))]) [1] (by decide) rfl
  refine cP (W.runV (As := [.ref ka]) (rest := []) ⟨hx, hb, hml, hown, hts⟩ (c_X10_isWord_4 l dC dI kA s.heap.size x_tape ka x_bytes va ) (cwV 1 hts (gV lk_642 lk_535 lk_536 lk_111 lk_537) rfl rfl rfl (by decide +kernel) ⟨Nat.le_of_ble_eq_true rfl, Nat.le_of_ble_eq_true rfl⟩) (pws_v hPc hDc hK hN hS (va_free hD hS hA [1] rfl) hSL hRL (by simp) (fun _ h => absurd h List.not_mem_nil) 0 10 rfl rfl) rfl rfl hl.1 rfl (lv_room (Nat.le_of_ble_eq_true rfl)) dX9_readsClause_6 ⟨Nat.le_of_ble_eq_true rfl, Nat.le_of_ble_eq_true rfl⟩) ?_
  refine W.eq (g2 := F0 m 9 ls [.int 0]) rfl ?_
  refine lv_if_ne (tgt := 21) hx hb dX9_readsClause_9 (by decide) (fun c1 => ?_) (fun c1 => ?_)
  · exact False.elim (by revert c1; decide)
  refine lv_aload_n hx hb dX9_readsClause_12 rfl (lv_at hl 0 rfl) ?_
  refine va_get (D := (dC, dI)) (ci := 9) (v := .ref x_tape) (C := RX9) (T := TX9) (N := 5) hx hb hts uX9 hown hK hP 0 rfl rfl 2 (by decide) (hts _ lk_184) (fun _ h9 => h9) rfl dX9_readsClause_13 ?_
  refine lv_iconst (v := 0) hx hb dX9_readsClause_16 (by decide) ?_
  have hPc := hP.sub (ws' := [(x_tape, .inr (10, [.ref x_bytes, .int 0, .int 0, .int 256, .int 0, .int 0]))]) [1] rfl
  have hDc := hD.sub (ws' := [(x_tape, .inr (10, [.ref x_bytes, .int 0, .int 0, .int 256, .int 0, .int 0]))]) [1] (by decide) rfl
  refine cM (wc := [(x_tape, .inr (10, [.ref x_bytes, .int 0, .int 0, .int 256, .int 0, .int 0]))]) (wr := [(x_ruleReader, .inr (9, [.ref r_code, .ref r_ends, .ref x_tape, .int 0, .int 0]))]) [1] [0] hP hD hS hA rfl rfl (by decide) (by decide) (va_runV (As := [.int 0]) (rest := []) ⟨hx, hb, hml, hown, hts⟩ (c_X10_fail l dC dI kA s.heap.size x_tape x_bytes ) (cwV 1 hts (gV lk_643 lk_593 lk_594 lk_111 lk_595) rfl rfl rfl (by decide +kernel) ⟨Nat.le_of_ble_eq_true rfl, Nat.le_of_ble_eq_true rfl⟩) (pw_v hPc hDc hK hN 0 10 rfl rfl) rfl rfl hl.1 rfl (lv_room (Nat.le_of_ble_eq_true rfl)) dX9_readsClause_17 ⟨Nat.le_of_ble_eq_true rfl, Nat.le_of_ble_eq_true rfl⟩) (fun w1 H1 locs hw hP hD hS => ?_)
  obtain ⟨rfl⟩ := hw
  have hP : va_P (dC, dI) vwCl [(x_ruleReader, .inr (9, [.ref r_code, .ref r_ends, .ref x_tape, .int 0, .int 0])), (x_tape, .inr (10, [.ref x_bytes, .int 0, .int 1, .int 256, .int 0, .int 0]))] H1 := hP
  have hD : va_D A [(x_ruleReader, .inr (9, [.ref r_code, .ref r_ends, .ref x_tape, .int 0, .int 0])), (x_tape, .inr (10, [.ref x_bytes, .int 0, .int 1, .int 256, .int 0, .int 0]))] := hD
  refine W.eq (g2 := F0 m 20 ls [.int 0]) rfl ?_
  refine W.widen (k := 0) (n := 0) (Nat.le_of_ble_eq_true rfl) (Nat.le_of_ble_eq_true rfl) ?_
  have hP9 := hP.sub (ws' := [(x_tape, .inr (10, [.ref x_bytes, .int 0, .int 1, .int 256, .int 0, .int 0]))]) [1] rfl
  have hD9 := hD.sub (ws' := [(x_tape, .inr (10, [.ref x_bytes, .int 0, .int 1, .int 256, .int 0, .int 0]))]) [1] (by decide) rfl
  exact rM_z hx hb hr hlocks (by decide) hP9 hD9 hS rfl dX9_readsClause_20

set_option maxHeartbeats 4000000 in
set_option maxRecDepth 100000 in
theorem c_X9_read (l : Launch) (dC : Nat → ClassId) (dI : Nat → Nat → Nat) (kA : Nat → ClassId) (sz : Nat) (x_ruleReader : Nat) (x_tape : Nat) (r_code : Nat) (r_ends : Nat) (x_bytes : Nat) (ka : Nat) (va : Nat)  : Met l yX9_read (wsU yX9_read cX9_read 3 (some (.object "LinenName$Rule"))) ({ frames := 4, cells := 0, slots := 0, locals := 82 }) (va_Pc [.ref x_ruleReader, .ref x_tape] (PWS dC dI kA [(x_ruleReader, .inr (9, [.ref r_code, .ref r_ends, .null, .int 0, .int 0])), (x_tape, .inr (10, [.ref x_bytes, .int 0, .int 0, .int 0, .int 0, .int 0]))] sz [(ka, va, 4)] [(RX9, 58, "fold", ka)])) (QU dC dI (some (.null)) (fun w => w = [(x_tape, .inr (10, [.ref x_bytes, .int 0, .int 1, .int 256, .int 0, .int 0]))]) (va_A [(x_ruleReader, .inr (9, [.ref r_code, .ref r_ends, .null, .int 0, .int 0])), (x_tape, .inr (10, [.ref x_bytes, .int 0, .int 0, .int 0, .int 0, .int 0]))] sz)) 0 0 (va_A [(x_ruleReader, .inr (9, [.ref r_code, .ref r_ends, .null, .int 0, .int 0])), (x_tape, .inr (10, [.ref x_bytes, .int 0, .int 0, .int 0, .int 0, .int 0]))] sz) := by
  refine met_MS (own := RX9) (by decide) rfl (Nat.le_of_ble_eq_true rfl) ?_
  intro p e s m below meth c ls A hx hb hr hts hown hlocks hml hin hK hN hA hP hD hS hl hSL hRL
  have hl : lv_has ls 3 [(0, .ref x_ruleReader), (1, .ref x_tape)] := hl
  have hP : va_P (dC, dI) vwCl [(x_ruleReader, .inr (9, [.ref r_code, .ref r_ends, .null, .int 0, .int 0])), (x_tape, .inr (10, [.ref x_bytes, .int 0, .int 0, .int 0, .int 0, .int 0]))] s.heap := hP
  have hD : va_D A [(x_ruleReader, .inr (9, [.ref r_code, .ref r_ends, .null, .int 0, .int 0])), (x_tape, .inr (10, [.ref x_bytes, .int 0, .int 0, .int 0, .int 0, .int 0]))] := hD
  refine lv_aload_n hx hb dX9_read_0 rfl (lv_at hl 0 rfl) ?_
  refine lv_aload_n hx hb dX9_read_1 rfl (lv_at hl 1 rfl) ?_
  refine va_put (D := (dC, dI)) (ci := 9) (v := .ref x_tape) (ty := .object "LinenName$Tape") (C := RX9) (T := TX9) (N := 5) hx hb hts uX9 tyX9 tyX9_ok nmX9 hown hK hP hD hS 0 rfl rfl 2 (by decide) (hts _ lk_184) (fun _ h9 => h9) rfl (by decide +kernel) rfl rfl (Nat.le_of_ble_eq_true rfl) dX9_read_2 (fun H1 locs hP hD hS => ?_)
  have hP : va_P (dC, dI) vwCl [(x_ruleReader, .inr (9, [.ref r_code, .ref r_ends, .ref x_tape, .int 0, .int 0])), (x_tape, .inr (10, [.ref x_bytes, .int 0, .int 0, .int 0, .int 0, .int 0]))] H1 := hP
  have hD : va_D A [(x_ruleReader, .inr (9, [.ref r_code, .ref r_ends, .ref x_tape, .int 0, .int 0])), (x_tape, .inr (10, [.ref x_bytes, .int 0, .int 0, .int 0, .int 0, .int 0]))] := hD
  refine lv_aload_n hx hb dX9_read_5 rfl (lv_at hl 0 rfl) ?_
  refine lv_iconst (v := 0) hx hb dX9_read_6 (by decide) ?_
  refine va_put (D := (dC, dI)) (ci := 9) (v := .int 0) (ty := .int) (C := RX9) (T := TX9) (N := 5) hx hb hts uX9 tyX9 tyX9_ok nmX9 hown hK hP hD hS 0 rfl rfl 3 (by decide) (hts _ lk_185) (fun _ h9 => h9) rfl (by decide +kernel) rfl rfl (Nat.le_of_ble_eq_true rfl) dX9_read_7 (fun H2 locs hP hD hS => ?_)
  have hP : va_P (dC, dI) vwCl [(x_ruleReader, .inr (9, [.ref r_code, .ref r_ends, .ref x_tape, .int 0, .int 0])), (x_tape, .inr (10, [.ref x_bytes, .int 0, .int 0, .int 0, .int 0, .int 0]))] H2 := hP
  have hD : va_D A [(x_ruleReader, .inr (9, [.ref r_code, .ref r_ends, .ref x_tape, .int 0, .int 0])), (x_tape, .inr (10, [.ref x_bytes, .int 0, .int 0, .int 0, .int 0, .int 0]))] := hD
  refine lv_aload_n hx hb dX9_read_10 rfl (lv_at hl 0 rfl) ?_
  refine lv_iconst (v := 0) hx hb dX9_read_11 (by decide) ?_
  refine va_put (D := (dC, dI)) (ci := 9) (v := .int 0) (ty := .int) (C := RX9) (T := TX9) (N := 5) hx hb hts uX9 tyX9 tyX9_ok nmX9 hown hK hP hD hS 0 rfl rfl 4 (by decide) (hts _ lk_186) (fun _ h9 => h9) rfl (by decide +kernel) rfl rfl (Nat.le_of_ble_eq_true rfl) dX9_read_12 (fun H3 locs hP hD hS => ?_)
  have hP : va_P (dC, dI) vwCl [(x_ruleReader, .inr (9, [.ref r_code, .ref r_ends, .ref x_tape, .int 0, .int 0])), (x_tape, .inr (10, [.ref x_bytes, .int 0, .int 0, .int 0, .int 0, .int 0]))] H3 := hP
  have hD : va_D A [(x_ruleReader, .inr (9, [.ref r_code, .ref r_ends, .ref x_tape, .int 0, .int 0])), (x_tape, .inr (10, [.ref x_bytes, .int 0, .int 0, .int 0, .int 0, .int 0]))] := hD
  refine lv_aload_n hx hb dX9_read_15 rfl (lv_at hl 0 rfl) ?_
  refine va_get (D := (dC, dI)) (ci := 9) (v := .ref x_tape) (C := RX9) (T := TX9) (N := 5) hx hb hts uX9 hown hK hP 0 rfl rfl 2 (by decide) (hts _ lk_184) (fun _ h9 => h9) rfl dX9_read_16 ?_
  have hPc := hP.sub (ws' := [(x_tape, .inr (10, [.ref x_bytes, .int 0, .int 0, .int 0, .int 0, .int 0]))]) [1] rfl
  have hDc := hD.sub (ws' := [(x_tape, .inr (10, [.ref x_bytes, .int 0, .int 0, .int 0, .int 0, .int 0]))]) [1] (by decide) rfl
  refine cM (wc := [(x_tape, .inr (10, [.ref x_bytes, .int 0, .int 0, .int 0, .int 0, .int 0]))]) (wr := [(x_ruleReader, .inr (9, [.ref r_code, .ref r_ends, .ref x_tape, .int 0, .int 0]))]) [1] [0] hP hD hS hA rfl rfl (by decide) (by decide) (va_runV (As := []) (rest := []) ⟨hx, hb, hml, hown, hts⟩ (c_X10_rewind l dC dI kA H3.size x_tape x_bytes ) (cwV 0 hts (gV lk_636 lk_515 lk_516 lk_111 lk_517) rfl rfl rfl (by decide +kernel) ⟨Nat.le_of_ble_eq_true rfl, Nat.le_of_ble_eq_true rfl⟩) (pw_v hPc hDc hK hN 0 10 rfl rfl) rfl rfl hl.1 rfl (lv_room (Nat.le_of_ble_eq_true rfl)) dX9_read_19 ⟨Nat.le_of_ble_eq_true rfl, Nat.le_of_ble_eq_true rfl⟩) (fun w1 H4 locs hw hP hD hS => ?_)
  obtain ⟨rfl⟩ := hw
  have hP : va_P (dC, dI) vwCl [(x_ruleReader, .inr (9, [.ref r_code, .ref r_ends, .ref x_tape, .int 0, .int 0])), (x_tape, .inr (10, [.ref x_bytes, .int 0, .int 0, .int 256, .int 0, .int 0]))] H4 := hP
  have hD : va_D A [(x_ruleReader, .inr (9, [.ref r_code, .ref r_ends, .ref x_tape, .int 0, .int 0])), (x_tape, .inr (10, [.ref x_bytes, .int 0, .int 0, .int 256, .int 0, .int 0]))] := hD
  refine W.eq (g2 := F0 m 22 ls []) rfl ?_
  refine lv_iconst (v := 0) hx hb dX9_read_22 (by decide) ?_
  refine lv_istore_n (lv' := [(2, .int 0), (0, .ref x_ruleReader), (1, .ref x_tape)]) hx hb dX9_read_23 rfl hl (by decide) rfl (fun ls hl => ?_)
  refine lv_iload_n hx hb dX9_read_24 rfl (lv_at hl 0 rfl) ?_
  refine lv_bipush (v := 12) hx hb dX9_read_25 (by decide) ?_
  refine lv_icmp_gt (tgt := 120) hx hb dX9_read_27 (by decide) (fun c1 => ?_) (fun c1 => ?_)
  · exact False.elim (by revert c1; decide)
  refine lv_aload_n hx hb dX9_read_30 rfl (lv_at hl 1 rfl) ?_
  refine lv_iload_n hx hb dX9_read_31 rfl (lv_at hl 0 rfl) ?_
  have hPc := hP.sub (ws' := [(x_ruleReader, .inr (9, [.ref r_code, .ref r_ends, .ref x_tape, .int 0, .int 0])), (x_tape, .inr (10, [.ref x_bytes, .int 0, .int 0, .int 256, .int 0, .int 0]))]) [0, 1] rfl
  have hDc := hD.sub (ws' := [(x_ruleReader, .inr (9, [.ref r_code, .ref r_ends, .ref x_tape, .int 0, .int 0])), (x_tape, .inr (10, [.ref x_bytes, .int 0, .int 0, .int 256, .int 0, .int 0]))]) [0, 1] (by decide) rfl
  refine cM (wc := [(x_ruleReader, .inr (9, [.ref r_code, .ref r_ends, .ref x_tape, .int 0, .int 0])), (x_tape, .inr (10, [.ref x_bytes, .int 0, .int 0, .int 256, .int 0, .int 0]))]) (wr := []) [0, 1] [] hP hD hS hA rfl rfl (by decide) (by decide) (va_runV (As := [.int 0]) (rest := []) ⟨hx, hb, hml, hown, hts⟩ (c_X9_readsClause l dC dI kA H4.size x_ruleReader r_code r_ends x_tape x_bytes ka va ) (cwV 1 hts (gV lk_637 lk_639 lk_2 lk_113 lk_640) rfl rfl rfl (by decide +kernel) ⟨Nat.le_of_ble_eq_true rfl, Nat.le_of_ble_eq_true rfl⟩) (pws_v hPc hDc hK hN hS (va_free hD hS hA [0, 1] rfl) hSL hRL (by simp) (by simp) 0 9 rfl rfl) rfl rfl hl.1 rfl (lv_room (Nat.le_of_ble_eq_true rfl)) dX9_read_32 ⟨Nat.le_of_ble_eq_true rfl, Nat.le_of_ble_eq_true rfl⟩) (fun w1 H5 locs hw hP hD hS => ?_)
  obtain ⟨rfl⟩ := hw
  have hP : va_P (dC, dI) vwCl [(x_tape, .inr (10, [.ref x_bytes, .int 0, .int 1, .int 256, .int 0, .int 0]))] H5 := hP
  have hD : va_D A [(x_tape, .inr (10, [.ref x_bytes, .int 0, .int 1, .int 256, .int 0, .int 0]))] := hD
  refine W.eq (g2 := F0 m 35 ls [.int 0]) rfl ?_
  refine lv_if_ne (tgt := 40) hx hb dX9_read_35 (by decide) (fun c2 => ?_) (fun c2 => ?_)
  · exact False.elim (by revert c2; decide)
  refine lv_null hx hb dX9_read_38 ?_
  refine W.widen (k := 0) (n := 0) (Nat.le_of_ble_eq_true rfl) (Nat.le_of_ble_eq_true rfl) ?_
  have hP9 := hP.sub (ws' := [(x_tape, .inr (10, [.ref x_bytes, .int 0, .int 1, .int 256, .int 0, .int 0]))]) [0] rfl
  have hD9 := hD.sub (ws' := [(x_tape, .inr (10, [.ref x_bytes, .int 0, .int 1, .int 256, .int 0, .int 0]))]) [0] (by decide) rfl
  exact rM_n hx hb hr (Or.inl ⟨_, rfl⟩) hlocks hP9 hD9 hS rfl dX9_read_39

set_option maxHeartbeats 4000000 in
set_option maxRecDepth 100000 in
theorem c_X11_rule (l : Launch) (dC : Nat → ClassId) (dI : Nat → Nat → Nat) (kA : Nat → ClassId) (sz : Nat) (x : Nat) (x_tape : Nat) (x_houseReader : Nat) (x_ruleReader : Nat) (x_rules : Nat) (x_now : Nat) (x_images : Nat) (x_past : Nat) (x_laundry : Nat) (x_orders : Nat) (x_contest : Nat) (x_asked : Nat) (x_tally : Nat) (x_draft : Nat) (r_code : Nat) (r_ends : Nat) (x_bytes : Nat) (ka : Nat) (va : Nat)  : Met l yX11_rule (wsU yX11_rule cX11_rule 2 (some .int)) ({ frames := 5, cells := 0, slots := 0, locals := 104 }) (va_Pc [.ref x] (PWS dC dI kA [(x, .inr (11, [.ref x_tape, .ref x_houseReader, .ref x_ruleReader, .ref x_rules, .ref x_now, .ref x_images, .ref x_past, .ref x_laundry, .ref x_orders, .ref x_contest, .ref x_asked, .ref x_tally, .int 0, .ref x_draft])), (x_ruleReader, .inr (9, [.ref r_code, .ref r_ends, .null, .int 0, .int 0])), (x_tape, .inr (10, [.ref x_bytes, .int 0, .int 0, .int 0, .int 0, .int 0]))] sz [(ka, va, 4)] [(RX9, 58, "fold", ka)])) (QU dC dI (some (.int (-3))) (fun w => w = []) (va_A [(x, .inr (11, [.ref x_tape, .ref x_houseReader, .ref x_ruleReader, .ref x_rules, .ref x_now, .ref x_images, .ref x_past, .ref x_laundry, .ref x_orders, .ref x_contest, .ref x_asked, .ref x_tally, .int 0, .ref x_draft])), (x_ruleReader, .inr (9, [.ref r_code, .ref r_ends, .null, .int 0, .int 0])), (x_tape, .inr (10, [.ref x_bytes, .int 0, .int 0, .int 0, .int 0, .int 0]))] sz)) 0 0 (va_A [(x, .inr (11, [.ref x_tape, .ref x_houseReader, .ref x_ruleReader, .ref x_rules, .ref x_now, .ref x_images, .ref x_past, .ref x_laundry, .ref x_orders, .ref x_contest, .ref x_asked, .ref x_tally, .int 0, .ref x_draft])), (x_ruleReader, .inr (9, [.ref r_code, .ref r_ends, .null, .int 0, .int 0])), (x_tape, .inr (10, [.ref x_bytes, .int 0, .int 0, .int 0, .int 0, .int 0]))] sz) := by
  refine met_MS (own := RX11) (by decide) rfl (Nat.le_of_ble_eq_true rfl) ?_
  intro p e s m below meth c ls A hx hb hr hts hown hlocks hml hin hK hN hA hP hD hS hl hSL hRL
  have hl : lv_has ls 2 [(0, .ref x)] := hl
  have hP : va_P (dC, dI) vwCl [(x, .inr (11, [.ref x_tape, .ref x_houseReader, .ref x_ruleReader, .ref x_rules, .ref x_now, .ref x_images, .ref x_past, .ref x_laundry, .ref x_orders, .ref x_contest, .ref x_asked, .ref x_tally, .int 0, .ref x_draft])), (x_ruleReader, .inr (9, [.ref r_code, .ref r_ends, .null, .int 0, .int 0])), (x_tape, .inr (10, [.ref x_bytes, .int 0, .int 0, .int 0, .int 0, .int 0]))] s.heap := hP
  have hD : va_D A [(x, .inr (11, [.ref x_tape, .ref x_houseReader, .ref x_ruleReader, .ref x_rules, .ref x_now, .ref x_images, .ref x_past, .ref x_laundry, .ref x_orders, .ref x_contest, .ref x_asked, .ref x_tally, .int 0, .ref x_draft])), (x_ruleReader, .inr (9, [.ref r_code, .ref r_ends, .null, .int 0, .int 0])), (x_tape, .inr (10, [.ref x_bytes, .int 0, .int 0, .int 0, .int 0, .int 0]))] := hD
  refine lv_aload_n hx hb dX11_rule_0 rfl (lv_at hl 0 rfl) ?_
  refine va_get (D := (dC, dI)) (ci := 11) (v := .int 0) (C := RX11) (T := TX11) (N := 14) hx hb hts uX11 hown hK hP 0 rfl rfl 12 (by decide) (hts _ lk_455) (fun _ h9 => h9) rfl dX11_rule_1 ?_
  refine lv_bipush (v := 6) hx hb dX11_rule_4 (by decide) ?_
  refine lv_icmp_lt (tgt := 11) hx hb dX11_rule_6 (by decide) (fun c1 => ?_) (fun c1 => ?_)
  rotate_left
  · exact False.elim (by revert c1; decide)
  refine lv_aload_n hx hb dX11_rule_11 rfl (lv_at hl 0 rfl) ?_
  refine va_get (D := (dC, dI)) (ci := 11) (v := .ref x_ruleReader) (C := RX11) (T := TX11) (N := 14) hx hb hts uX11 hown hK hP 0 rfl rfl 2 (by decide) (hts _ lk_445) (fun _ h9 => h9) rfl dX11_rule_12 ?_
  refine lv_aload_n hx hb dX11_rule_15 rfl (lv_at hl 0 rfl) ?_
  refine va_get (D := (dC, dI)) (ci := 11) (v := .ref x_tape) (C := RX11) (T := TX11) (N := 14) hx hb hts uX11 hown hK hP 0 rfl rfl 0 (by decide) (hts _ lk_443) (fun _ h9 => h9) rfl dX11_rule_16 ?_
  have hPc := hP.sub (ws' := [(x_ruleReader, .inr (9, [.ref r_code, .ref r_ends, .null, .int 0, .int 0])), (x_tape, .inr (10, [.ref x_bytes, .int 0, .int 0, .int 0, .int 0, .int 0]))]) [1, 2] rfl
  have hDc := hD.sub (ws' := [(x_ruleReader, .inr (9, [.ref r_code, .ref r_ends, .null, .int 0, .int 0])), (x_tape, .inr (10, [.ref x_bytes, .int 0, .int 0, .int 0, .int 0, .int 0]))]) [1, 2] (by decide) rfl
  refine cM (wc := [(x_ruleReader, .inr (9, [.ref r_code, .ref r_ends, .null, .int 0, .int 0])), (x_tape, .inr (10, [.ref x_bytes, .int 0, .int 0, .int 0, .int 0, .int 0]))]) (wr := [(x, .inr (11, [.ref x_tape, .ref x_houseReader, .ref x_ruleReader, .ref x_rules, .ref x_now, .ref x_images, .ref x_past, .ref x_laundry, .ref x_orders, .ref x_contest, .ref x_asked, .ref x_tally, .int 0, .ref x_draft]))]) [1, 2] [0] hP hD hS hA rfl rfl (by decide) (by decide) (va_runV (As := [.ref x_tape]) (rest := []) ⟨hx, hb, hml, hown, hts⟩ (c_X9_read l dC dI kA s.heap.size x_ruleReader x_tape r_code r_ends x_bytes ka va ) (cwV 1 hts (gV lk_632 lk_633 lk_634 lk_113 lk_635) rfl rfl rfl (by decide +kernel) ⟨Nat.le_of_ble_eq_true rfl, Nat.le_of_ble_eq_true rfl⟩) (pws_v hPc hDc hK hN hS (va_free hD hS hA [1, 2] rfl) hSL hRL (by simp) (by simp) 0 9 rfl rfl) rfl rfl hl.1 rfl (lv_room (Nat.le_of_ble_eq_true rfl)) dX11_rule_19 ⟨Nat.le_of_ble_eq_true rfl, Nat.le_of_ble_eq_true rfl⟩) (fun w1 H1 locs hw hP hD hS => ?_)
  obtain ⟨rfl⟩ := hw
  have hP : va_P (dC, dI) vwCl [(x, .inr (11, [.ref x_tape, .ref x_houseReader, .ref x_ruleReader, .ref x_rules, .ref x_now, .ref x_images, .ref x_past, .ref x_laundry, .ref x_orders, .ref x_contest, .ref x_asked, .ref x_tally, .int 0, .ref x_draft])), (x_tape, .inr (10, [.ref x_bytes, .int 0, .int 1, .int 256, .int 0, .int 0]))] H1 := hP
  have hD : va_D A [(x, .inr (11, [.ref x_tape, .ref x_houseReader, .ref x_ruleReader, .ref x_rules, .ref x_now, .ref x_images, .ref x_past, .ref x_laundry, .ref x_orders, .ref x_contest, .ref x_asked, .ref x_tally, .int 0, .ref x_draft])), (x_tape, .inr (10, [.ref x_bytes, .int 0, .int 1, .int 256, .int 0, .int 0]))] := hD
  refine W.eq (g2 := F0 m 22 ls [.null]) rfl ?_
  refine lv_astore_nN (lv' := [(1, .null), (0, .ref x)]) hx hb dX11_rule_22 rfl hl (by decide) rfl (fun ls hl => ?_)
  refine lv_aload_n hx hb dX11_rule_23 rfl (lv_at hl 1 rfl) ?_
  refine va_get (D := (dC, dI)) (ci := 11) (v := .ref x_tape) (C := RX11) (T := TX11) (N := 14) hx hb hts uX11 hown hK hP 0 rfl rfl 0 (by decide) (hts _ lk_443) (fun _ h9 => h9) rfl dX11_rule_24 ?_
  refine lv_iconst (v := 0) hx hb dX11_rule_27 (by decide) ?_
  refine va_put (D := (dC, dI)) (ci := 10) (v := .int 0) (ty := .int) (C := RX10) (T := TX10) (N := 6) hx hb hts uX10 tyX10 tyX10_ok nmX10 hown hK hP hD hS 1 rfl rfl 1 (by decide) (hts _ lk_147) (fun _ h9 => h9) rfl (by decide +kernel) rfl rfl (Nat.le_of_ble_eq_true rfl) dX11_rule_28 (fun H2 locs hP hD hS => ?_)
  have hP : va_P (dC, dI) vwCl [(x, .inr (11, [.ref x_tape, .ref x_houseReader, .ref x_ruleReader, .ref x_rules, .ref x_now, .ref x_images, .ref x_past, .ref x_laundry, .ref x_orders, .ref x_contest, .ref x_asked, .ref x_tally, .int 0, .ref x_draft])), (x_tape, .inr (10, [.ref x_bytes, .int 0, .int 1, .int 256, .int 0, .int 0]))] H2 := hP
  have hD : va_D A [(x, .inr (11, [.ref x_tape, .ref x_houseReader, .ref x_ruleReader, .ref x_rules, .ref x_now, .ref x_images, .ref x_past, .ref x_laundry, .ref x_orders, .ref x_contest, .ref x_asked, .ref x_tally, .int 0, .ref x_draft])), (x_tape, .inr (10, [.ref x_bytes, .int 0, .int 1, .int 256, .int 0, .int 0]))] := hD
  refine lv_aload_nN hx hb dX11_rule_31 rfl (lv_at hl 0 rfl) ?_
  refine lv_ifnonnullN hx hb dX11_rule_32 ?_
  refine lv_bipush (v := (-2)) hx hb dX11_rule_35 (by decide) ?_
  refine lv_aload_n hx hb dX11_rule_37 rfl (lv_at hl 1 rfl) ?_
  refine va_get (D := (dC, dI)) (ci := 11) (v := .ref x_tape) (C := RX11) (T := TX11) (N := 14) hx hb hts uX11 hown hK hP 0 rfl rfl 0 (by decide) (hts _ lk_443) (fun _ h9 => h9) rfl dX11_rule_38 ?_
  refine va_get (D := (dC, dI)) (ci := 10) (v := .int 1) (C := RX10) (T := TX10) (N := 6) hx hb hts uX10 hown hK hP 1 rfl rfl 2 (by decide) (hts _ lk_149) (fun _ h9 => h9) rfl dX11_rule_41 ?_
  refine lv_isub hx hb dX11_rule_44 ?_
  refine lv_toc (y := (-3)) (by decide) ?_
  refine W.widen (k := 0) (n := 0) (Nat.le_of_ble_eq_true rfl) (Nat.le_of_ble_eq_true rfl) ?_
  have hP9 := hP.sub (ws' := []) [] rfl
  have hD9 := hD.sub (ws' := []) [] (by decide) rfl
  exact rM_i hx hb hr hlocks hP9 hD9 hS rfl dX11_rule_45
