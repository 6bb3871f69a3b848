theorem fx3 {x : Int32} (h1 : ¬ x < -1) (h2 : ¬ x = -1) (h3 : x < 0) : False := by
  have e1 := mt Int32.lt_iff_toInt_lt.mpr h1
  have e3 := Int32.lt_iff_toInt_lt.mp h3
  have e2 : ¬ x.toInt = (-1 : Int32).toInt := fun h => h2 (Int32.toInt_inj.mp h)
  have k1 : (-1 : Int32).toInt = -1 := by decide
  have k0 : (0 : Int32).toInt = 0 := by decide
  omega
set_option maxHeartbeats 4000000 in
set_option maxRecDepth 100000 in
theorem c_X11_isWithin_0 (l : Launch) (dC : Nat → ClassId) (dI : Nat → Nat → Nat) (kA : Nat → ClassId) (sz : Nat)   : Met l yX11_isWithin (wsU yX11_isWithin cX11_isWithin 3 (some .boolean)) ({ frames := 0, cells := 0, slots := 0, locals := 0 }) (va_Pc [.int 0, .int 0, .int 3] (PW dC dI kA [] sz)) (QP (some (.int 1))) 0 0 (fun _ => False) := by
  refine met_P (own := RX11) (by decide) rfl (Nat.le_of_ble_eq_true rfl) ?_
  intro p e s m below meth c ls hx hb hr hts hown hlocks hml hK hN hP hD hl
  have hl : lv_has ls 3 [(0, .int 0), (1, .int 0), (2, .int 3)] := hl
  have hP : va_P (dC, dI) vwCl [] s.heap := hP
  refine lv_iload_n hx hb dX11_isWithin_0 rfl (lv_at hl 0 rfl) ?_
  refine lv_iload_n hx hb dX11_isWithin_1 rfl (lv_at hl 1 rfl) ?_
  refine lv_icmp_lt (tgt := 14) hx hb dX11_isWithin_2 (by decide) (fun c1 => ?_) (fun c1 => ?_)
  · exact False.elim (by revert c1; decide)
  refine lv_iload_n hx hb dX11_isWithin_5 rfl (lv_at hl 0 rfl) ?_
  refine lv_iload_n hx hb dX11_isWithin_6 rfl (lv_at hl 2 rfl) ?_
  refine lv_icmp_gt (tgt := 14) hx hb dX11_isWithin_7 (by decide) (fun c2 => ?_) (fun c2 => ?_)
  · exact False.elim (by revert c2; decide)
  refine lv_iconst (v := 1) hx hb dX11_isWithin_10 (by decide) ?_
  refine lv_goto (tgt := 15) hx hb dX11_isWithin_11 (by decide) ?_
  exact rP_z hx hb hr hlocks (by decide) dX11_isWithin_15

set_option maxHeartbeats 4000000 in
set_option maxRecDepth 100000 in
theorem c_X11_isWithin_1 (l : Launch) (dC : Nat → ClassId) (dI : Nat → Nat → Nat) (kA : Nat → ClassId) (sz : Nat)   : Met l yX11_isWithin (wsU yX11_isWithin cX11_isWithin 3 (some .boolean)) ({ frames := 0, cells := 0, slots := 0, locals := 0 }) (va_Pc [.int 1, .int 0, .int 3] (PW dC dI kA [] sz)) (QP (some (.int 1))) 0 0 (fun _ => False) := by
  refine met_P (own := RX11) (by decide) rfl (Nat.le_of_ble_eq_true rfl) ?_
  intro p e s m below meth c ls hx hb hr hts hown hlocks hml hK hN hP hD hl
  have hl : lv_has ls 3 [(0, .int 1), (1, .int 0), (2, .int 3)] := hl
  have hP : va_P (dC, dI) vwCl [] s.heap := hP
  refine lv_iload_n hx hb dX11_isWithin_0 rfl (lv_at hl 0 rfl) ?_
  refine lv_iload_n hx hb dX11_isWithin_1 rfl (lv_at hl 1 rfl) ?_
  refine lv_icmp_lt (tgt := 14) hx hb dX11_isWithin_2 (by decide) (fun c1 => ?_) (fun c1 => ?_)
  · exact False.elim (by revert c1; decide)
  refine lv_iload_n hx hb dX11_isWithin_5 rfl (lv_at hl 0 rfl) ?_
  refine lv_iload_n hx hb dX11_isWithin_6 rfl (lv_at hl 2 rfl) ?_
  refine lv_icmp_gt (tgt := 14) hx hb dX11_isWithin_7 (by decide) (fun c2 => ?_) (fun c2 => ?_)
  · exact False.elim (by revert c2; decide)
  refine lv_iconst (v := 1) hx hb dX11_isWithin_10 (by decide) ?_
  refine lv_goto (tgt := 15) hx hb dX11_isWithin_11 (by decide) ?_
  exact rP_z hx hb hr hlocks (by decide) dX11_isWithin_15

set_option maxHeartbeats 4000000 in
set_option maxRecDepth 100000 in
theorem c_X11_isWithin_2 (l : Launch) (dC : Nat → ClassId) (dI : Nat → Nat → Nat) (kA : Nat → ClassId) (sz : Nat)   : Met l yX11_isWithin (wsU yX11_isWithin cX11_isWithin 3 (some .boolean)) ({ frames := 0, cells := 0, slots := 0, locals := 0 }) (va_Pc [.int 2, .int 0, .int 3] (PW dC dI kA [] sz)) (QP (some (.int 1))) 0 0 (fun _ => False) := by
  refine met_P (own := RX11) (by decide) rfl (Nat.le_of_ble_eq_true rfl) ?_
  intro p e s m below meth c ls hx hb hr hts hown hlocks hml hK hN hP hD hl
  have hl : lv_has ls 3 [(0, .int 2), (1, .int 0), (2, .int 3)] := hl
  have hP : va_P (dC, dI) vwCl [] s.heap := hP
  refine lv_iload_n hx hb dX11_isWithin_0 rfl (lv_at hl 0 rfl) ?_
  refine lv_iload_n hx hb dX11_isWithin_1 rfl (lv_at hl 1 rfl) ?_
  refine lv_icmp_lt (tgt := 14) hx hb dX11_isWithin_2 (by decide) (fun c1 => ?_) (fun c1 => ?_)
  · exact False.elim (by revert c1; decide)
  refine lv_iload_n hx hb dX11_isWithin_5 rfl (lv_at hl 0 rfl) ?_
  refine lv_iload_n hx hb dX11_isWithin_6 rfl (lv_at hl 2 rfl) ?_
  refine lv_icmp_gt (tgt := 14) hx hb dX11_isWithin_7 (by decide) (fun c2 => ?_) (fun c2 => ?_)
  · exact False.elim (by revert c2; decide)
  refine lv_iconst (v := 1) hx hb dX11_isWithin_10 (by decide) ?_
  refine lv_goto (tgt := 15) hx hb dX11_isWithin_11 (by decide) ?_
  exact rP_z hx hb hr hlocks (by decide) dX11_isWithin_15

set_option maxHeartbeats 4000000 in
set_option maxRecDepth 100000 in
theorem c_X11_isWithin_3 (l : Launch) (dC : Nat → ClassId) (dI : Nat → Nat → Nat) (kA : Nat → ClassId) (sz : Nat)   : Met l yX11_isWithin (wsU yX11_isWithin cX11_isWithin 3 (some .boolean)) ({ frames := 0, cells := 0, slots := 0, locals := 0 }) (va_Pc [.int 3, .int 0, .int 3] (PW dC dI kA [] sz)) (QP (some (.int 1))) 0 0 (fun _ => False) := by
  refine met_P (own := RX11) (by decide) rfl (Nat.le_of_ble_eq_true rfl) ?_
  intro p e s m below meth c ls hx hb hr hts hown hlocks hml hK hN hP hD hl
  have hl : lv_has ls 3 [(0, .int 3), (1, .int 0), (2, .int 3)] := hl
  have hP : va_P (dC, dI) vwCl [] s.heap := hP
  refine lv_iload_n hx hb dX11_isWithin_0 rfl (lv_at hl 0 rfl) ?_
  refine lv_iload_n hx hb dX11_isWithin_1 rfl (lv_at hl 1 rfl) ?_
  refine lv_icmp_lt (tgt := 14) hx hb dX11_isWithin_2 (by decide) (fun c1 => ?_) (fun c1 => ?_)
  · exact False.elim (by revert c1; decide)
  refine lv_iload_n hx hb dX11_isWithin_5 rfl (lv_at hl 0 rfl) ?_
  refine lv_iload_n hx hb dX11_isWithin_6 rfl (lv_at hl 2 rfl) ?_
  refine lv_icmp_gt (tgt := 14) hx hb dX11_isWithin_7 (by decide) (fun c2 => ?_) (fun c2 => ?_)
  · exact False.elim (by revert c2; decide)
  refine lv_iconst (v := 1) hx hb dX11_isWithin_10 (by decide) ?_
  refine lv_goto (tgt := 15) hx hb dX11_isWithin_11 (by decide) ?_
  exact rP_z hx hb hr hlocks (by decide) dX11_isWithin_15

set_option maxHeartbeats 4000000 in
set_option maxRecDepth 100000 in
theorem c_X11_isWithin_t (l : Launch) (dC : Nat → ClassId) (dI : Nat → Nat → Nat) (kA : Nat → ClassId) (sz : Nat) (p0 : Int32) (h1 : ¬ p0 < 0 ∧ ¬ 60 < p0) : Met l yX11_isWithin (wsU yX11_isWithin cX11_isWithin 3 (some .boolean)) ({ frames := 0, cells := 0, slots := 0, locals := 0 }) (va_Pc [.int p0, .int 0, .int 60] (PW dC dI kA [] sz)) (QP (some (.int 1))) 0 0 (fun _ => False) := by
  refine met_P (own := RX11) (by decide) rfl (Nat.le_of_ble_eq_true rfl) ?_
  intro p e s m below meth c ls hx hb hr hts hown hlocks hml hK hN hP hD hl
  have hl : lv_has ls 3 [(0, .int p0), (1, .int 0), (2, .int 60)] := hl
  have hP : va_P (dC, dI) vwCl [] s.heap := hP
  refine lv_iload_n hx hb dX11_isWithin_0 rfl (lv_at hl 0 rfl) ?_
  refine lv_iload_n hx hb dX11_isWithin_1 rfl (lv_at hl 1 rfl) ?_
  refine lv_icmp_lt (tgt := 14) hx hb dX11_isWithin_2 (by decide) (fun c1 => ?_) (fun c1 => ?_)
  · exact absurd c1 h1.1
  refine lv_iload_n hx hb dX11_isWithin_5 rfl (lv_at hl 0 rfl) ?_
  refine lv_iload_n hx hb dX11_isWithin_6 rfl (lv_at hl 2 rfl) ?_
  refine lv_icmp_gt (tgt := 14) hx hb dX11_isWithin_7 (by decide) (fun c2 => ?_) (fun c2 => ?_)
  · exact absurd c2 h1.2
  refine lv_iconst (v := 1) hx hb dX11_isWithin_10 (by decide) ?_
  refine lv_goto (tgt := 15) hx hb dX11_isWithin_11 (by decide) ?_
  exact rP_z hx hb hr hlocks (by decide) dX11_isWithin_15

set_option maxHeartbeats 4000000 in
set_option maxRecDepth 100000 in
theorem c_X11_isWithin_f3 (l : Launch) (dC : Nat → ClassId) (dI : Nat → Nat → Nat) (kA : Nat → ClassId) (sz : Nat) (p0 : Int32) (h1 : p0 < 0 ∨ 3 < p0) : Met l yX11_isWithin (wsU yX11_isWithin cX11_isWithin 3 (some .boolean)) ({ frames := 0, cells := 0, slots := 0, locals := 0 }) (va_Pc [.int p0, .int 0, .int 3] (PW dC dI kA [] sz)) (QP (some (.int 0))) 0 0 (fun _ => False) := by
  refine met_P (own := RX11) (by decide) rfl (Nat.le_of_ble_eq_true rfl) ?_
  intro p e s m below meth c ls hx hb hr hts hown hlocks hml hK hN hP hD hl
  have hl : lv_has ls 3 [(0, .int p0), (1, .int 0), (2, .int 3)] := hl
  have hP : va_P (dC, dI) vwCl [] s.heap := hP
  refine lv_iload_n hx hb dX11_isWithin_0 rfl (lv_at hl 0 rfl) ?_
  refine lv_iload_n hx hb dX11_isWithin_1 rfl (lv_at hl 1 rfl) ?_
  refine lv_icmp_lt (tgt := 14) hx hb dX11_isWithin_2 (by decide) (fun c1 => ?_) (fun c1 => ?_)
  · skip
    refine lv_iconst (v := 0) hx hb dX11_isWithin_14 (by decide) ?_
    exact rP_z hx hb hr hlocks (by decide) dX11_isWithin_15
  · skip
    refine lv_iload_n hx hb dX11_isWithin_5 rfl (lv_at hl 0 rfl) ?_
    refine lv_iload_n hx hb dX11_isWithin_6 rfl (lv_at hl 2 rfl) ?_
    refine lv_icmp_gt (tgt := 14) hx hb dX11_isWithin_7 (by decide) (fun c2 => ?_) (fun c2 => ?_)
    rotate_left
    · exact absurd h1 (not_or.mpr ⟨c1, c2⟩)
    refine lv_iconst (v := 0) hx hb dX11_isWithin_14 (by decide) ?_
    exact rP_z hx hb hr hlocks (by decide) dX11_isWithin_15

set_option maxHeartbeats 4000000 in
set_option maxRecDepth 100000 in
theorem c_X11_isWithin_f60 (l : Launch) (dC : Nat → ClassId) (dI : Nat → Nat → Nat) (kA : Nat → ClassId) (sz : Nat) (p0 : Int32) (h1 : p0 < 0 ∨ 60 < p0) : Met l yX11_isWithin (wsU yX11_isWithin cX11_isWithin 3 (some .boolean)) ({ frames := 0, cells := 0, slots := 0, locals := 0 }) (va_Pc [.int p0, .int 0, .int 60] (PW dC dI kA [] sz)) (QP (some (.int 0))) 0 0 (fun _ => False) := by
  refine met_P (own := RX11) (by decide) rfl (Nat.le_of_ble_eq_true rfl) ?_
  intro p e s m below meth c ls hx hb hr hts hown hlocks hml hK hN hP hD hl
  have hl : lv_has ls 3 [(0, .int p0), (1, .int 0), (2, .int 60)] := hl
  have hP : va_P (dC, dI) vwCl [] s.heap := hP
  refine lv_iload_n hx hb dX11_isWithin_0 rfl (lv_at hl 0 rfl) ?_
  refine lv_iload_n hx hb dX11_isWithin_1 rfl (lv_at hl 1 rfl) ?_
  refine lv_icmp_lt (tgt := 14) hx hb dX11_isWithin_2 (by decide) (fun c1 => ?_) (fun c1 => ?_)
  · skip
    refine lv_iconst (v := 0) hx hb dX11_isWithin_14 (by decide) ?_
    exact rP_z hx hb hr hlocks (by decide) dX11_isWithin_15
  · skip
    refine lv_iload_n hx hb dX11_isWithin_5 rfl (lv_at hl 0 rfl) ?_
    refine lv_iload_n hx hb dX11_isWithin_6 rfl (lv_at hl 2 rfl) ?_
    refine lv_icmp_gt (tgt := 14) hx hb dX11_isWithin_7 (by decide) (fun c2 => ?_) (fun c2 => ?_)
    rotate_left
    · exact absurd h1 (not_or.mpr ⟨c1, c2⟩)
    refine lv_iconst (v := 0) hx hb dX11_isWithin_14 (by decide) ?_
    exact rP_z hx hb hr hlocks (by decide) dX11_isWithin_15

set_option maxHeartbeats 4000000 in
set_option maxRecDepth 100000 in
theorem c_X11_isLodger (l : Launch) (dC : Nat → ClassId) (dI : Nat → Nat → Nat) (kA : Nat → ClassId) (sz : Nat) (x : Nat) (x_tape : Nat) (x_houseReader : Nat) (x_ruleReader : Nat) (x_rules : Nat) (x_now : Nat) (x_images : Nat) (x_past : Nat) (x_laundry : Nat) (x_orders : Nat) (x_contest : Nat) (x_asked : Nat) (x_tally : Nat) (x_draft : Nat) (n_house : Nat) (n_linen : Nat) (n_noteWeeks : Nat) (n_noteBeds : Nat) (n_noteSheets : Nat) (nh_grades : Nat) (nh_wants : Nat) (nh_mixWeeks : Nat) (nh_mixOnes : Nat) (nh_mixOthers : Nat) (p0 : Int32)  : Met l yX11_isLodger (wsU yX11_isLodger cX11_isLodger 2 (some .boolean)) ({ frames := 0, cells := 0, slots := 0, locals := 0 }) (va_Pc [.ref x, .int p0] (PW dC dI kA [(x, .inr (11, [.ref x_tape, .ref x_houseReader, .ref x_ruleReader, .ref x_rules, .ref x_now, .ref x_images, .ref x_past, .ref x_laundry, .ref x_orders, .ref x_contest, .ref x_asked, .ref x_tally, .int 0, .ref x_draft])), (x_now, .inr (3, [.ref n_house, .ref n_linen, .ref n_noteWeeks, .ref n_noteBeds, .ref n_noteSheets, .int 0, .int (-1), .int 0, .int 0])), (n_house, .inr (1, [.int 0, .int 0, .int 0, .int 0, .int 0, .ref nh_grades, .ref nh_wants, .ref nh_mixWeeks, .ref nh_mixOnes, .ref nh_mixOthers]))] sz)) (QP (some (.int 0))) 0 0 (fun _ => False) := by
  refine met_P (own := RX11) (by decide) rfl (Nat.le_of_ble_eq_true rfl) ?_
  intro p e s m below meth c ls hx hb hr hts hown hlocks hml hK hN hP hD hl
  have hl : lv_has ls 2 [(0, .ref x), (1, .int p0)] := hl
  have hP : va_P (dC, dI) vwCl [(x, .inr (11, [.ref x_tape, .ref x_houseReader, .ref x_ruleReader, .ref x_rules, .ref x_now, .ref x_images, .ref x_past, .ref x_laundry, .ref x_orders, .ref x_contest, .ref x_asked, .ref x_tally, .int 0, .ref x_draft])), (x_now, .inr (3, [.ref n_house, .ref n_linen, .ref n_noteWeeks, .ref n_noteBeds, .ref n_noteSheets, .int 0, .int (-1), .int 0, .int 0])), (n_house, .inr (1, [.int 0, .int 0, .int 0, .int 0, .int 0, .ref nh_grades, .ref nh_wants, .ref nh_mixWeeks, .ref nh_mixOnes, .ref nh_mixOthers]))] s.heap := hP
  refine lv_iload_n hx hb dX11_isLodger_0 rfl (lv_at hl 1 rfl) ?_
  refine lv_if_lt (tgt := 22) hx hb dX11_isLodger_1 (by decide) (fun c1 => ?_) (fun c1 => ?_)
  · skip
    refine lv_iconst (v := 0) hx hb dX11_isLodger_22 (by decide) ?_
    exact rP_z hx hb hr hlocks (by decide) dX11_isLodger_23
  · skip
    refine lv_iload_n hx hb dX11_isLodger_4 rfl (lv_at hl 1 rfl) ?_
    refine lv_aload_n hx hb dX11_isLodger_5 rfl (lv_at hl 0 rfl) ?_
    refine va_get (D := (dC, dI)) (ci := 11) (v := .ref x_now) (C := RX11) (T := TX11) (N := 14) hx hb hts uX11 hown hK hP 0 rfl rfl 4 (by decide) (hts _ lk_447) (fun _ h9 => h9) rfl dX11_isLodger_6 ?_
    refine va_get (D := (dC, dI)) (ci := 3) (v := .ref n_house) (C := RX3) (T := TX3) (N := 9) hx hb hts uX3 hown hK hP 1 rfl rfl 0 (by decide) (hts _ lk_313) (fun _ h9 => h9) rfl dX11_isLodger_9 ?_
    refine va_get (D := (dC, dI)) (ci := 1) (v := .int 0) (C := RX1) (T := TX1) (N := 10) hx hb hts uX1 hown hK hP 2 rfl rfl 3 (by decide) (hts _ lk_227) (fun _ h9 => h9) rfl dX11_isLodger_12 ?_
    refine lv_icmp_ge (tgt := 22) hx hb dX11_isLodger_15 (by decide) (fun c2 => ?_) (fun c2 => ?_)
    rotate_left
    · exact absurd (Int32.not_lt.mp c1) c2
    refine lv_iconst (v := 0) hx hb dX11_isLodger_22 (by decide) ?_
    exact rP_z hx hb hr hlocks (by decide) dX11_isLodger_23

set_option maxHeartbeats 4000000 in
set_option maxRecDepth 100000 in
theorem c_X11_lodger (l : Launch) (dC : Nat → ClassId) (dI : Nat → Nat → Nat) (kA : Nat → ClassId) (sz : Nat) (x : Nat) (x_tape : Nat) (x_houseReader : Nat) (x_ruleReader : Nat) (x_rules : Nat) (x_now : Nat) (x_images : Nat) (x_past : Nat) (x_laundry : Nat) (x_orders : Nat) (x_contest : Nat) (x_asked : Nat) (x_tally : Nat) (x_draft : Nat) (n_house : Nat) (n_linen : Nat) (n_noteWeeks : Nat) (n_noteBeds : Nat) (n_noteSheets : Nat) (nh_grades : Nat) (nh_wants : Nat) (nh_mixWeeks : Nat) (nh_mixOnes : Nat) (nh_mixOthers : Nat) (p0 : Int32) (p1 : Int32)  : Met l yX11_lodger (wsU yX11_lodger cX11_lodger 3 (some .int)) ({ frames := 1, cells := 0, slots := 0, locals := 21 }) (va_Pc [.ref x, .int p0, .int p1] (PW dC dI kA [(x, .inr (11, [.ref x_tape, .ref x_houseReader, .ref x_ruleReader, .ref x_rules, .ref x_now, .ref x_images, .ref x_past, .ref x_laundry, .ref x_orders, .ref x_contest, .ref x_asked, .ref x_tally, .int 0, .ref x_draft])), (x_now, .inr (3, [.ref n_house, .ref n_linen, .ref n_noteWeeks, .ref n_noteBeds, .ref n_noteSheets, .int 0, .int (-1), .int 0, .int 0])), (n_house, .inr (1, [.int 0, .int 0, .int 0, .int 0, .int 0, .ref nh_grades, .ref nh_wants, .ref nh_mixWeeks, .ref nh_mixOnes, .ref nh_mixOthers]))] sz)) (QP (some (.int (-1)))) 0 0 (fun _ => False) := by
  refine met_P (own := RX11) (by decide) rfl (Nat.le_of_ble_eq_true rfl) ?_
  intro p e s m below meth c ls hx hb hr hts hown hlocks hml hK hN hP hD hl
  have hl : lv_has ls 3 [(0, .ref x), (1, .int p0), (2, .int p1)] := hl
  have hP : va_P (dC, dI) vwCl [(x, .inr (11, [.ref x_tape, .ref x_houseReader, .ref x_ruleReader, .ref x_rules, .ref x_now, .ref x_images, .ref x_past, .ref x_laundry, .ref x_orders, .ref x_contest, .ref x_asked, .ref x_tally, .int 0, .ref x_draft])), (x_now, .inr (3, [.ref n_house, .ref n_linen, .ref n_noteWeeks, .ref n_noteBeds, .ref n_noteSheets, .int 0, .int (-1), .int 0, .int 0])), (n_house, .inr (1, [.int 0, .int 0, .int 0, .int 0, .int 0, .ref nh_grades, .ref nh_wants, .ref nh_mixWeeks, .ref nh_mixOnes, .ref nh_mixOthers]))] s.heap := hP
  refine lv_aload_n hx hb dX11_lodger_0 rfl (lv_at hl 0 rfl) ?_
  refine lv_iload_n hx hb dX11_lodger_1 rfl (lv_at hl 1 rfl) ?_
  have hPc := hP.sub (ws' := [(x, .inr (11, [.ref x_tape, .ref x_houseReader, .ref x_ruleReader, .ref x_rules, .ref x_now, .ref x_images, .ref x_past, .ref x_laundry, .ref x_orders, .ref x_contest, .ref x_asked, .ref x_tally, .int 0, .ref x_draft])), (x_now, .inr (3, [.ref n_house, .ref n_linen, .ref n_noteWeeks, .ref n_noteBeds, .ref n_noteSheets, .int 0, .int (-1), .int 0, .int 0])), (n_house, .inr (1, [.int 0, .int 0, .int 0, .int 0, .int 0, .ref nh_grades, .ref nh_wants, .ref nh_mixWeeks, .ref nh_mixOnes, .ref nh_mixOthers]))]) [0, 1, 2] rfl
  have hDc := hD.sub (ws' := [(x, .inr (11, [.ref x_tape, .ref x_houseReader, .ref x_ruleReader, .ref x_rules, .ref x_now, .ref x_images, .ref x_past, .ref x_laundry, .ref x_orders, .ref x_contest, .ref x_asked, .ref x_tally, .int 0, .ref x_draft])), (x_now, .inr (3, [.ref n_house, .ref n_linen, .ref n_noteWeeks, .ref n_noteBeds, .ref n_noteSheets, .int 0, .int (-1), .int 0, .int 0])), (n_house, .inr (1, [.int 0, .int 0, .int 0, .int 0, .int 0, .ref nh_grades, .ref nh_wants, .ref nh_mixWeeks, .ref nh_mixOnes, .ref nh_mixOthers]))]) [0, 1, 2] (by decide) rfl
  refine cP (W.runV (As := [.int p0]) (rest := []) ⟨hx, hb, hml, hown, hts⟩ (c_X11_isLodger l dC dI kA s.heap.size x x_tape x_houseReader x_ruleReader x_rules x_now x_images x_past x_laundry x_orders x_contest x_asked x_tally x_draft n_house n_linen n_noteWeeks n_noteBeds n_noteSheets nh_grades nh_wants nh_mixWeeks nh_mixOnes nh_mixOthers p0 ) (cwV 1 hts (gV lk_724 lk_726 lk_10 lk_110 lk_727) rfl rfl rfl (by decide +kernel) ⟨Nat.le_of_ble_eq_true rfl, Nat.le_of_ble_eq_true rfl⟩) (pw_v hPc hDc hK hN 0 11 rfl rfl) rfl rfl hl.1 rfl (lv_room (Nat.le_of_ble_eq_true rfl)) dX11_lodger_2 ⟨Nat.le_of_ble_eq_true rfl, Nat.le_of_ble_eq_true rfl⟩) ?_
  refine W.eq (g2 := F0 m 5 ls [.int 0]) rfl ?_
  refine lv_if_ne (tgt := 10) hx hb dX11_lodger_5 (by decide) (fun c1 => ?_) (fun c1 => ?_)
  · exact False.elim (by revert c1; decide)
  refine lv_iconst (v := (-1)) hx hb dX11_lodger_8 (by decide) ?_
  exact rP_i hx hb hr hlocks dX11_lodger_9

set_option maxHeartbeats 4000000 in
set_option maxRecDepth 100000 in
theorem c_X11_sheet (l : Launch) (dC : Nat → ClassId) (dI : Nat → Nat → Nat) (kA : Nat → ClassId) (sz : Nat) (x : Nat) (x_tape : Nat) (x_houseReader : Nat) (x_ruleReader : Nat) (x_rules : Nat) (x_now : Nat) (x_images : Nat) (x_past : Nat) (x_laundry : Nat) (x_orders : Nat) (x_contest : Nat) (x_asked : Nat) (x_tally : Nat) (x_draft : Nat) (n_house : Nat) (n_linen : Nat) (n_noteWeeks : Nat) (n_noteBeds : Nat) (n_noteSheets : Nat) (nh_grades : Nat) (nh_wants : Nat) (nh_mixWeeks : Nat) (nh_mixOnes : Nat) (nh_mixOthers : Nat) (p0 : Int32) (p1 : Int32)  : Met l yX11_sheet (wsU yX11_sheet cX11_sheet 3 (some .int)) ({ frames := 1, cells := 0, slots := 0, locals := 21 }) (va_Pc [.ref x, .int p0, .int p1] (PW dC dI kA [(x, .inr (11, [.ref x_tape, .ref x_houseReader, .ref x_ruleReader, .ref x_rules, .ref x_now, .ref x_images, .ref x_past, .ref x_laundry, .ref x_orders, .ref x_contest, .ref x_asked, .ref x_tally, .int 0, .ref x_draft])), (x_now, .inr (3, [.ref n_house, .ref n_linen, .ref n_noteWeeks, .ref n_noteBeds, .ref n_noteSheets, .int 0, .int (-1), .int 0, .int 0])), (n_house, .inr (1, [.int 0, .int 0, .int 0, .int 0, .int 0, .ref nh_grades, .ref nh_wants, .ref nh_mixWeeks, .ref nh_mixOnes, .ref nh_mixOthers]))] sz)) (QP (some (.int (-1)))) 0 0 (fun _ => False) := by
  refine met_P (own := RX11) (by decide) rfl (Nat.le_of_ble_eq_true rfl) ?_
  intro p e s m below meth c ls hx hb hr hts hown hlocks hml hK hN hP hD hl
  have hl : lv_has ls 3 [(0, .ref x), (1, .int p0), (2, .int p1)] := hl
  have hP : va_P (dC, dI) vwCl [(x, .inr (11, [.ref x_tape, .ref x_houseReader, .ref x_ruleReader, .ref x_rules, .ref x_now, .ref x_images, .ref x_past, .ref x_laundry, .ref x_orders, .ref x_contest, .ref x_asked, .ref x_tally, .int 0, .ref x_draft])), (x_now, .inr (3, [.ref n_house, .ref n_linen, .ref n_noteWeeks, .ref n_noteBeds, .ref n_noteSheets, .int 0, .int (-1), .int 0, .int 0])), (n_house, .inr (1, [.int 0, .int 0, .int 0, .int 0, .int 0, .ref nh_grades, .ref nh_wants, .ref nh_mixWeeks, .ref nh_mixOnes, .ref nh_mixOthers]))] s.heap := hP
  refine lv_aload_n hx hb dX11_sheet_0 rfl (lv_at hl 0 rfl) ?_
  refine lv_iload_n hx hb dX11_sheet_1 rfl (lv_at hl 1 rfl) ?_
  have hPc := hP.sub (ws' := [(x, .inr (11, [.ref x_tape, .ref x_houseReader, .ref x_ruleReader, .ref x_rules, .ref x_now, .ref x_images, .ref x_past, .ref x_laundry, .ref x_orders, .ref x_contest, .ref x_asked, .ref x_tally, .int 0, .ref x_draft])), (x_now, .inr (3, [.ref n_house, .ref n_linen, .ref n_noteWeeks, .ref n_noteBeds, .ref n_noteSheets, .int 0, .int (-1), .int 0, .int 0])), (n_house, .inr (1, [.int 0, .int 0, .int 0, .int 0, .int 0, .ref nh_grades, .ref nh_wants, .ref nh_mixWeeks, .ref nh_mixOnes, .ref nh_mixOthers]))]) [0, 1, 2] rfl
  have hDc := hD.sub (ws' := [(x, .inr (11, [.ref x_tape, .ref x_houseReader, .ref x_ruleReader, .ref x_rules, .ref x_now, .ref x_images, .ref x_past, .ref x_laundry, .ref x_orders, .ref x_contest, .ref x_asked, .ref x_tally, .int 0, .ref x_draft])), (x_now, .inr (3, [.ref n_house, .ref n_linen, .ref n_noteWeeks, .ref n_noteBeds, .ref n_noteSheets, .int 0, .int (-1), .int 0, .int 0])), (n_house, .inr (1, [.int 0, .int 0, .int 0, .int 0, .int 0, .ref nh_grades, .ref nh_wants, .ref nh_mixWeeks, .ref nh_mixOnes, .ref nh_mixOthers]))]) [0, 1, 2] (by decide) rfl
  refine cP (W.runV (As := [.int p0]) (rest := []) ⟨hx, hb, hml, hown, hts⟩ (c_X11_isLodger l dC dI kA s.heap.size x x_tape x_houseReader x_ruleReader x_rules x_now x_images x_past x_laundry x_orders x_contest x_asked x_tally x_draft n_house n_linen n_noteWeeks n_noteBeds n_noteSheets nh_grades nh_wants nh_mixWeeks nh_mixOnes nh_mixOthers p0 ) (cwV 1 hts (gV lk_724 lk_726 lk_10 lk_110 lk_727) rfl rfl rfl (by decide +kernel) ⟨Nat.le_of_ble_eq_true rfl, Nat.le_of_ble_eq_true rfl⟩) (pw_v hPc hDc hK hN 0 11 rfl rfl) rfl rfl hl.1 rfl (lv_room (Nat.le_of_ble_eq_true rfl)) dX11_sheet_2 ⟨Nat.le_of_ble_eq_true rfl, Nat.le_of_ble_eq_true rfl⟩) ?_
  refine W.eq (g2 := F0 m 5 ls [.int 0]) rfl ?_
  refine lv_if_ne (tgt := 10) hx hb dX11_sheet_5 (by decide) (fun c1 => ?_) (fun c1 => ?_)
  · exact False.elim (by revert c1; decide)
  refine lv_iconst (v := (-1)) hx hb dX11_sheet_8 (by decide) ?_
  exact rP_i hx hb hr hlocks dX11_sheet_9

set_option maxHeartbeats 4000000 in
set_option maxRecDepth 100000 in
theorem c_X11_swap (l : Launch) (dC : Nat → ClassId) (dI : Nat → Nat → Nat) (kA : Nat → ClassId) (sz : Nat) (x : Nat) (x_tape : Nat) (x_houseReader : Nat) (x_ruleReader : Nat) (x_rules : Nat) (x_now : Nat) (x_images : Nat) (x_past : Nat) (x_laundry : Nat) (x_orders : Nat) (x_contest : Nat) (x_asked : Nat) (x_tally : Nat) (x_draft : Nat) (n_house : Nat) (n_linen : Nat) (n_noteWeeks : Nat) (n_noteBeds : Nat) (n_noteSheets : Nat) (nh_grades : Nat) (nh_wants : Nat) (nh_mixWeeks : Nat) (nh_mixOnes : Nat) (nh_mixOthers : Nat) (p0 : Int32) (p1 : Int32)  : Met l yX11_swap (wsU yX11_swap cX11_swap 3 (some .int)) ({ frames := 1, cells := 0, slots := 0, locals := 21 }) (va_Pc [.ref x, .int p0, .int p1] (PW dC dI kA [(x, .inr (11, [.ref x_tape, .ref x_houseReader, .ref x_ruleReader, .ref x_rules, .ref x_now, .ref x_images, .ref x_past, .ref x_laundry, .ref x_orders, .ref x_contest, .ref x_asked, .ref x_tally, .int 0, .ref x_draft])), (x_now, .inr (3, [.ref n_house, .ref n_linen, .ref n_noteWeeks, .ref n_noteBeds, .ref n_noteSheets, .int 0, .int (-1), .int 0, .int 0])), (n_house, .inr (1, [.int 0, .int 0, .int 0, .int 0, .int 0, .ref nh_grades, .ref nh_wants, .ref nh_mixWeeks, .ref nh_mixOnes, .ref nh_mixOthers]))] sz)) (QP (some (.int (-1)))) 0 0 (fun _ => False) := by
  refine met_P (own := RX11) (by decide) rfl (Nat.le_of_ble_eq_true rfl) ?_
  intro p e s m below meth c ls hx hb hr hts hown hlocks hml hK hN hP hD hl
  have hl : lv_has ls 3 [(0, .ref x), (1, .int p0), (2, .int p1)] := hl
  have hP : va_P (dC, dI) vwCl [(x, .inr (11, [.ref x_tape, .ref x_houseReader, .ref x_ruleReader, .ref x_rules, .ref x_now, .ref x_images, .ref x_past, .ref x_laundry, .ref x_orders, .ref x_contest, .ref x_asked, .ref x_tally, .int 0, .ref x_draft])), (x_now, .inr (3, [.ref n_house, .ref n_linen, .ref n_noteWeeks, .ref n_noteBeds, .ref n_noteSheets, .int 0, .int (-1), .int 0, .int 0])), (n_house, .inr (1, [.int 0, .int 0, .int 0, .int 0, .int 0, .ref nh_grades, .ref nh_wants, .ref nh_mixWeeks, .ref nh_mixOnes, .ref nh_mixOthers]))] s.heap := hP
  refine lv_aload_n hx hb dX11_swap_0 rfl (lv_at hl 0 rfl) ?_
  refine lv_iload_n hx hb dX11_swap_1 rfl (lv_at hl 1 rfl) ?_
  have hPc := hP.sub (ws' := [(x, .inr (11, [.ref x_tape, .ref x_houseReader, .ref x_ruleReader, .ref x_rules, .ref x_now, .ref x_images, .ref x_past, .ref x_laundry, .ref x_orders, .ref x_contest, .ref x_asked, .ref x_tally, .int 0, .ref x_draft])), (x_now, .inr (3, [.ref n_house, .ref n_linen, .ref n_noteWeeks, .ref n_noteBeds, .ref n_noteSheets, .int 0, .int (-1), .int 0, .int 0])), (n_house, .inr (1, [.int 0, .int 0, .int 0, .int 0, .int 0, .ref nh_grades, .ref nh_wants, .ref nh_mixWeeks, .ref nh_mixOnes, .ref nh_mixOthers]))]) [0, 1, 2] rfl
  have hDc := hD.sub (ws' := [(x, .inr (11, [.ref x_tape, .ref x_houseReader, .ref x_ruleReader, .ref x_rules, .ref x_now, .ref x_images, .ref x_past, .ref x_laundry, .ref x_orders, .ref x_contest, .ref x_asked, .ref x_tally, .int 0, .ref x_draft])), (x_now, .inr (3, [.ref n_house, .ref n_linen, .ref n_noteWeeks, .ref n_noteBeds, .ref n_noteSheets, .int 0, .int (-1), .int 0, .int 0])), (n_house, .inr (1, [.int 0, .int 0, .int 0, .int 0, .int 0, .ref nh_grades, .ref nh_wants, .ref nh_mixWeeks, .ref nh_mixOnes, .ref nh_mixOthers]))]) [0, 1, 2] (by decide) rfl
  refine cP (W.runV (As := [.int p0]) (rest := []) ⟨hx, hb, hml, hown, hts⟩ (c_X11_isLodger l dC dI kA s.heap.size x x_tape x_houseReader x_ruleReader x_rules x_now x_images x_past x_laundry x_orders x_contest x_asked x_tally x_draft n_house n_linen n_noteWeeks n_noteBeds n_noteSheets nh_grades nh_wants nh_mixWeeks nh_mixOnes nh_mixOthers p0 ) (cwV 1 hts (gV lk_724 lk_726 lk_10 lk_110 lk_727) rfl rfl rfl (by decide +kernel) ⟨Nat.le_of_ble_eq_true rfl, Nat.le_of_ble_eq_true rfl⟩) (pw_v hPc hDc hK hN 0 11 rfl rfl) rfl rfl hl.1 rfl (lv_room (Nat.le_of_ble_eq_true rfl)) dX11_swap_2 ⟨Nat.le_of_ble_eq_true rfl, Nat.le_of_ble_eq_true rfl⟩) ?_
  refine W.eq (g2 := F0 m 5 ls [.int 0]) rfl ?_
  refine lv_if_eq (tgt := 21) hx hb dX11_swap_5 (by decide) (fun c1 => ?_) (fun c1 => ?_)
  rotate_left
  · exact False.elim (by revert c1; decide)
  refine lv_iconst (v := (-1)) hx hb dX11_swap_21 (by decide) ?_
  exact rP_i hx hb hr hlocks dX11_swap_22

set_option maxHeartbeats 4000000 in
set_option maxRecDepth 100000 in
theorem c_X11_starch (l : Launch) (dC : Nat → ClassId) (dI : Nat → Nat → Nat) (kA : Nat → ClassId) (sz : Nat) (x : Nat) (x_tape : Nat) (x_houseReader : Nat) (x_ruleReader : Nat) (x_rules : Nat) (x_now : Nat) (x_images : Nat) (x_past : Nat) (x_laundry : Nat) (x_orders : Nat) (x_contest : Nat) (x_asked : Nat) (x_tally : Nat) (x_draft : Nat) (n_house : Nat) (n_linen : Nat) (n_noteWeeks : Nat) (n_noteBeds : Nat) (n_noteSheets : Nat) (nh_grades : Nat) (nh_wants : Nat) (nh_mixWeeks : Nat) (nh_mixOnes : Nat) (nh_mixOthers : Nat) (p0 : Int32)  : Met l yX11_starch (wsU yX11_starch cX11_starch 3 (some .int)) ({ frames := 1, cells := 0, slots := 0, locals := 21 }) (va_Pc [.ref x, .int p0] (PW dC dI kA [(x, .inr (11, [.ref x_tape, .ref x_houseReader, .ref x_ruleReader, .ref x_rules, .ref x_now, .ref x_images, .ref x_past, .ref x_laundry, .ref x_orders, .ref x_contest, .ref x_asked, .ref x_tally, .int 0, .ref x_draft])), (x_now, .inr (3, [.ref n_house, .ref n_linen, .ref n_noteWeeks, .ref n_noteBeds, .ref n_noteSheets, .int 0, .int (-1), .int 0, .int 0])), (n_house, .inr (1, [.int 0, .int 0, .int 0, .int 0, .int 0, .ref nh_grades, .ref nh_wants, .ref nh_mixWeeks, .ref nh_mixOnes, .ref nh_mixOthers]))] sz)) (QP (some (.int (-1)))) 0 0 (fun _ => False) := by
  refine met_P (own := RX11) (by decide) rfl (Nat.le_of_ble_eq_true rfl) ?_
  intro p e s m below meth c ls hx hb hr hts hown hlocks hml hK hN hP hD hl
  have hl : lv_has ls 3 [(0, .ref x), (1, .int p0)] := hl
  have hP : va_P (dC, dI) vwCl [(x, .inr (11, [.ref x_tape, .ref x_houseReader, .ref x_ruleReader, .ref x_rules, .ref x_now, .ref x_images, .ref x_past, .ref x_laundry, .ref x_orders, .ref x_contest, .ref x_asked, .ref x_tally, .int 0, .ref x_draft])), (x_now, .inr (3, [.ref n_house, .ref n_linen, .ref n_noteWeeks, .ref n_noteBeds, .ref n_noteSheets, .int 0, .int (-1), .int 0, .int 0])), (n_house, .inr (1, [.int 0, .int 0, .int 0, .int 0, .int 0, .ref nh_grades, .ref nh_wants, .ref nh_mixWeeks, .ref nh_mixOnes, .ref nh_mixOthers]))] s.heap := hP
  refine lv_aload_n hx hb dX11_starch_0 rfl (lv_at hl 0 rfl) ?_
  refine lv_iload_n hx hb dX11_starch_1 rfl (lv_at hl 1 rfl) ?_
  have hPc := hP.sub (ws' := [(x, .inr (11, [.ref x_tape, .ref x_houseReader, .ref x_ruleReader, .ref x_rules, .ref x_now, .ref x_images, .ref x_past, .ref x_laundry, .ref x_orders, .ref x_contest, .ref x_asked, .ref x_tally, .int 0, .ref x_draft])), (x_now, .inr (3, [.ref n_house, .ref n_linen, .ref n_noteWeeks, .ref n_noteBeds, .ref n_noteSheets, .int 0, .int (-1), .int 0, .int 0])), (n_house, .inr (1, [.int 0, .int 0, .int 0, .int 0, .int 0, .ref nh_grades, .ref nh_wants, .ref nh_mixWeeks, .ref nh_mixOnes, .ref nh_mixOthers]))]) [0, 1, 2] rfl
  have hDc := hD.sub (ws' := [(x, .inr (11, [.ref x_tape, .ref x_houseReader, .ref x_ruleReader, .ref x_rules, .ref x_now, .ref x_images, .ref x_past, .ref x_laundry, .ref x_orders, .ref x_contest, .ref x_asked, .ref x_tally, .int 0, .ref x_draft])), (x_now, .inr (3, [.ref n_house, .ref n_linen, .ref n_noteWeeks, .ref n_noteBeds, .ref n_noteSheets, .int 0, .int (-1), .int 0, .int 0])), (n_house, .inr (1, [.int 0, .int 0, .int 0, .int 0, .int 0, .ref nh_grades, .ref nh_wants, .ref nh_mixWeeks, .ref nh_mixOnes, .ref nh_mixOthers]))]) [0, 1, 2] (by decide) rfl
  refine cP (W.runV (As := [.int p0]) (rest := []) ⟨hx, hb, hml, hown, hts⟩ (c_X11_isLodger l dC dI kA s.heap.size x x_tape x_houseReader x_ruleReader x_rules x_now x_images x_past x_laundry x_orders x_contest x_asked x_tally x_draft n_house n_linen n_noteWeeks n_noteBeds n_noteSheets nh_grades nh_wants nh_mixWeeks nh_mixOnes nh_mixOthers p0 ) (cwV 1 hts (gV lk_724 lk_726 lk_10 lk_110 lk_727) rfl rfl rfl (by decide +kernel) ⟨Nat.le_of_ble_eq_true rfl, Nat.le_of_ble_eq_true rfl⟩) (pw_v hPc hDc hK hN 0 11 rfl rfl) rfl rfl hl.1 rfl (lv_room (Nat.le_of_ble_eq_true rfl)) dX11_starch_2 ⟨Nat.le_of_ble_eq_true rfl, Nat.le_of_ble_eq_true rfl⟩) ?_
  refine W.eq (g2 := F0 m 5 ls [.int 0]) rfl ?_
  refine lv_if_eq (tgt := 21) hx hb dX11_starch_5 (by decide) (fun c1 => ?_) (fun c1 => ?_)
  rotate_left
  · exact False.elim (by revert c1; decide)
  refine lv_iconst (v := (-1)) hx hb dX11_starch_21 (by decide) ?_
  exact rP_i hx hb hr hlocks dX11_starch_22

set_option maxHeartbeats 4000000 in
set_option maxRecDepth 100000 in
theorem c_X11_darn (l : Launch) (dC : Nat → ClassId) (dI : Nat → Nat → Nat) (kA : Nat → ClassId) (sz : Nat) (x : Nat) (x_tape : Nat) (x_houseReader : Nat) (x_ruleReader : Nat) (x_rules : Nat) (x_now : Nat) (x_images : Nat) (x_past : Nat) (x_laundry : Nat) (x_orders : Nat) (x_contest : Nat) (x_asked : Nat) (x_tally : Nat) (x_draft : Nat) (n_house : Nat) (n_linen : Nat) (n_noteWeeks : Nat) (n_noteBeds : Nat) (n_noteSheets : Nat) (nh_grades : Nat) (nh_wants : Nat) (nh_mixWeeks : Nat) (nh_mixOnes : Nat) (nh_mixOthers : Nat) (p0 : Int32)  : Met l yX11_darn (wsU yX11_darn cX11_darn 3 (some .int)) ({ frames := 1, cells := 0, slots := 0, locals := 21 }) (va_Pc [.ref x, .int p0] (PW dC dI kA [(x, .inr (11, [.ref x_tape, .ref x_houseReader, .ref x_ruleReader, .ref x_rules, .ref x_now, .ref x_images, .ref x_past, .ref x_laundry, .ref x_orders, .ref x_contest, .ref x_asked, .ref x_tally, .int 0, .ref x_draft])), (x_now, .inr (3, [.ref n_house, .ref n_linen, .ref n_noteWeeks, .ref n_noteBeds, .ref n_noteSheets, .int 0, .int (-1), .int 0, .int 0])), (n_house, .inr (1, [.int 0, .int 0, .int 0, .int 0, .int 0, .ref nh_grades, .ref nh_wants, .ref nh_mixWeeks, .ref nh_mixOnes, .ref nh_mixOthers]))] sz)) (QP (some (.int (-1)))) 0 0 (fun _ => False) := by
  refine met_P (own := RX11) (by decide) rfl (Nat.le_of_ble_eq_true rfl) ?_
  intro p e s m below meth c ls hx hb hr hts hown hlocks hml hK hN hP hD hl
  have hl : lv_has ls 3 [(0, .ref x), (1, .int p0)] := hl
  have hP : va_P (dC, dI) vwCl [(x, .inr (11, [.ref x_tape, .ref x_houseReader, .ref x_ruleReader, .ref x_rules, .ref x_now, .ref x_images, .ref x_past, .ref x_laundry, .ref x_orders, .ref x_contest, .ref x_asked, .ref x_tally, .int 0, .ref x_draft])), (x_now, .inr (3, [.ref n_house, .ref n_linen, .ref n_noteWeeks, .ref n_noteBeds, .ref n_noteSheets, .int 0, .int (-1), .int 0, .int 0])), (n_house, .inr (1, [.int 0, .int 0, .int 0, .int 0, .int 0, .ref nh_grades, .ref nh_wants, .ref nh_mixWeeks, .ref nh_mixOnes, .ref nh_mixOthers]))] s.heap := hP
  refine lv_aload_n hx hb dX11_darn_0 rfl (lv_at hl 0 rfl) ?_
  refine lv_iload_n hx hb dX11_darn_1 rfl (lv_at hl 1 rfl) ?_
  have hPc := hP.sub (ws' := [(x, .inr (11, [.ref x_tape, .ref x_houseReader, .ref x_ruleReader, .ref x_rules, .ref x_now, .ref x_images, .ref x_past, .ref x_laundry, .ref x_orders, .ref x_contest, .ref x_asked, .ref x_tally, .int 0, .ref x_draft])), (x_now, .inr (3, [.ref n_house, .ref n_linen, .ref n_noteWeeks, .ref n_noteBeds, .ref n_noteSheets, .int 0, .int (-1), .int 0, .int 0])), (n_house, .inr (1, [.int 0, .int 0, .int 0, .int 0, .int 0, .ref nh_grades, .ref nh_wants, .ref nh_mixWeeks, .ref nh_mixOnes, .ref nh_mixOthers]))]) [0, 1, 2] rfl
  have hDc := hD.sub (ws' := [(x, .inr (11, [.ref x_tape, .ref x_houseReader, .ref x_ruleReader, .ref x_rules, .ref x_now, .ref x_images, .ref x_past, .ref x_laundry, .ref x_orders, .ref x_contest, .ref x_asked, .ref x_tally, .int 0, .ref x_draft])), (x_now, .inr (3, [.ref n_house, .ref n_linen, .ref n_noteWeeks, .ref n_noteBeds, .ref n_noteSheets, .int 0, .int (-1), .int 0, .int 0])), (n_house, .inr (1, [.int 0, .int 0, .int 0, .int 0, .int 0, .ref nh_grades, .ref nh_wants, .ref nh_mixWeeks, .ref nh_mixOnes, .ref nh_mixOthers]))]) [0, 1, 2] (by decide) rfl
  refine cP (W.runV (As := [.int p0]) (rest := []) ⟨hx, hb, hml, hown, hts⟩ (c_X11_isLodger l dC dI kA s.heap.size x x_tape x_houseReader x_ruleReader x_rules x_now x_images x_past x_laundry x_orders x_contest x_asked x_tally x_draft n_house n_linen n_noteWeeks n_noteBeds n_noteSheets nh_grades nh_wants nh_mixWeeks nh_mixOnes nh_mixOthers p0 ) (cwV 1 hts (gV lk_724 lk_726 lk_10 lk_110 lk_727) rfl rfl rfl (by decide +kernel) ⟨Nat.le_of_ble_eq_true rfl, Nat.le_of_ble_eq_true rfl⟩) (pw_v hPc hDc hK hN 0 11 rfl rfl) rfl rfl hl.1 rfl (lv_room (Nat.le_of_ble_eq_true rfl)) dX11_darn_2 ⟨Nat.le_of_ble_eq_true rfl, Nat.le_of_ble_eq_true rfl⟩) ?_
  refine W.eq (g2 := F0 m 5 ls [.int 0]) rfl ?_
  refine lv_if_eq (tgt := 23) hx hb dX11_darn_5 (by decide) (fun c1 => ?_) (fun c1 => ?_)
  rotate_left
  · exact False.elim (by revert c1; decide)
  refine lv_iconst (v := (-1)) hx hb dX11_darn_23 (by decide) ?_
  exact rP_i hx hb hr hlocks dX11_darn_24

set_option maxHeartbeats 4000000 in
set_option maxRecDepth 100000 in
theorem c_X11_ahead (l : Launch) (dC : Nat → ClassId) (dI : Nat → Nat → Nat) (kA : Nat → ClassId) (sz : Nat) (x : Nat) (x_tape : Nat) (x_houseReader : Nat) (x_ruleReader : Nat) (x_rules : Nat) (x_now : Nat) (x_images : Nat) (x_past : Nat) (x_laundry : Nat) (x_orders : Nat) (x_contest : Nat) (x_asked : Nat) (x_tally : Nat) (x_draft : Nat) (n_house : Nat) (n_linen : Nat) (n_noteWeeks : Nat) (n_noteBeds : Nat) (n_noteSheets : Nat) (nh_grades : Nat) (nh_wants : Nat) (nh_mixWeeks : Nat) (nh_mixOnes : Nat) (nh_mixOthers : Nat) (p0 : Int32) (p1 : Int32) (p2 : Int32)  : Met l yX11_ahead (wsU yX11_ahead cX11_ahead 4 (some .int)) ({ frames := 1, cells := 0, slots := 0, locals := 21 }) (va_Pc [.ref x, .int p0, .int p1, .int p2] (PW dC dI kA [(x, .inr (11, [.ref x_tape, .ref x_houseReader, .ref x_ruleReader, .ref x_rules, .ref x_now, .ref x_images, .ref x_past, .ref x_laundry, .ref x_orders, .ref x_contest, .ref x_asked, .ref x_tally, .int 0, .ref x_draft])), (x_now, .inr (3, [.ref n_house, .ref n_linen, .ref n_noteWeeks, .ref n_noteBeds, .ref n_noteSheets, .int 0, .int (-1), .int 0, .int 0])), (n_house, .inr (1, [.int 0, .int 0, .int 0, .int 0, .int 0, .ref nh_grades, .ref nh_wants, .ref nh_mixWeeks, .ref nh_mixOnes, .ref nh_mixOthers]))] sz)) (QP (some (.int (-1)))) 0 0 (fun _ => False) := by
  refine met_P (own := RX11) (by decide) rfl (Nat.le_of_ble_eq_true rfl) ?_
  intro p e s m below meth c ls hx hb hr hts hown hlocks hml hK hN hP hD hl
  have hl : lv_has ls 4 [(0, .ref x), (1, .int p0), (2, .int p1), (3, .int p2)] := hl
  have hP : va_P (dC, dI) vwCl [(x, .inr (11, [.ref x_tape, .ref x_houseReader, .ref x_ruleReader, .ref x_rules, .ref x_now, .ref x_images, .ref x_past, .ref x_laundry, .ref x_orders, .ref x_contest, .ref x_asked, .ref x_tally, .int 0, .ref x_draft])), (x_now, .inr (3, [.ref n_house, .ref n_linen, .ref n_noteWeeks, .ref n_noteBeds, .ref n_noteSheets, .int 0, .int (-1), .int 0, .int 0])), (n_house, .inr (1, [.int 0, .int 0, .int 0, .int 0, .int 0, .ref nh_grades, .ref nh_wants, .ref nh_mixWeeks, .ref nh_mixOnes, .ref nh_mixOthers]))] s.heap := hP
  refine lv_aload_n hx hb dX11_ahead_0 rfl (lv_at hl 0 rfl) ?_
  refine lv_iload_n hx hb dX11_ahead_1 rfl (lv_at hl 1 rfl) ?_
  have hPc := hP.sub (ws' := [(x, .inr (11, [.ref x_tape, .ref x_houseReader, .ref x_ruleReader, .ref x_rules, .ref x_now, .ref x_images, .ref x_past, .ref x_laundry, .ref x_orders, .ref x_contest, .ref x_asked, .ref x_tally, .int 0, .ref x_draft])), (x_now, .inr (3, [.ref n_house, .ref n_linen, .ref n_noteWeeks, .ref n_noteBeds, .ref n_noteSheets, .int 0, .int (-1), .int 0, .int 0])), (n_house, .inr (1, [.int 0, .int 0, .int 0, .int 0, .int 0, .ref nh_grades, .ref nh_wants, .ref nh_mixWeeks, .ref nh_mixOnes, .ref nh_mixOthers]))]) [0, 1, 2] rfl
  have hDc := hD.sub (ws' := [(x, .inr (11, [.ref x_tape, .ref x_houseReader, .ref x_ruleReader, .ref x_rules, .ref x_now, .ref x_images, .ref x_past, .ref x_laundry, .ref x_orders, .ref x_contest, .ref x_asked, .ref x_tally, .int 0, .ref x_draft])), (x_now, .inr (3, [.ref n_house, .ref n_linen, .ref n_noteWeeks, .ref n_noteBeds, .ref n_noteSheets, .int 0, .int (-1), .int 0, .int 0])), (n_house, .inr (1, [.int 0, .int 0, .int 0, .int 0, .int 0, .ref nh_grades, .ref nh_wants, .ref nh_mixWeeks, .ref nh_mixOnes, .ref nh_mixOthers]))]) [0, 1, 2] (by decide) rfl
  refine cP (W.runV (As := [.int p0]) (rest := []) ⟨hx, hb, hml, hown, hts⟩ (c_X11_isLodger l dC dI kA s.heap.size x x_tape x_houseReader x_ruleReader x_rules x_now x_images x_past x_laundry x_orders x_contest x_asked x_tally x_draft n_house n_linen n_noteWeeks n_noteBeds n_noteSheets nh_grades nh_wants nh_mixWeeks nh_mixOnes nh_mixOthers p0 ) (cwV 1 hts (gV lk_724 lk_726 lk_10 lk_110 lk_727) rfl rfl rfl (by decide +kernel) ⟨Nat.le_of_ble_eq_true rfl, Nat.le_of_ble_eq_true rfl⟩) (pw_v hPc hDc hK hN 0 11 rfl rfl) rfl rfl hl.1 rfl (lv_room (Nat.le_of_ble_eq_true rfl)) dX11_ahead_2 ⟨Nat.le_of_ble_eq_true rfl, Nat.le_of_ble_eq_true rfl⟩) ?_
  refine W.eq (g2 := F0 m 5 ls [.int 0]) rfl ?_
  refine lv_if_eq (tgt := 27) hx hb dX11_ahead_5 (by decide) (fun c1 => ?_) (fun c1 => ?_)
  rotate_left
  · exact False.elim (by revert c1; decide)
  refine lv_iconst (v := (-1)) hx hb dX11_ahead_27 (by decide) ?_
  exact rP_i hx hb hr hlocks dX11_ahead_28

set_option maxHeartbeats 4000000 in
set_option maxRecDepth 100000 in
theorem c_X11_lets (l : Launch) (dC : Nat → ClassId) (dI : Nat → Nat → Nat) (kA : Nat → ClassId) (sz : Nat) (x : Nat) (x_tape : Nat) (x_houseReader : Nat) (x_ruleReader : Nat) (x_rules : Nat) (x_now : Nat) (x_images : Nat) (x_past : Nat) (x_laundry : Nat) (x_orders : Nat) (x_contest : Nat) (x_asked : Nat) (x_tally : Nat) (x_draft : Nat) (n_house : Nat) (n_linen : Nat) (n_noteWeeks : Nat) (n_noteBeds : Nat) (n_noteSheets : Nat) (nh_grades : Nat) (nh_wants : Nat) (nh_mixWeeks : Nat) (nh_mixOnes : Nat) (nh_mixOthers : Nat) (p0 : Int32) (p1 : Int32)  : Met l yX11_lets (wsU yX11_lets cX11_lets 3 (some .int)) ({ frames := 0, cells := 0, slots := 0, locals := 0 }) (va_Pc [.ref x, .int p0, .int p1] (PW dC dI kA [(x, .inr (11, [.ref x_tape, .ref x_houseReader, .ref x_ruleReader, .ref x_rules, .ref x_now, .ref x_images, .ref x_past, .ref x_laundry, .ref x_orders, .ref x_contest, .ref x_asked, .ref x_tally, .int 0, .ref x_draft])), (x_now, .inr (3, [.ref n_house, .ref n_linen, .ref n_noteWeeks, .ref n_noteBeds, .ref n_noteSheets, .int 0, .int (-1), .int 0, .int 0])), (n_house, .inr (1, [.int 0, .int 0, .int 0, .int 0, .int 0, .ref nh_grades, .ref nh_wants, .ref nh_mixWeeks, .ref nh_mixOnes, .ref nh_mixOthers]))] sz)) (QP (some (.int (-1)))) 0 0 (fun _ => False) := by
  refine met_P (own := RX11) (by decide) rfl (Nat.le_of_ble_eq_true rfl) ?_
  intro p e s m below meth c ls hx hb hr hts hown hlocks hml hK hN hP hD hl
  have hl : lv_has ls 3 [(0, .ref x), (1, .int p0), (2, .int p1)] := hl
  have hP : va_P (dC, dI) vwCl [(x, .inr (11, [.ref x_tape, .ref x_houseReader, .ref x_ruleReader, .ref x_rules, .ref x_now, .ref x_images, .ref x_past, .ref x_laundry, .ref x_orders, .ref x_contest, .ref x_asked, .ref x_tally, .int 0, .ref x_draft])), (x_now, .inr (3, [.ref n_house, .ref n_linen, .ref n_noteWeeks, .ref n_noteBeds, .ref n_noteSheets, .int 0, .int (-1), .int 0, .int 0])), (n_house, .inr (1, [.int 0, .int 0, .int 0, .int 0, .int 0, .ref nh_grades, .ref nh_wants, .ref nh_mixWeeks, .ref nh_mixOnes, .ref nh_mixOthers]))] s.heap := hP
  refine lv_aload_n hx hb dX11_lets_0 rfl (lv_at hl 0 rfl) ?_
  refine va_get (D := (dC, dI)) (ci := 11) (v := .ref x_now) (C := RX11) (T := TX11) (N := 14) hx hb hts uX11 hown hK hP 0 rfl rfl 4 (by decide) (hts _ lk_447) (fun _ h9 => h9) rfl dX11_lets_1 ?_
  refine va_get (D := (dC, dI)) (ci := 3) (v := .ref n_house) (C := RX3) (T := TX3) (N := 9) hx hb hts uX3 hown hK hP 1 rfl rfl 0 (by decide) (hts _ lk_313) (fun _ h9 => h9) rfl dX11_lets_4 ?_
  refine va_get (D := (dC, dI)) (ci := 1) (v := .int 0) (C := RX1) (T := TX1) (N := 10) hx hb hts uX1 hown hK hP 2 rfl rfl 0 (by decide) (hts _ lk_215) (fun _ h9 => h9) rfl dX11_lets_7 ?_
  refine lv_if_eq (tgt := 23) hx hb dX11_lets_10 (by decide) (fun c1 => ?_) (fun c1 => ?_)
  rotate_left
  · exact False.elim (by revert c1; decide)
  refine lv_iconst (v := (-1)) hx hb dX11_lets_23 (by decide) ?_
  exact rP_i hx hb hr hlocks dX11_lets_24

set_option maxHeartbeats 4000000 in
set_option maxRecDepth 100000 in
theorem c_X11_turned (l : Launch) (dC : Nat → ClassId) (dI : Nat → Nat → Nat) (kA : Nat → ClassId) (sz : Nat) (x : Nat) (x_tape : Nat) (x_houseReader : Nat) (x_ruleReader : Nat) (x_rules : Nat) (x_now : Nat) (x_images : Nat) (x_past : Nat) (x_laundry : Nat) (x_orders : Nat) (x_contest : Nat) (x_asked : Nat) (x_tally : Nat) (x_draft : Nat) (n_house : Nat) (n_linen : Nat) (n_noteWeeks : Nat) (n_noteBeds : Nat) (n_noteSheets : Nat) (nh_grades : Nat) (nh_wants : Nat) (nh_mixWeeks : Nat) (nh_mixOnes : Nat) (nh_mixOthers : Nat) (p0 : Int32)  : Met l yX11_turned (wsU yX11_turned cX11_turned 2 (some .int)) ({ frames := 1, cells := 0, slots := 0, locals := 21 }) (va_Pc [.ref x, .int p0] (PW dC dI kA [(x, .inr (11, [.ref x_tape, .ref x_houseReader, .ref x_ruleReader, .ref x_rules, .ref x_now, .ref x_images, .ref x_past, .ref x_laundry, .ref x_orders, .ref x_contest, .ref x_asked, .ref x_tally, .int 0, .ref x_draft])), (x_now, .inr (3, [.ref n_house, .ref n_linen, .ref n_noteWeeks, .ref n_noteBeds, .ref n_noteSheets, .int 0, .int (-1), .int 0, .int 0])), (n_house, .inr (1, [.int 0, .int 0, .int 0, .int 0, .int 0, .ref nh_grades, .ref nh_wants, .ref nh_mixWeeks, .ref nh_mixOnes, .ref nh_mixOthers]))] sz)) (QP (some (.int (-1)))) 0 0 (fun _ => False) := by
  refine met_P (own := RX11) (by decide) rfl (Nat.le_of_ble_eq_true rfl) ?_
  intro p e s m below meth c ls hx hb hr hts hown hlocks hml hK hN hP hD hl
  have hl : lv_has ls 2 [(0, .ref x), (1, .int p0)] := hl
  have hP : va_P (dC, dI) vwCl [(x, .inr (11, [.ref x_tape, .ref x_houseReader, .ref x_ruleReader, .ref x_rules, .ref x_now, .ref x_images, .ref x_past, .ref x_laundry, .ref x_orders, .ref x_contest, .ref x_asked, .ref x_tally, .int 0, .ref x_draft])), (x_now, .inr (3, [.ref n_house, .ref n_linen, .ref n_noteWeeks, .ref n_noteBeds, .ref n_noteSheets, .int 0, .int (-1), .int 0, .int 0])), (n_house, .inr (1, [.int 0, .int 0, .int 0, .int 0, .int 0, .ref nh_grades, .ref nh_wants, .ref nh_mixWeeks, .ref nh_mixOnes, .ref nh_mixOthers]))] s.heap := hP
  refine lv_aload_n hx hb dX11_turned_0 rfl (lv_at hl 0 rfl) ?_
  refine lv_iload_n hx hb dX11_turned_1 rfl (lv_at hl 1 rfl) ?_
  have hPc := hP.sub (ws' := [(x, .inr (11, [.ref x_tape, .ref x_houseReader, .ref x_ruleReader, .ref x_rules, .ref x_now, .ref x_images, .ref x_past, .ref x_laundry, .ref x_orders, .ref x_contest, .ref x_asked, .ref x_tally, .int 0, .ref x_draft])), (x_now, .inr (3, [.ref n_house, .ref n_linen, .ref n_noteWeeks, .ref n_noteBeds, .ref n_noteSheets, .int 0, .int (-1), .int 0, .int 0])), (n_house, .inr (1, [.int 0, .int 0, .int 0, .int 0, .int 0, .ref nh_grades, .ref nh_wants, .ref nh_mixWeeks, .ref nh_mixOnes, .ref nh_mixOthers]))]) [0, 1, 2] rfl
  have hDc := hD.sub (ws' := [(x, .inr (11, [.ref x_tape, .ref x_houseReader, .ref x_ruleReader, .ref x_rules, .ref x_now, .ref x_images, .ref x_past, .ref x_laundry, .ref x_orders, .ref x_contest, .ref x_asked, .ref x_tally, .int 0, .ref x_draft])), (x_now, .inr (3, [.ref n_house, .ref n_linen, .ref n_noteWeeks, .ref n_noteBeds, .ref n_noteSheets, .int 0, .int (-1), .int 0, .int 0])), (n_house, .inr (1, [.int 0, .int 0, .int 0, .int 0, .int 0, .ref nh_grades, .ref nh_wants, .ref nh_mixWeeks, .ref nh_mixOnes, .ref nh_mixOthers]))]) [0, 1, 2] (by decide) rfl
  refine cP (W.runV (As := [.int p0]) (rest := []) ⟨hx, hb, hml, hown, hts⟩ (c_X11_isLodger l dC dI kA s.heap.size x x_tape x_houseReader x_ruleReader x_rules x_now x_images x_past x_laundry x_orders x_contest x_asked x_tally x_draft n_house n_linen n_noteWeeks n_noteBeds n_noteSheets nh_grades nh_wants nh_mixWeeks nh_mixOnes nh_mixOthers p0 ) (cwV 1 hts (gV lk_724 lk_726 lk_10 lk_110 lk_727) rfl rfl rfl (by decide +kernel) ⟨Nat.le_of_ble_eq_true rfl, Nat.le_of_ble_eq_true rfl⟩) (pw_v hPc hDc hK hN 0 11 rfl rfl) rfl rfl hl.1 rfl (lv_room (Nat.le_of_ble_eq_true rfl)) dX11_turned_2 ⟨Nat.le_of_ble_eq_true rfl, Nat.le_of_ble_eq_true rfl⟩) ?_
  refine W.eq (g2 := F0 m 5 ls [.int 0]) rfl ?_
  refine lv_if_ne (tgt := 10) hx hb dX11_turned_5 (by decide) (fun c1 => ?_) (fun c1 => ?_)
  · exact False.elim (by revert c1; decide)
  refine lv_iconst (v := (-1)) hx hb dX11_turned_8 (by decide) ?_
  exact rP_i hx hb hr hlocks dX11_turned_9

set_option maxHeartbeats 4000000 in
set_option maxRecDepth 100000 in
theorem c_X11_thin (l : Launch) (dC : Nat → ClassId) (dI : Nat → Nat → Nat) (kA : Nat → ClassId) (sz : Nat) (x : Nat) (x_tape : Nat) (x_houseReader : Nat) (x_ruleReader : Nat) (x_rules : Nat) (x_now : Nat) (x_images : Nat) (x_past : Nat) (x_laundry : Nat) (x_orders : Nat) (x_contest : Nat) (x_asked : Nat) (x_tally : Nat) (x_draft : Nat) (n_house : Nat) (n_linen : Nat) (n_noteWeeks : Nat) (n_noteBeds : Nat) (n_noteSheets : Nat) (nh_grades : Nat) (nh_wants : Nat) (nh_mixWeeks : Nat) (nh_mixOnes : Nat) (nh_mixOthers : Nat)  : Met l yX11_thin (wsU yX11_thin cX11_thin 4 (some .int)) ({ frames := 0, cells := 0, slots := 0, locals := 0 }) (va_Pc [.ref x] (PW dC dI kA [(x, .inr (11, [.ref x_tape, .ref x_houseReader, .ref x_ruleReader, .ref x_rules, .ref x_now, .ref x_images, .ref x_past, .ref x_laundry, .ref x_orders, .ref x_contest, .ref x_asked, .ref x_tally, .int 0, .ref x_draft])), (x_now, .inr (3, [.ref n_house, .ref n_linen, .ref n_noteWeeks, .ref n_noteBeds, .ref n_noteSheets, .int 0, .int (-1), .int 0, .int 0])), (n_house, .inr (1, [.int 0, .int 0, .int 0, .int 0, .int 0, .ref nh_grades, .ref nh_wants, .ref nh_mixWeeks, .ref nh_mixOnes, .ref nh_mixOthers]))] sz)) (QP (some (.int (-1)))) 0 0 (fun _ => False) := by
  refine met_P (own := RX11) (by decide) rfl (Nat.le_of_ble_eq_true rfl) ?_
  intro p e s m below meth c ls hx hb hr hts hown hlocks hml hK hN hP hD hl
  have hl : lv_has ls 4 [(0, .ref x)] := hl
  have hP : va_P (dC, dI) vwCl [(x, .inr (11, [.ref x_tape, .ref x_houseReader, .ref x_ruleReader, .ref x_rules, .ref x_now, .ref x_images, .ref x_past, .ref x_laundry, .ref x_orders, .ref x_contest, .ref x_asked, .ref x_tally, .int 0, .ref x_draft])), (x_now, .inr (3, [.ref n_house, .ref n_linen, .ref n_noteWeeks, .ref n_noteBeds, .ref n_noteSheets, .int 0, .int (-1), .int 0, .int 0])), (n_house, .inr (1, [.int 0, .int 0, .int 0, .int 0, .int 0, .ref nh_grades, .ref nh_wants, .ref nh_mixWeeks, .ref nh_mixOnes, .ref nh_mixOthers]))] s.heap := hP
  refine lv_aload_n hx hb dX11_thin_0 rfl (lv_at hl 0 rfl) ?_
  refine va_get (D := (dC, dI)) (ci := 11) (v := .ref x_now) (C := RX11) (T := TX11) (N := 14) hx hb hts uX11 hown hK hP 0 rfl rfl 4 (by decide) (hts _ lk_447) (fun _ h9 => h9) rfl dX11_thin_1 ?_
  refine va_get (D := (dC, dI)) (ci := 3) (v := .ref n_house) (C := RX3) (T := TX3) (N := 9) hx hb hts uX3 hown hK hP 1 rfl rfl 0 (by decide) (hts _ lk_313) (fun _ h9 => h9) rfl dX11_thin_4 ?_
  refine va_get (D := (dC, dI)) (ci := 1) (v := .int 0) (C := RX1) (T := TX1) (N := 10) hx hb hts uX1 hown hK hP 2 rfl rfl 0 (by decide) (hts _ lk_215) (fun _ h9 => h9) rfl dX11_thin_7 ?_
  refine lv_if_ne (tgt := 15) hx hb dX11_thin_10 (by decide) (fun c1 => ?_) (fun c1 => ?_)
  · exact False.elim (by revert c1; decide)
  refine lv_iconst (v := (-1)) hx hb dX11_thin_13 (by decide) ?_
  exact rP_i hx hb hr hlocks dX11_thin_14

set_option maxHeartbeats 4000000 in
set_option maxRecDepth 100000 in
theorem c_X11_home (l : Launch) (dC : Nat → ClassId) (dI : Nat → Nat → Nat) (kA : Nat → ClassId) (sz : Nat) (x : Nat) (x_tape : Nat) (x_houseReader : Nat) (x_ruleReader : Nat) (x_rules : Nat) (x_now : Nat) (x_images : Nat) (x_past : Nat) (x_laundry : Nat) (x_orders : Nat) (x_contest : Nat) (x_asked : Nat) (x_tally : Nat) (x_draft : Nat) (n_house : Nat) (n_linen : Nat) (n_noteWeeks : Nat) (n_noteBeds : Nat) (n_noteSheets : Nat) (nh_grades : Nat) (nh_wants : Nat) (nh_mixWeeks : Nat) (nh_mixOnes : Nat) (nh_mixOthers : Nat)  : Met l yX11_home (wsU yX11_home cX11_home 2 (some .int)) ({ frames := 0, cells := 0, slots := 0, locals := 0 }) (va_Pc [.ref x] (PW dC dI kA [(x, .inr (11, [.ref x_tape, .ref x_houseReader, .ref x_ruleReader, .ref x_rules, .ref x_now, .ref x_images, .ref x_past, .ref x_laundry, .ref x_orders, .ref x_contest, .ref x_asked, .ref x_tally, .int 0, .ref x_draft])), (x_now, .inr (3, [.ref n_house, .ref n_linen, .ref n_noteWeeks, .ref n_noteBeds, .ref n_noteSheets, .int 0, .int (-1), .int 0, .int 0])), (n_house, .inr (1, [.int 0, .int 0, .int 0, .int 0, .int 0, .ref nh_grades, .ref nh_wants, .ref nh_mixWeeks, .ref nh_mixOnes, .ref nh_mixOthers]))] sz)) (QP (some (.int (-1)))) 0 0 (fun _ => False) := by
  refine met_P (own := RX11) (by decide) rfl (Nat.le_of_ble_eq_true rfl) ?_
  intro p e s m below meth c ls hx hb hr hts hown hlocks hml hK hN hP hD hl
  have hl : lv_has ls 2 [(0, .ref x)] := hl
  have hP : va_P (dC, dI) vwCl [(x, .inr (11, [.ref x_tape, .ref x_houseReader, .ref x_ruleReader, .ref x_rules, .ref x_now, .ref x_images, .ref x_past, .ref x_laundry, .ref x_orders, .ref x_contest, .ref x_asked, .ref x_tally, .int 0, .ref x_draft])), (x_now, .inr (3, [.ref n_house, .ref n_linen, .ref n_noteWeeks, .ref n_noteBeds, .ref n_noteSheets, .int 0, .int (-1), .int 0, .int 0])), (n_house, .inr (1, [.int 0, .int 0, .int 0, .int 0, .int 0, .ref nh_grades, .ref nh_wants, .ref nh_mixWeeks, .ref nh_mixOnes, .ref nh_mixOthers]))] s.heap := hP
  refine lv_aload_n hx hb dX11_home_0 rfl (lv_at hl 0 rfl) ?_
  refine va_get (D := (dC, dI)) (ci := 11) (v := .ref x_now) (C := RX11) (T := TX11) (N := 14) hx hb hts uX11 hown hK hP 0 rfl rfl 4 (by decide) (hts _ lk_447) (fun _ h9 => h9) rfl dX11_home_1 ?_
  refine va_get (D := (dC, dI)) (ci := 3) (v := .ref n_house) (C := RX3) (T := TX3) (N := 9) hx hb hts uX3 hown hK hP 1 rfl rfl 0 (by decide) (hts _ lk_313) (fun _ h9 => h9) rfl dX11_home_4 ?_
  refine va_get (D := (dC, dI)) (ci := 1) (v := .int 0) (C := RX1) (T := TX1) (N := 10) hx hb hts uX1 hown hK hP 2 rfl rfl 0 (by decide) (hts _ lk_215) (fun _ h9 => h9) rfl dX11_home_7 ?_
  refine lv_if_ne (tgt := 15) hx hb dX11_home_10 (by decide) (fun c1 => ?_) (fun c1 => ?_)
  · exact False.elim (by revert c1; decide)
  refine lv_iconst (v := (-1)) hx hb dX11_home_13 (by decide) ?_
  exact rP_i hx hb hr hlocks dX11_home_14

set_option maxHeartbeats 4000000 in
set_option maxRecDepth 100000 in
theorem c_X11_carves (l : Launch) (dC : Nat → ClassId) (dI : Nat → Nat → Nat) (kA : Nat → ClassId) (sz : Nat) (x : Nat) (x_tape : Nat) (x_houseReader : Nat) (x_ruleReader : Nat) (x_rules : Nat) (x_now : Nat) (x_images : Nat) (x_past : Nat) (x_laundry : Nat) (x_orders : Nat) (x_contest : Nat) (x_asked : Nat) (x_tally : Nat) (x_draft : Nat) (n_house : Nat) (n_linen : Nat) (n_noteWeeks : Nat) (n_noteBeds : Nat) (n_noteSheets : Nat) (nh_grades : Nat) (nh_wants : Nat) (nh_mixWeeks : Nat) (nh_mixOnes : Nat) (nh_mixOthers : Nat) (p0 : Int32) (p1 : Int32)  : Met l yX11_carves (wsU yX11_carves cX11_carves 7 (some .int)) ({ frames := 0, cells := 0, slots := 0, locals := 0 }) (va_Pc [.ref x, .int p0, .int p1] (PW dC dI kA [(x, .inr (11, [.ref x_tape, .ref x_houseReader, .ref x_ruleReader, .ref x_rules, .ref x_now, .ref x_images, .ref x_past, .ref x_laundry, .ref x_orders, .ref x_contest, .ref x_asked, .ref x_tally, .int 0, .ref x_draft])), (x_now, .inr (3, [.ref n_house, .ref n_linen, .ref n_noteWeeks, .ref n_noteBeds, .ref n_noteSheets, .int 0, .int (-1), .int 0, .int 0])), (n_house, .inr (1, [.int 0, .int 0, .int 0, .int 0, .int 0, .ref nh_grades, .ref nh_wants, .ref nh_mixWeeks, .ref nh_mixOnes, .ref nh_mixOthers]))] sz)) (QP (some (.int (-1)))) 0 0 (fun _ => False) := by
  refine met_P (own := RX11) (by decide) rfl (Nat.le_of_ble_eq_true rfl) ?_
  intro p e s m below meth c ls hx hb hr hts hown hlocks hml hK hN hP hD hl
  have hl : lv_has ls 7 [(0, .ref x), (1, .int p0), (2, .int p1)] := hl
  have hP : va_P (dC, dI) vwCl [(x, .inr (11, [.ref x_tape, .ref x_houseReader, .ref x_ruleReader, .ref x_rules, .ref x_now, .ref x_images, .ref x_past, .ref x_laundry, .ref x_orders, .ref x_contest, .ref x_asked, .ref x_tally, .int 0, .ref x_draft])), (x_now, .inr (3, [.ref n_house, .ref n_linen, .ref n_noteWeeks, .ref n_noteBeds, .ref n_noteSheets, .int 0, .int (-1), .int 0, .int 0])), (n_house, .inr (1, [.int 0, .int 0, .int 0, .int 0, .int 0, .ref nh_grades, .ref nh_wants, .ref nh_mixWeeks, .ref nh_mixOnes, .ref nh_mixOthers]))] s.heap := hP
  refine lv_aload_n hx hb dX11_carves_0 rfl (lv_at hl 0 rfl) ?_
  refine va_get (D := (dC, dI)) (ci := 11) (v := .ref x_now) (C := RX11) (T := TX11) (N := 14) hx hb hts uX11 hown hK hP 0 rfl rfl 4 (by decide) (hts _ lk_447) (fun _ h9 => h9) rfl dX11_carves_1 ?_
  refine va_get (D := (dC, dI)) (ci := 3) (v := .ref n_house) (C := RX3) (T := TX3) (N := 9) hx hb hts uX3 hown hK hP 1 rfl rfl 0 (by decide) (hts _ lk_313) (fun _ h9 => h9) rfl dX11_carves_4 ?_
  refine va_get (D := (dC, dI)) (ci := 1) (v := .int 0) (C := RX1) (T := TX1) (N := 10) hx hb hts uX1 hown hK hP 2 rfl rfl 0 (by decide) (hts _ lk_215) (fun _ h9 => h9) rfl dX11_carves_7 ?_
  refine lv_if_eq (tgt := 32) hx hb dX11_carves_10 (by decide) (fun c1 => ?_) (fun c1 => ?_)
  rotate_left
  · exact False.elim (by revert c1; decide)
  refine lv_iconst (v := (-1)) hx hb dX11_carves_32 (by decide) ?_
  exact rP_i hx hb hr hlocks dX11_carves_33

set_option maxHeartbeats 4000000 in
set_option maxRecDepth 100000 in
theorem c_X11_lock (l : Launch) (dC : Nat → ClassId) (dI : Nat → Nat → Nat) (kA : Nat → ClassId) (sz : Nat) (x : Nat) (x_tape : Nat) (x_houseReader : Nat) (x_ruleReader : Nat) (x_rules : Nat) (x_now : Nat) (x_images : Nat) (x_past : Nat) (x_laundry : Nat) (x_orders : Nat) (x_contest : Nat) (x_asked : Nat) (x_tally : Nat) (x_draft : Nat) (n_house : Nat) (n_linen : Nat) (n_noteWeeks : Nat) (n_noteBeds : Nat) (n_noteSheets : Nat) (nh_grades : Nat) (nh_wants : Nat) (nh_mixWeeks : Nat) (nh_mixOnes : Nat) (nh_mixOthers : Nat) (p0 : Int32) (p1 : Int32)  : Met l yX11_lock (wsU yX11_lock cX11_lock 7 (some .int)) ({ frames := 0, cells := 0, slots := 0, locals := 0 }) (va_Pc [.ref x, .int p0, .int p1] (PW dC dI kA [(x, .inr (11, [.ref x_tape, .ref x_houseReader, .ref x_ruleReader, .ref x_rules, .ref x_now, .ref x_images, .ref x_past, .ref x_laundry, .ref x_orders, .ref x_contest, .ref x_asked, .ref x_tally, .int 0, .ref x_draft])), (x_now, .inr (3, [.ref n_house, .ref n_linen, .ref n_noteWeeks, .ref n_noteBeds, .ref n_noteSheets, .int 0, .int (-1), .int 0, .int 0])), (n_house, .inr (1, [.int 0, .int 0, .int 0, .int 0, .int 0, .ref nh_grades, .ref nh_wants, .ref nh_mixWeeks, .ref nh_mixOnes, .ref nh_mixOthers]))] sz)) (QP (some (.int (-2)))) 0 0 (fun _ => False) := by
  refine met_P (own := RX11) (by decide) rfl (Nat.le_of_ble_eq_true rfl) ?_
  intro p e s m below meth c ls hx hb hr hts hown hlocks hml hK hN hP hD hl
  have hl : lv_has ls 7 [(0, .ref x), (1, .int p0), (2, .int p1)] := hl
  have hP : va_P (dC, dI) vwCl [(x, .inr (11, [.ref x_tape, .ref x_houseReader, .ref x_ruleReader, .ref x_rules, .ref x_now, .ref x_images, .ref x_past, .ref x_laundry, .ref x_orders, .ref x_contest, .ref x_asked, .ref x_tally, .int 0, .ref x_draft])), (x_now, .inr (3, [.ref n_house, .ref n_linen, .ref n_noteWeeks, .ref n_noteBeds, .ref n_noteSheets, .int 0, .int (-1), .int 0, .int 0])), (n_house, .inr (1, [.int 0, .int 0, .int 0, .int 0, .int 0, .ref nh_grades, .ref nh_wants, .ref nh_mixWeeks, .ref nh_mixOnes, .ref nh_mixOthers]))] s.heap := hP
  refine lv_aload_n hx hb dX11_lock_0 rfl (lv_at hl 0 rfl) ?_
  refine va_get (D := (dC, dI)) (ci := 11) (v := .ref x_now) (C := RX11) (T := TX11) (N := 14) hx hb hts uX11 hown hK hP 0 rfl rfl 4 (by decide) (hts _ lk_447) (fun _ h9 => h9) rfl dX11_lock_1 ?_
  refine va_get (D := (dC, dI)) (ci := 3) (v := .ref n_house) (C := RX3) (T := TX3) (N := 9) hx hb hts uX3 hown hK hP 1 rfl rfl 0 (by decide) (hts _ lk_313) (fun _ h9 => h9) rfl dX11_lock_4 ?_
  refine va_get (D := (dC, dI)) (ci := 1) (v := .int 0) (C := RX1) (T := TX1) (N := 10) hx hb hts uX1 hown hK hP 2 rfl rfl 0 (by decide) (hts _ lk_215) (fun _ h9 => h9) rfl dX11_lock_7 ?_
  refine lv_if_eq (tgt := 32) hx hb dX11_lock_10 (by decide) (fun c1 => ?_) (fun c1 => ?_)
  rotate_left
  · exact False.elim (by revert c1; decide)
  refine lv_bipush (v := (-2)) hx hb dX11_lock_32 (by decide) ?_
  exact rP_i hx hb hr hlocks dX11_lock_34

set_option maxHeartbeats 4000000 in
set_option maxRecDepth 100000 in
theorem c_X11_laundries (l : Launch) (dC : Nat → ClassId) (dI : Nat → Nat → Nat) (kA : Nat → ClassId) (sz : Nat) (x : Nat) (x_tape : Nat) (x_houseReader : Nat) (x_ruleReader : Nat) (x_rules : Nat) (x_now : Nat) (x_images : Nat) (x_past : Nat) (x_laundry : Nat) (x_orders : Nat) (x_contest : Nat) (x_asked : Nat) (x_tally : Nat) (x_draft : Nat) (n_house : Nat) (n_linen : Nat) (n_noteWeeks : Nat) (n_noteBeds : Nat) (n_noteSheets : Nat) (nh_grades : Nat) (nh_wants : Nat) (nh_mixWeeks : Nat) (nh_mixOnes : Nat) (nh_mixOthers : Nat) (p0 : Int32) (p1 : Int32) (p2 : Int32) (p3 : Int32)  : Met l yX11_laundries (wsU yX11_laundries cX11_laundries 11 (some .int)) ({ frames := 0, cells := 0, slots := 0, locals := 0 }) (va_Pc [.ref x, .int p0, .int p1, .int p2, .int p3] (PW dC dI kA [(x, .inr (11, [.ref x_tape, .ref x_houseReader, .ref x_ruleReader, .ref x_rules, .ref x_now, .ref x_images, .ref x_past, .ref x_laundry, .ref x_orders, .ref x_contest, .ref x_asked, .ref x_tally, .int 0, .ref x_draft])), (x_now, .inr (3, [.ref n_house, .ref n_linen, .ref n_noteWeeks, .ref n_noteBeds, .ref n_noteSheets, .int 0, .int (-1), .int 0, .int 0])), (n_house, .inr (1, [.int 0, .int 0, .int 0, .int 0, .int 0, .ref nh_grades, .ref nh_wants, .ref nh_mixWeeks, .ref nh_mixOnes, .ref nh_mixOthers]))] sz)) (QP (some (.int (-1)))) 0 0 (fun _ => False) := by
  refine met_P (own := RX11) (by decide) rfl (Nat.le_of_ble_eq_true rfl) ?_
  intro p e s m below meth c ls hx hb hr hts hown hlocks hml hK hN hP hD hl
  have hl : lv_has ls 11 [(0, .ref x), (1, .int p0), (2, .int p1), (3, .int p2), (4, .int p3)] := hl
  have hP : va_P (dC, dI) vwCl [(x, .inr (11, [.ref x_tape, .ref x_houseReader, .ref x_ruleReader, .ref x_rules, .ref x_now, .ref x_images, .ref x_past, .ref x_laundry, .ref x_orders, .ref x_contest, .ref x_asked, .ref x_tally, .int 0, .ref x_draft])), (x_now, .inr (3, [.ref n_house, .ref n_linen, .ref n_noteWeeks, .ref n_noteBeds, .ref n_noteSheets, .int 0, .int (-1), .int 0, .int 0])), (n_house, .inr (1, [.int 0, .int 0, .int 0, .int 0, .int 0, .ref nh_grades, .ref nh_wants, .ref nh_mixWeeks, .ref nh_mixOnes, .ref nh_mixOthers]))] s.heap := hP
  refine lv_aload_n hx hb dX11_laundries_0 rfl (lv_at hl 0 rfl) ?_
  refine va_get (D := (dC, dI)) (ci := 11) (v := .ref x_now) (C := RX11) (T := TX11) (N := 14) hx hb hts uX11 hown hK hP 0 rfl rfl 4 (by decide) (hts _ lk_447) (fun _ h9 => h9) rfl dX11_laundries_1 ?_
  refine va_get (D := (dC, dI)) (ci := 3) (v := .ref n_house) (C := RX3) (T := TX3) (N := 9) hx hb hts uX3 hown hK hP 1 rfl rfl 0 (by decide) (hts _ lk_313) (fun _ h9 => h9) rfl dX11_laundries_4 ?_
  refine va_get (D := (dC, dI)) (ci := 1) (v := .int 0) (C := RX1) (T := TX1) (N := 10) hx hb hts uX1 hown hK hP 2 rfl rfl 0 (by decide) (hts _ lk_215) (fun _ h9 => h9) rfl dX11_laundries_7 ?_
  refine lv_if_eq (tgt := 53) hx hb dX11_laundries_10 (by decide) (fun c1 => ?_) (fun c1 => ?_)
  rotate_left
  · exact False.elim (by revert c1; decide)
  refine lv_iconst (v := (-1)) hx hb dX11_laundries_53 (by decide) ?_
  exact rP_i hx hb hr hlocks dX11_laundries_54

set_option maxHeartbeats 4000000 in
set_option maxRecDepth 100000 in
theorem c_X11_ring (l : Launch) (dC : Nat → ClassId) (dI : Nat → Nat → Nat) (kA : Nat → ClassId) (sz : Nat) (x : Nat) (x_tape : Nat) (x_houseReader : Nat) (x_ruleReader : Nat) (x_rules : Nat) (x_now : Nat) (x_images : Nat) (x_past : Nat) (x_laundry : Nat) (x_orders : Nat) (x_contest : Nat) (x_asked : Nat) (x_tally : Nat) (x_draft : Nat) (n_house : Nat) (n_linen : Nat) (n_noteWeeks : Nat) (n_noteBeds : Nat) (n_noteSheets : Nat) (nh_grades : Nat) (nh_wants : Nat) (nh_mixWeeks : Nat) (nh_mixOnes : Nat) (nh_mixOthers : Nat) (p0 : Int32) (p1 : Int32)  : Met l yX11_ring (wsU yX11_ring cX11_ring 4 (some .int)) ({ frames := 1, cells := 0, slots := 0, locals := 21 }) (va_Pc [.ref x, .int p0, .int p1] (PW dC dI kA [(x, .inr (11, [.ref x_tape, .ref x_houseReader, .ref x_ruleReader, .ref x_rules, .ref x_now, .ref x_images, .ref x_past, .ref x_laundry, .ref x_orders, .ref x_contest, .ref x_asked, .ref x_tally, .int 0, .ref x_draft])), (x_now, .inr (3, [.ref n_house, .ref n_linen, .ref n_noteWeeks, .ref n_noteBeds, .ref n_noteSheets, .int 0, .int (-1), .int 0, .int 0])), (n_house, .inr (1, [.int 0, .int 0, .int 0, .int 0, .int 0, .ref nh_grades, .ref nh_wants, .ref nh_mixWeeks, .ref nh_mixOnes, .ref nh_mixOthers]))] sz)) (QP (some (.int (-1)))) 0 0 (fun _ => False) := by
  refine met_P (own := RX11) (by decide) rfl (Nat.le_of_ble_eq_true rfl) ?_
  intro p e s m below meth c ls hx hb hr hts hown hlocks hml hK hN hP hD hl
  have hl : lv_has ls 4 [(0, .ref x), (1, .int p0), (2, .int p1)] := hl
  have hP : va_P (dC, dI) vwCl [(x, .inr (11, [.ref x_tape, .ref x_houseReader, .ref x_ruleReader, .ref x_rules, .ref x_now, .ref x_images, .ref x_past, .ref x_laundry, .ref x_orders, .ref x_contest, .ref x_asked, .ref x_tally, .int 0, .ref x_draft])), (x_now, .inr (3, [.ref n_house, .ref n_linen, .ref n_noteWeeks, .ref n_noteBeds, .ref n_noteSheets, .int 0, .int (-1), .int 0, .int 0])), (n_house, .inr (1, [.int 0, .int 0, .int 0, .int 0, .int 0, .ref nh_grades, .ref nh_wants, .ref nh_mixWeeks, .ref nh_mixOnes, .ref nh_mixOthers]))] s.heap := hP
  refine lv_aload_n hx hb dX11_ring_0 rfl (lv_at hl 0 rfl) ?_
  refine lv_iload_n hx hb dX11_ring_1 rfl (lv_at hl 1 rfl) ?_
  have hPc := hP.sub (ws' := [(x, .inr (11, [.ref x_tape, .ref x_houseReader, .ref x_ruleReader, .ref x_rules, .ref x_now, .ref x_images, .ref x_past, .ref x_laundry, .ref x_orders, .ref x_contest, .ref x_asked, .ref x_tally, .int 0, .ref x_draft])), (x_now, .inr (3, [.ref n_house, .ref n_linen, .ref n_noteWeeks, .ref n_noteBeds, .ref n_noteSheets, .int 0, .int (-1), .int 0, .int 0])), (n_house, .inr (1, [.int 0, .int 0, .int 0, .int 0, .int 0, .ref nh_grades, .ref nh_wants, .ref nh_mixWeeks, .ref nh_mixOnes, .ref nh_mixOthers]))]) [0, 1, 2] rfl
  have hDc := hD.sub (ws' := [(x, .inr (11, [.ref x_tape, .ref x_houseReader, .ref x_ruleReader, .ref x_rules, .ref x_now, .ref x_images, .ref x_past, .ref x_laundry, .ref x_orders, .ref x_contest, .ref x_asked, .ref x_tally, .int 0, .ref x_draft])), (x_now, .inr (3, [.ref n_house, .ref n_linen, .ref n_noteWeeks, .ref n_noteBeds, .ref n_noteSheets, .int 0, .int (-1), .int 0, .int 0])), (n_house, .inr (1, [.int 0, .int 0, .int 0, .int 0, .int 0, .ref nh_grades, .ref nh_wants, .ref nh_mixWeeks, .ref nh_mixOnes, .ref nh_mixOthers]))]) [0, 1, 2] (by decide) rfl
  refine cP (W.runV (As := [.int p0]) (rest := []) ⟨hx, hb, hml, hown, hts⟩ (c_X11_isLodger l dC dI kA s.heap.size x x_tape x_houseReader x_ruleReader x_rules x_now x_images x_past x_laundry x_orders x_contest x_asked x_tally x_draft n_house n_linen n_noteWeeks n_noteBeds n_noteSheets nh_grades nh_wants nh_mixWeeks nh_mixOnes nh_mixOthers p0 ) (cwV 1 hts (gV lk_724 lk_726 lk_10 lk_110 lk_727) rfl rfl rfl (by decide +kernel) ⟨Nat.le_of_ble_eq_true rfl, Nat.le_of_ble_eq_true rfl⟩) (pw_v hPc hDc hK hN 0 11 rfl rfl) rfl rfl hl.1 rfl (lv_room (Nat.le_of_ble_eq_true rfl)) dX11_ring_2 ⟨Nat.le_of_ble_eq_true rfl, Nat.le_of_ble_eq_true rfl⟩) ?_
  refine W.eq (g2 := F0 m 5 ls [.int 0]) rfl ?_
  refine lv_if_eq (tgt := 17) hx hb dX11_ring_5 (by decide) (fun c1 => ?_) (fun c1 => ?_)
  rotate_left
  · exact False.elim (by revert c1; decide)
  refine lv_iconst (v := (-1)) hx hb dX11_ring_17 (by decide) ?_
  exact rP_i hx hb hr hlocks dX11_ring_18

set_option maxHeartbeats 4000000 in
set_option maxRecDepth 100000 in
theorem c_X11_right (l : Launch) (dC : Nat → ClassId) (dI : Nat → Nat → Nat) (kA : Nat → ClassId) (sz : Nat) (x : Nat) (x_tape : Nat) (x_houseReader : Nat) (x_ruleReader : Nat) (x_rules : Nat) (x_now : Nat) (x_images : Nat) (x_past : Nat) (x_laundry : Nat) (x_orders : Nat) (x_contest : Nat) (x_asked : Nat) (x_tally : Nat) (x_draft : Nat) (n_house : Nat) (n_linen : Nat) (n_noteWeeks : Nat) (n_noteBeds : Nat) (n_noteSheets : Nat) (nh_grades : Nat) (nh_wants : Nat) (nh_mixWeeks : Nat) (nh_mixOnes : Nat) (nh_mixOthers : Nat) (p0 : Int32)  : Met l yX11_right (wsU yX11_right cX11_right 3 (some .int)) ({ frames := 0, cells := 0, slots := 0, locals := 0 }) (va_Pc [.ref x, .int p0] (PW dC dI kA [(x, .inr (11, [.ref x_tape, .ref x_houseReader, .ref x_ruleReader, .ref x_rules, .ref x_now, .ref x_images, .ref x_past, .ref x_laundry, .ref x_orders, .ref x_contest, .ref x_asked, .ref x_tally, .int 0, .ref x_draft])), (x_now, .inr (3, [.ref n_house, .ref n_linen, .ref n_noteWeeks, .ref n_noteBeds, .ref n_noteSheets, .int 0, .int (-1), .int 0, .int 0])), (n_house, .inr (1, [.int 0, .int 0, .int 0, .int 0, .int 0, .ref nh_grades, .ref nh_wants, .ref nh_mixWeeks, .ref nh_mixOnes, .ref nh_mixOthers]))] sz)) (QP (some (.int (-1)))) 0 0 (fun _ => False) := by
  refine met_P (own := RX11) (by decide) rfl (Nat.le_of_ble_eq_true rfl) ?_
  intro p e s m below meth c ls hx hb hr hts hown hlocks hml hK hN hP hD hl
  have hl : lv_has ls 3 [(0, .ref x), (1, .int p0)] := hl
  have hP : va_P (dC, dI) vwCl [(x, .inr (11, [.ref x_tape, .ref x_houseReader, .ref x_ruleReader, .ref x_rules, .ref x_now, .ref x_images, .ref x_past, .ref x_laundry, .ref x_orders, .ref x_contest, .ref x_asked, .ref x_tally, .int 0, .ref x_draft])), (x_now, .inr (3, [.ref n_house, .ref n_linen, .ref n_noteWeeks, .ref n_noteBeds, .ref n_noteSheets, .int 0, .int (-1), .int 0, .int 0])), (n_house, .inr (1, [.int 0, .int 0, .int 0, .int 0, .int 0, .ref nh_grades, .ref nh_wants, .ref nh_mixWeeks, .ref nh_mixOnes, .ref nh_mixOthers]))] s.heap := hP
  refine lv_aload_n hx hb dX11_right_0 rfl (lv_at hl 0 rfl) ?_
  refine va_get (D := (dC, dI)) (ci := 11) (v := .ref x_now) (C := RX11) (T := TX11) (N := 14) hx hb hts uX11 hown hK hP 0 rfl rfl 4 (by decide) (hts _ lk_447) (fun _ h9 => h9) rfl dX11_right_1 ?_
  refine va_get (D := (dC, dI)) (ci := 3) (v := .ref n_house) (C := RX3) (T := TX3) (N := 9) hx hb hts uX3 hown hK hP 1 rfl rfl 0 (by decide) (hts _ lk_313) (fun _ h9 => h9) rfl dX11_right_4 ?_
  refine va_get (D := (dC, dI)) (ci := 1) (v := .int 0) (C := RX1) (T := TX1) (N := 10) hx hb hts uX1 hown hK hP 2 rfl rfl 0 (by decide) (hts _ lk_215) (fun _ h9 => h9) rfl dX11_right_7 ?_
  refine lv_if_eq (tgt := 22) hx hb dX11_right_10 (by decide) (fun c1 => ?_) (fun c1 => ?_)
  rotate_left
  · exact False.elim (by revert c1; decide)
  refine lv_iconst (v := (-1)) hx hb dX11_right_22 (by decide) ?_
  exact rP_i hx hb hr hlocks dX11_right_23

set_option maxHeartbeats 4000000 in
set_option maxRecDepth 100000 in
theorem c_X11_even (l : Launch) (dC : Nat → ClassId) (dI : Nat → Nat → Nat) (kA : Nat → ClassId) (sz : Nat) (x : Nat) (x_tape : Nat) (x_houseReader : Nat) (x_ruleReader : Nat) (x_rules : Nat) (x_now : Nat) (x_images : Nat) (x_past : Nat) (x_laundry : Nat) (x_orders : Nat) (x_contest : Nat) (x_asked : Nat) (x_tally : Nat) (x_draft : Nat) (n_house : Nat) (n_linen : Nat) (n_noteWeeks : Nat) (n_noteBeds : Nat) (n_noteSheets : Nat) (nh_grades : Nat) (nh_wants : Nat) (nh_mixWeeks : Nat) (nh_mixOnes : Nat) (nh_mixOthers : Nat)  : Met l yX11_even (wsU yX11_even cX11_even 1 (some .int)) ({ frames := 0, cells := 0, slots := 0, locals := 0 }) (va_Pc [.ref x] (PW dC dI kA [(x, .inr (11, [.ref x_tape, .ref x_houseReader, .ref x_ruleReader, .ref x_rules, .ref x_now, .ref x_images, .ref x_past, .ref x_laundry, .ref x_orders, .ref x_contest, .ref x_asked, .ref x_tally, .int 0, .ref x_draft])), (x_now, .inr (3, [.ref n_house, .ref n_linen, .ref n_noteWeeks, .ref n_noteBeds, .ref n_noteSheets, .int 0, .int (-1), .int 0, .int 0])), (n_house, .inr (1, [.int 0, .int 0, .int 0, .int 0, .int 0, .ref nh_grades, .ref nh_wants, .ref nh_mixWeeks, .ref nh_mixOnes, .ref nh_mixOthers]))] sz)) (QP (some (.int (-1)))) 0 0 (fun _ => False) := by
  refine met_P (own := RX11) (by decide) rfl (Nat.le_of_ble_eq_true rfl) ?_
  intro p e s m below meth c ls hx hb hr hts hown hlocks hml hK hN hP hD hl
  have hl : lv_has ls 1 [(0, .ref x)] := hl
  have hP : va_P (dC, dI) vwCl [(x, .inr (11, [.ref x_tape, .ref x_houseReader, .ref x_ruleReader, .ref x_rules, .ref x_now, .ref x_images, .ref x_past, .ref x_laundry, .ref x_orders, .ref x_contest, .ref x_asked, .ref x_tally, .int 0, .ref x_draft])), (x_now, .inr (3, [.ref n_house, .ref n_linen, .ref n_noteWeeks, .ref n_noteBeds, .ref n_noteSheets, .int 0, .int (-1), .int 0, .int 0])), (n_house, .inr (1, [.int 0, .int 0, .int 0, .int 0, .int 0, .ref nh_grades, .ref nh_wants, .ref nh_mixWeeks, .ref nh_mixOnes, .ref nh_mixOthers]))] s.heap := hP
  refine lv_aload_n hx hb dX11_even_0 rfl (lv_at hl 0 rfl) ?_
  refine va_get (D := (dC, dI)) (ci := 11) (v := .ref x_now) (C := RX11) (T := TX11) (N := 14) hx hb hts uX11 hown hK hP 0 rfl rfl 4 (by decide) (hts _ lk_447) (fun _ h9 => h9) rfl dX11_even_1 ?_
  refine va_get (D := (dC, dI)) (ci := 3) (v := .ref n_house) (C := RX3) (T := TX3) (N := 9) hx hb hts uX3 hown hK hP 1 rfl rfl 0 (by decide) (hts _ lk_313) (fun _ h9 => h9) rfl dX11_even_4 ?_
  refine va_get (D := (dC, dI)) (ci := 1) (v := .int 0) (C := RX1) (T := TX1) (N := 10) hx hb hts uX1 hown hK hP 2 rfl rfl 0 (by decide) (hts _ lk_215) (fun _ h9 => h9) rfl dX11_even_7 ?_
  refine lv_if_ne (tgt := 15) hx hb dX11_even_10 (by decide) (fun c1 => ?_) (fun c1 => ?_)
  · exact False.elim (by revert c1; decide)
  refine lv_iconst (v := (-1)) hx hb dX11_even_13 (by decide) ?_
  exact rP_i hx hb hr hlocks dX11_even_14

set_option maxHeartbeats 4000000 in
set_option maxRecDepth 100000 in
theorem c_X11_most (l : Launch) (dC : Nat → ClassId) (dI : Nat → Nat → Nat) (kA : Nat → ClassId) (sz : Nat) (x : Nat) (x_tape : Nat) (x_houseReader : Nat) (x_ruleReader : Nat) (x_rules : Nat) (x_now : Nat) (x_images : Nat) (x_past : Nat) (x_laundry : Nat) (x_orders : Nat) (x_contest : Nat) (x_asked : Nat) (x_tally : Nat) (x_draft : Nat) (n_house : Nat) (n_linen : Nat) (n_noteWeeks : Nat) (n_noteBeds : Nat) (n_noteSheets : Nat) (nh_grades : Nat) (nh_wants : Nat) (nh_mixWeeks : Nat) (nh_mixOnes : Nat) (nh_mixOthers : Nat) (p0 : Int32)  : Met l yX11_most (wsU yX11_most cX11_most 3 (some .int)) ({ frames := 0, cells := 0, slots := 0, locals := 0 }) (va_Pc [.ref x, .int p0] (PW dC dI kA [(x, .inr (11, [.ref x_tape, .ref x_houseReader, .ref x_ruleReader, .ref x_rules, .ref x_now, .ref x_images, .ref x_past, .ref x_laundry, .ref x_orders, .ref x_contest, .ref x_asked, .ref x_tally, .int 0, .ref x_draft])), (x_now, .inr (3, [.ref n_house, .ref n_linen, .ref n_noteWeeks, .ref n_noteBeds, .ref n_noteSheets, .int 0, .int (-1), .int 0, .int 0])), (n_house, .inr (1, [.int 0, .int 0, .int 0, .int 0, .int 0, .ref nh_grades, .ref nh_wants, .ref nh_mixWeeks, .ref nh_mixOnes, .ref nh_mixOthers]))] sz)) (QP (some (.int (-3)))) 0 0 (fun _ => False) := by
  refine met_P (own := RX11) (by decide) rfl (Nat.le_of_ble_eq_true rfl) ?_
  intro p e s m below meth c ls hx hb hr hts hown hlocks hml hK hN hP hD hl
  have hl : lv_has ls 3 [(0, .ref x), (1, .int p0)] := hl
  have hP : va_P (dC, dI) vwCl [(x, .inr (11, [.ref x_tape, .ref x_houseReader, .ref x_ruleReader, .ref x_rules, .ref x_now, .ref x_images, .ref x_past, .ref x_laundry, .ref x_orders, .ref x_contest, .ref x_asked, .ref x_tally, .int 0, .ref x_draft])), (x_now, .inr (3, [.ref n_house, .ref n_linen, .ref n_noteWeeks, .ref n_noteBeds, .ref n_noteSheets, .int 0, .int (-1), .int 0, .int 0])), (n_house, .inr (1, [.int 0, .int 0, .int 0, .int 0, .int 0, .ref nh_grades, .ref nh_wants, .ref nh_mixWeeks, .ref nh_mixOnes, .ref nh_mixOthers]))] s.heap := hP
  refine lv_aload_n hx hb dX11_most_0 rfl (lv_at hl 0 rfl) ?_
  refine va_get (D := (dC, dI)) (ci := 11) (v := .ref x_now) (C := RX11) (T := TX11) (N := 14) hx hb hts uX11 hown hK hP 0 rfl rfl 4 (by decide) (hts _ lk_447) (fun _ h9 => h9) rfl dX11_most_1 ?_
  refine va_get (D := (dC, dI)) (ci := 3) (v := .ref n_house) (C := RX3) (T := TX3) (N := 9) hx hb hts uX3 hown hK hP 1 rfl rfl 0 (by decide) (hts _ lk_313) (fun _ h9 => h9) rfl dX11_most_4 ?_
  refine va_get (D := (dC, dI)) (ci := 1) (v := .int 0) (C := RX1) (T := TX1) (N := 10) hx hb hts uX1 hown hK hP 2 rfl rfl 0 (by decide) (hts _ lk_215) (fun _ h9 => h9) rfl dX11_most_7 ?_
  refine lv_if_eq (tgt := 23) hx hb dX11_most_10 (by decide) (fun c1 => ?_) (fun c1 => ?_)
  rotate_left
  · exact False.elim (by revert c1; decide)
  refine lv_bipush (v := (-3)) hx hb dX11_most_23 (by decide) ?_
  exact rP_i hx hb hr hlocks dX11_most_25

set_option maxHeartbeats 4000000 in
set_option maxRecDepth 100000 in
theorem c_X11_told (l : Launch) (dC : Nat → ClassId) (dI : Nat → Nat → Nat) (kA : Nat → ClassId) (sz : Nat) (x : Nat) (x_tape : Nat) (x_houseReader : Nat) (x_ruleReader : Nat) (x_rules : Nat) (x_now : Nat) (x_images : Nat) (x_past : Nat) (x_laundry : Nat) (x_orders : Nat) (x_contest : Nat) (x_asked : Nat) (x_tally : Nat) (x_draft : Nat) (n_house : Nat) (n_linen : Nat) (n_noteWeeks : Nat) (n_noteBeds : Nat) (n_noteSheets : Nat) (nh_grades : Nat) (nh_wants : Nat) (nh_mixWeeks : Nat) (nh_mixOnes : Nat) (nh_mixOthers : Nat) (p0 : Int32) (p1 : Int32)  : Met l yX11_told (wsU yX11_told cX11_told 4 (some .int)) ({ frames := 0, cells := 0, slots := 0, locals := 0 }) (va_Pc [.ref x, .int p0, .int p1] (PW dC dI kA [(x, .inr (11, [.ref x_tape, .ref x_houseReader, .ref x_ruleReader, .ref x_rules, .ref x_now, .ref x_images, .ref x_past, .ref x_laundry, .ref x_orders, .ref x_contest, .ref x_asked, .ref x_tally, .int 0, .ref x_draft])), (x_now, .inr (3, [.ref n_house, .ref n_linen, .ref n_noteWeeks, .ref n_noteBeds, .ref n_noteSheets, .int 0, .int (-1), .int 0, .int 0])), (n_house, .inr (1, [.int 0, .int 0, .int 0, .int 0, .int 0, .ref nh_grades, .ref nh_wants, .ref nh_mixWeeks, .ref nh_mixOnes, .ref nh_mixOthers]))] sz)) (QP (some (.int (-3)))) 0 0 (fun _ => False) := by
  refine met_P (own := RX11) (by decide) rfl (Nat.le_of_ble_eq_true rfl) ?_
  intro p e s m below meth c ls hx hb hr hts hown hlocks hml hK hN hP hD hl
  have hl : lv_has ls 4 [(0, .ref x), (1, .int p0), (2, .int p1)] := hl
  have hP : va_P (dC, dI) vwCl [(x, .inr (11, [.ref x_tape, .ref x_houseReader, .ref x_ruleReader, .ref x_rules, .ref x_now, .ref x_images, .ref x_past, .ref x_laundry, .ref x_orders, .ref x_contest, .ref x_asked, .ref x_tally, .int 0, .ref x_draft])), (x_now, .inr (3, [.ref n_house, .ref n_linen, .ref n_noteWeeks, .ref n_noteBeds, .ref n_noteSheets, .int 0, .int (-1), .int 0, .int 0])), (n_house, .inr (1, [.int 0, .int 0, .int 0, .int 0, .int 0, .ref nh_grades, .ref nh_wants, .ref nh_mixWeeks, .ref nh_mixOnes, .ref nh_mixOthers]))] s.heap := hP
  refine lv_aload_n hx hb dX11_told_0 rfl (lv_at hl 0 rfl) ?_
  refine va_get (D := (dC, dI)) (ci := 11) (v := .ref x_now) (C := RX11) (T := TX11) (N := 14) hx hb hts uX11 hown hK hP 0 rfl rfl 4 (by decide) (hts _ lk_447) (fun _ h9 => h9) rfl dX11_told_1 ?_
  refine va_get (D := (dC, dI)) (ci := 3) (v := .ref n_house) (C := RX3) (T := TX3) (N := 9) hx hb hts uX3 hown hK hP 1 rfl rfl 0 (by decide) (hts _ lk_313) (fun _ h9 => h9) rfl dX11_told_4 ?_
  refine va_get (D := (dC, dI)) (ci := 1) (v := .int 0) (C := RX1) (T := TX1) (N := 10) hx hb hts uX1 hown hK hP 2 rfl rfl 0 (by decide) (hts _ lk_215) (fun _ h9 => h9) rfl dX11_told_7 ?_
  refine lv_if_eq (tgt := 45) hx hb dX11_told_10 (by decide) (fun c1 => ?_) (fun c1 => ?_)
  rotate_left
  · exact False.elim (by revert c1; decide)
  refine lv_bipush (v := (-3)) hx hb dX11_told_45 (by decide) ?_
  exact rP_i hx hb hr hlocks dX11_told_47

set_option maxHeartbeats 4000000 in
set_option maxRecDepth 100000 in
theorem c_X11_pence (l : Launch) (dC : Nat → ClassId) (dI : Nat → Nat → Nat) (kA : Nat → ClassId) (sz : Nat) (x : Nat) (x_tape : Nat) (x_houseReader : Nat) (x_ruleReader : Nat) (x_rules : Nat) (x_now : Nat) (x_images : Nat) (x_past : Nat) (x_laundry : Nat) (x_orders : Nat) (x_contest : Nat) (x_asked : Nat) (x_tally : Nat) (x_draft : Nat) (n_house : Nat) (n_linen : Nat) (n_noteWeeks : Nat) (n_noteBeds : Nat) (n_noteSheets : Nat) (nh_grades : Nat) (nh_wants : Nat) (nh_mixWeeks : Nat) (nh_mixOnes : Nat) (nh_mixOthers : Nat) (p0 : Int32) (p1 : Int32)  : Met l yX11_pence (wsU yX11_pence cX11_pence 10 (some .int)) ({ frames := 1, cells := 0, slots := 0, locals := 21 }) (va_Pc [.ref x, .int p0, .int p1] (PW dC dI kA [(x, .inr (11, [.ref x_tape, .ref x_houseReader, .ref x_ruleReader, .ref x_rules, .ref x_now, .ref x_images, .ref x_past, .ref x_laundry, .ref x_orders, .ref x_contest, .ref x_asked, .ref x_tally, .int 0, .ref x_draft])), (x_now, .inr (3, [.ref n_house, .ref n_linen, .ref n_noteWeeks, .ref n_noteBeds, .ref n_noteSheets, .int 0, .int (-1), .int 0, .int 0])), (n_house, .inr (1, [.int 0, .int 0, .int 0, .int 0, .int 0, .ref nh_grades, .ref nh_wants, .ref nh_mixWeeks, .ref nh_mixOnes, .ref nh_mixOthers]))] sz)) (QP (some (.int (-1)))) 0 0 (fun _ => False) := by
  refine met_P (own := RX11) (by decide) rfl (Nat.le_of_ble_eq_true rfl) ?_
  intro p e s m below meth c ls hx hb hr hts hown hlocks hml hK hN hP hD hl
  have hl : lv_has ls 10 [(0, .ref x), (1, .int p0), (2, .int p1)] := hl
  have hP : va_P (dC, dI) vwCl [(x, .inr (11, [.ref x_tape, .ref x_houseReader, .ref x_ruleReader, .ref x_rules, .ref x_now, .ref x_images, .ref x_past, .ref x_laundry, .ref x_orders, .ref x_contest, .ref x_asked, .ref x_tally, .int 0, .ref x_draft])), (x_now, .inr (3, [.ref n_house, .ref n_linen, .ref n_noteWeeks, .ref n_noteBeds, .ref n_noteSheets, .int 0, .int (-1), .int 0, .int 0])), (n_house, .inr (1, [.int 0, .int 0, .int 0, .int 0, .int 0, .ref nh_grades, .ref nh_wants, .ref nh_mixWeeks, .ref nh_mixOnes, .ref nh_mixOthers]))] s.heap := hP
  refine lv_aload_n hx hb dX11_pence_0 rfl (lv_at hl 0 rfl) ?_
  refine lv_iload_n hx hb dX11_pence_1 rfl (lv_at hl 2 rfl) ?_
  have hPc := hP.sub (ws' := [(x, .inr (11, [.ref x_tape, .ref x_houseReader, .ref x_ruleReader, .ref x_rules, .ref x_now, .ref x_images, .ref x_past, .ref x_laundry, .ref x_orders, .ref x_contest, .ref x_asked, .ref x_tally, .int 0, .ref x_draft])), (x_now, .inr (3, [.ref n_house, .ref n_linen, .ref n_noteWeeks, .ref n_noteBeds, .ref n_noteSheets, .int 0, .int (-1), .int 0, .int 0])), (n_house, .inr (1, [.int 0, .int 0, .int 0, .int 0, .int 0, .ref nh_grades, .ref nh_wants, .ref nh_mixWeeks, .ref nh_mixOnes, .ref nh_mixOthers]))]) [0, 1, 2] rfl
  have hDc := hD.sub (ws' := [(x, .inr (11, [.ref x_tape, .ref x_houseReader, .ref x_ruleReader, .ref x_rules, .ref x_now, .ref x_images, .ref x_past, .ref x_laundry, .ref x_orders, .ref x_contest, .ref x_asked, .ref x_tally, .int 0, .ref x_draft])), (x_now, .inr (3, [.ref n_house, .ref n_linen, .ref n_noteWeeks, .ref n_noteBeds, .ref n_noteSheets, .int 0, .int (-1), .int 0, .int 0])), (n_house, .inr (1, [.int 0, .int 0, .int 0, .int 0, .int 0, .ref nh_grades, .ref nh_wants, .ref nh_mixWeeks, .ref nh_mixOnes, .ref nh_mixOthers]))]) [0, 1, 2] (by decide) rfl
  refine cP (W.runV (As := [.int p1]) (rest := []) ⟨hx, hb, hml, hown, hts⟩ (c_X11_isLodger l dC dI kA s.heap.size x x_tape x_houseReader x_ruleReader x_rules x_now x_images x_past x_laundry x_orders x_contest x_asked x_tally x_draft n_house n_linen n_noteWeeks n_noteBeds n_noteSheets nh_grades nh_wants nh_mixWeeks nh_mixOnes nh_mixOthers p1 ) (cwV 1 hts (gV lk_724 lk_726 lk_10 lk_110 lk_727) rfl rfl rfl (by decide +kernel) ⟨Nat.le_of_ble_eq_true rfl, Nat.le_of_ble_eq_true rfl⟩) (pw_v hPc hDc hK hN 0 11 rfl rfl) rfl rfl hl.1 rfl (lv_room (Nat.le_of_ble_eq_true rfl)) dX11_pence_2 ⟨Nat.le_of_ble_eq_true rfl, Nat.le_of_ble_eq_true rfl⟩) ?_
  refine W.eq (g2 := F0 m 5 ls [.int 0]) rfl ?_
  refine lv_if_eq (tgt := 19) hx hb dX11_pence_5 (by decide) (fun c1 => ?_) (fun c1 => ?_)
  rotate_left
  · exact False.elim (by revert c1; decide)
  refine lv_iconst (v := (-1)) hx hb dX11_pence_19 (by decide) ?_
  exact rP_i hx hb hr hlocks dX11_pence_20

set_option maxHeartbeats 4000000 in
set_option maxRecDepth 100000 in
theorem c_X11_game (l : Launch) (dC : Nat → ClassId) (dI : Nat → Nat → Nat) (kA : Nat → ClassId) (sz : Nat) (x : Nat) (x_tape : Nat) (x_houseReader : Nat) (x_ruleReader : Nat) (x_rules : Nat) (x_now : Nat) (x_images : Nat) (x_past : Nat) (x_laundry : Nat) (x_orders : Nat) (x_contest : Nat) (x_asked : Nat) (x_tally : Nat) (x_draft : Nat) (n_house : Nat) (n_linen : Nat) (n_noteWeeks : Nat) (n_noteBeds : Nat) (n_noteSheets : Nat) (nh_grades : Nat) (nh_wants : Nat) (nh_mixWeeks : Nat) (nh_mixOnes : Nat) (nh_mixOthers : Nat) (p0 : Int32) (p1 : Int32) (p2 : Int32) (p3 : Int32)  : Met l yX11_game (wsU yX11_game cX11_game 6 (some .int)) ({ frames := 1, cells := 0, slots := 0, locals := 21 }) (va_Pc [.ref x, .int p0, .int p1, .int p2, .int p3] (PW dC dI kA [(x, .inr (11, [.ref x_tape, .ref x_houseReader, .ref x_ruleReader, .ref x_rules, .ref x_now, .ref x_images, .ref x_past, .ref x_laundry, .ref x_orders, .ref x_contest, .ref x_asked, .ref x_tally, .int 0, .ref x_draft])), (x_now, .inr (3, [.ref n_house, .ref n_linen, .ref n_noteWeeks, .ref n_noteBeds, .ref n_noteSheets, .int 0, .int (-1), .int 0, .int 0])), (n_house, .inr (1, [.int 0, .int 0, .int 0, .int 0, .int 0, .ref nh_grades, .ref nh_wants, .ref nh_mixWeeks, .ref nh_mixOnes, .ref nh_mixOthers]))] sz)) (QP (some (.int (-1000)))) 0 0 (fun _ => False) := by
  refine met_P (own := RX11) (by decide) rfl (Nat.le_of_ble_eq_true rfl) ?_
  intro p e s m below meth c ls hx hb hr hts hown hlocks hml hK hN hP hD hl
  have hl : lv_has ls 6 [(0, .ref x), (1, .int p0), (2, .int p1), (3, .int p2), (4, .int p3)] := hl
  have hP : va_P (dC, dI) vwCl [(x, .inr (11, [.ref x_tape, .ref x_houseReader, .ref x_ruleReader, .ref x_rules, .ref x_now, .ref x_images, .ref x_past, .ref x_laundry, .ref x_orders, .ref x_contest, .ref x_asked, .ref x_tally, .int 0, .ref x_draft])), (x_now, .inr (3, [.ref n_house, .ref n_linen, .ref n_noteWeeks, .ref n_noteBeds, .ref n_noteSheets, .int 0, .int (-1), .int 0, .int 0])), (n_house, .inr (1, [.int 0, .int 0, .int 0, .int 0, .int 0, .ref nh_grades, .ref nh_wants, .ref nh_mixWeeks, .ref nh_mixOnes, .ref nh_mixOthers]))] s.heap := hP
  refine lv_aload_n hx hb dX11_game_0 rfl (lv_at hl 0 rfl) ?_
  refine lv_iload_n hx hb dX11_game_1 rfl (lv_at hl 1 rfl) ?_
  have hPc := hP.sub (ws' := [(x, .inr (11, [.ref x_tape, .ref x_houseReader, .ref x_ruleReader, .ref x_rules, .ref x_now, .ref x_images, .ref x_past, .ref x_laundry, .ref x_orders, .ref x_contest, .ref x_asked, .ref x_tally, .int 0, .ref x_draft])), (x_now, .inr (3, [.ref n_house, .ref n_linen, .ref n_noteWeeks, .ref n_noteBeds, .ref n_noteSheets, .int 0, .int (-1), .int 0, .int 0])), (n_house, .inr (1, [.int 0, .int 0, .int 0, .int 0, .int 0, .ref nh_grades, .ref nh_wants, .ref nh_mixWeeks, .ref nh_mixOnes, .ref nh_mixOthers]))]) [0, 1, 2] rfl
  have hDc := hD.sub (ws' := [(x, .inr (11, [.ref x_tape, .ref x_houseReader, .ref x_ruleReader, .ref x_rules, .ref x_now, .ref x_images, .ref x_past, .ref x_laundry, .ref x_orders, .ref x_contest, .ref x_asked, .ref x_tally, .int 0, .ref x_draft])), (x_now, .inr (3, [.ref n_house, .ref n_linen, .ref n_noteWeeks, .ref n_noteBeds, .ref n_noteSheets, .int 0, .int (-1), .int 0, .int 0])), (n_house, .inr (1, [.int 0, .int 0, .int 0, .int 0, .int 0, .ref nh_grades, .ref nh_wants, .ref nh_mixWeeks, .ref nh_mixOnes, .ref nh_mixOthers]))]) [0, 1, 2] (by decide) rfl
  refine cP (W.runV (As := [.int p0]) (rest := []) ⟨hx, hb, hml, hown, hts⟩ (c_X11_isLodger l dC dI kA s.heap.size x x_tape x_houseReader x_ruleReader x_rules x_now x_images x_past x_laundry x_orders x_contest x_asked x_tally x_draft n_house n_linen n_noteWeeks n_noteBeds n_noteSheets nh_grades nh_wants nh_mixWeeks nh_mixOnes nh_mixOthers p0 ) (cwV 1 hts (gV lk_724 lk_726 lk_10 lk_110 lk_727) rfl rfl rfl (by decide +kernel) ⟨Nat.le_of_ble_eq_true rfl, Nat.le_of_ble_eq_true rfl⟩) (pw_v hPc hDc hK hN 0 11 rfl rfl) rfl rfl hl.1 rfl (lv_room (Nat.le_of_ble_eq_true rfl)) dX11_game_2 ⟨Nat.le_of_ble_eq_true rfl, Nat.le_of_ble_eq_true rfl⟩) ?_
  refine W.eq (g2 := F0 m 5 ls [.int 0]) rfl ?_
  refine lv_if_eq (tgt := 40) hx hb dX11_game_5 (by decide) (fun c1 => ?_) (fun c1 => ?_)
  rotate_left
  · exact False.elim (by revert c1; decide)
  refine lv_sipush (v := (-1000)) hx hb dX11_game_40 (by decide) ?_
  exact rP_i hx hb hr hlocks dX11_game_43

set_option maxHeartbeats 4000000 in
set_option maxRecDepth 100000 in
theorem c_X11_ruled (l : Launch) (dC : Nat → ClassId) (dI : Nat → Nat → Nat) (kA : Nat → ClassId) (sz : Nat) (x : Nat) (x_tape : Nat) (x_houseReader : Nat) (x_ruleReader : Nat) (x_rules : Nat) (x_now : Nat) (x_images : Nat) (x_past : Nat) (x_laundry : Nat) (x_orders : Nat) (x_contest : Nat) (x_asked : Nat) (x_tally : Nat) (x_draft : Nat) (n_house : Nat) (n_linen : Nat) (n_noteWeeks : Nat) (n_noteBeds : Nat) (n_noteSheets : Nat) (nh_grades : Nat) (nh_wants : Nat) (nh_mixWeeks : Nat) (nh_mixOnes : Nat) (nh_mixOthers : Nat) (p0 : Int32)  : Met l yX11_ruled (wsU yX11_ruled cX11_ruled 5 (some .int)) ({ frames := 0, cells := 0, slots := 0, locals := 0 }) (va_Pc [.ref x, .int p0] (PW dC dI kA [(x, .inr (11, [.ref x_tape, .ref x_houseReader, .ref x_ruleReader, .ref x_rules, .ref x_now, .ref x_images, .ref x_past, .ref x_laundry, .ref x_orders, .ref x_contest, .ref x_asked, .ref x_tally, .int 0, .ref x_draft])), (x_now, .inr (3, [.ref n_house, .ref n_linen, .ref n_noteWeeks, .ref n_noteBeds, .ref n_noteSheets, .int 0, .int (-1), .int 0, .int 0])), (n_house, .inr (1, [.int 0, .int 0, .int 0, .int 0, .int 0, .ref nh_grades, .ref nh_wants, .ref nh_mixWeeks, .ref nh_mixOnes, .ref nh_mixOthers]))] sz)) (QP (some (.int (-3)))) 0 0 (fun _ => False) := by
  refine met_P (own := RX11) (by decide) rfl (Nat.le_of_ble_eq_true rfl) ?_
  intro p e s m below meth c ls hx hb hr hts hown hlocks hml hK hN hP hD hl
  have hl : lv_has ls 5 [(0, .ref x), (1, .int p0)] := hl
  have hP : va_P (dC, dI) vwCl [(x, .inr (11, [.ref x_tape, .ref x_houseReader, .ref x_ruleReader, .ref x_rules, .ref x_now, .ref x_images, .ref x_past, .ref x_laundry, .ref x_orders, .ref x_contest, .ref x_asked, .ref x_tally, .int 0, .ref x_draft])), (x_now, .inr (3, [.ref n_house, .ref n_linen, .ref n_noteWeeks, .ref n_noteBeds, .ref n_noteSheets, .int 0, .int (-1), .int 0, .int 0])), (n_house, .inr (1, [.int 0, .int 0, .int 0, .int 0, .int 0, .ref nh_grades, .ref nh_wants, .ref nh_mixWeeks, .ref nh_mixOnes, .ref nh_mixOthers]))] s.heap := hP
  refine lv_aload_n hx hb dX11_ruled_0 rfl (lv_at hl 0 rfl) ?_
  refine va_get (D := (dC, dI)) (ci := 11) (v := .ref x_now) (C := RX11) (T := TX11) (N := 14) hx hb hts uX11 hown hK hP 0 rfl rfl 4 (by decide) (hts _ lk_447) (fun _ h9 => h9) rfl dX11_ruled_1 ?_
  refine va_get (D := (dC, dI)) (ci := 3) (v := .ref n_house) (C := RX3) (T := TX3) (N := 9) hx hb hts uX3 hown hK hP 1 rfl rfl 0 (by decide) (hts _ lk_313) (fun _ h9 => h9) rfl dX11_ruled_4 ?_
  refine va_get (D := (dC, dI)) (ci := 1) (v := .int 0) (C := RX1) (T := TX1) (N := 10) hx hb hts uX1 hown hK hP 2 rfl rfl 0 (by decide) (hts _ lk_215) (fun _ h9 => h9) rfl dX11_ruled_7 ?_
  refine lv_if_eq (tgt := 22) hx hb dX11_ruled_10 (by decide) (fun c1 => ?_) (fun c1 => ?_)
  rotate_left
  · exact False.elim (by revert c1; decide)
  refine lv_bipush (v := (-3)) hx hb dX11_ruled_22 (by decide) ?_
  exact rP_i hx hb hr hlocks dX11_ruled_24

set_option maxHeartbeats 4000000 in
set_option maxRecDepth 100000 in
theorem c_X11_look (l : Launch) (dC : Nat → ClassId) (dI : Nat → Nat → Nat) (kA : Nat → ClassId) (sz : Nat) (x : Nat) (x_tape : Nat) (x_houseReader : Nat) (x_ruleReader : Nat) (x_rules : Nat) (x_now : Nat) (x_images : Nat) (x_past : Nat) (x_laundry : Nat) (x_orders : Nat) (x_contest : Nat) (x_asked : Nat) (x_tally : Nat) (x_draft : Nat) (n_house : Nat) (n_linen : Nat) (n_noteWeeks : Nat) (n_noteBeds : Nat) (n_noteSheets : Nat) (nh_grades : Nat) (nh_wants : Nat) (nh_mixWeeks : Nat) (nh_mixOnes : Nat) (nh_mixOthers : Nat) (p0 : Int32) (p1 : Int32)  : Met l yX11_look (wsU yX11_look cX11_look 7 (some .int)) ({ frames := 0, cells := 0, slots := 0, locals := 0 }) (va_Pc [.ref x, .int p0, .int p1] (PW dC dI kA [(x, .inr (11, [.ref x_tape, .ref x_houseReader, .ref x_ruleReader, .ref x_rules, .ref x_now, .ref x_images, .ref x_past, .ref x_laundry, .ref x_orders, .ref x_contest, .ref x_asked, .ref x_tally, .int 0, .ref x_draft])), (x_now, .inr (3, [.ref n_house, .ref n_linen, .ref n_noteWeeks, .ref n_noteBeds, .ref n_noteSheets, .int 0, .int (-1), .int 0, .int 0])), (n_house, .inr (1, [.int 0, .int 0, .int 0, .int 0, .int 0, .ref nh_grades, .ref nh_wants, .ref nh_mixWeeks, .ref nh_mixOnes, .ref nh_mixOthers]))] sz)) (QP (some (.int (-1)))) 0 0 (fun _ => False) := by
  refine met_P (own := RX11) (by decide) rfl (Nat.le_of_ble_eq_true rfl) ?_
  intro p e s m below meth c ls hx hb hr hts hown hlocks hml hK hN hP hD hl
  have hl : lv_has ls 7 [(0, .ref x), (1, .int p0), (2, .int p1)] := hl
  have hP : va_P (dC, dI) vwCl [(x, .inr (11, [.ref x_tape, .ref x_houseReader, .ref x_ruleReader, .ref x_rules, .ref x_now, .ref x_images, .ref x_past, .ref x_laundry, .ref x_orders, .ref x_contest, .ref x_asked, .ref x_tally, .int 0, .ref x_draft])), (x_now, .inr (3, [.ref n_house, .ref n_linen, .ref n_noteWeeks, .ref n_noteBeds, .ref n_noteSheets, .int 0, .int (-1), .int 0, .int 0])), (n_house, .inr (1, [.int 0, .int 0, .int 0, .int 0, .int 0, .ref nh_grades, .ref nh_wants, .ref nh_mixWeeks, .ref nh_mixOnes, .ref nh_mixOthers]))] s.heap := hP
  refine lv_aload_n hx hb dX11_look_0 rfl (lv_at hl 0 rfl) ?_
  refine va_get (D := (dC, dI)) (ci := 11) (v := .ref x_now) (C := RX11) (T := TX11) (N := 14) hx hb hts uX11 hown hK hP 0 rfl rfl 4 (by decide) (hts _ lk_447) (fun _ h9 => h9) rfl dX11_look_1 ?_
  refine va_get (D := (dC, dI)) (ci := 3) (v := .ref n_house) (C := RX3) (T := TX3) (N := 9) hx hb hts uX3 hown hK hP 1 rfl rfl 0 (by decide) (hts _ lk_313) (fun _ h9 => h9) rfl dX11_look_4 ?_
  refine va_get (D := (dC, dI)) (ci := 1) (v := .int 0) (C := RX1) (T := TX1) (N := 10) hx hb hts uX1 hown hK hP 2 rfl rfl 0 (by decide) (hts _ lk_215) (fun _ h9 => h9) rfl dX11_look_7 ?_
  refine lv_if_eq (tgt := 32) hx hb dX11_look_10 (by decide) (fun c1 => ?_) (fun c1 => ?_)
  rotate_left
  · exact False.elim (by revert c1; decide)
  refine lv_iconst (v := (-1)) hx hb dX11_look_32 (by decide) ?_
  exact rP_i hx hb hr hlocks dX11_look_33

set_option maxHeartbeats 4000000 in
set_option maxRecDepth 100000 in
theorem c_X11_week (l : Launch) (dC : Nat → ClassId) (dI : Nat → Nat → Nat) (kA : Nat → ClassId) (sz : Nat) (x : Nat) (x_tape : Nat) (x_houseReader : Nat) (x_ruleReader : Nat) (x_rules : Nat) (x_now : Nat) (x_images : Nat) (x_past : Nat) (x_laundry : Nat) (x_orders : Nat) (x_contest : Nat) (x_asked : Nat) (x_tally : Nat) (x_draft : Nat) (n_house : Nat) (n_linen : Nat) (n_noteWeeks : Nat) (n_noteBeds : Nat) (n_noteSheets : Nat) (nh_grades : Nat) (nh_wants : Nat) (nh_mixWeeks : Nat) (nh_mixOnes : Nat) (nh_mixOthers : Nat)  : Met l yX11_week (wsU yX11_week cX11_week 1 (some .int)) ({ frames := 0, cells := 0, slots := 0, locals := 0 }) (va_Pc [.ref x] (PW dC dI kA [(x, .inr (11, [.ref x_tape, .ref x_houseReader, .ref x_ruleReader, .ref x_rules, .ref x_now, .ref x_images, .ref x_past, .ref x_laundry, .ref x_orders, .ref x_contest, .ref x_asked, .ref x_tally, .int 0, .ref x_draft])), (x_now, .inr (3, [.ref n_house, .ref n_linen, .ref n_noteWeeks, .ref n_noteBeds, .ref n_noteSheets, .int 0, .int (-1), .int 0, .int 0])), (n_house, .inr (1, [.int 0, .int 0, .int 0, .int 0, .int 0, .ref nh_grades, .ref nh_wants, .ref nh_mixWeeks, .ref nh_mixOnes, .ref nh_mixOthers]))] sz)) (QP (some (.int (-1)))) 0 0 (fun _ => False) := by
  refine met_P (own := RX11) (by decide) rfl (Nat.le_of_ble_eq_true rfl) ?_
  intro p e s m below meth c ls hx hb hr hts hown hlocks hml hK hN hP hD hl
  have hl : lv_has ls 1 [(0, .ref x)] := hl
  have hP : va_P (dC, dI) vwCl [(x, .inr (11, [.ref x_tape, .ref x_houseReader, .ref x_ruleReader, .ref x_rules, .ref x_now, .ref x_images, .ref x_past, .ref x_laundry, .ref x_orders, .ref x_contest, .ref x_asked, .ref x_tally, .int 0, .ref x_draft])), (x_now, .inr (3, [.ref n_house, .ref n_linen, .ref n_noteWeeks, .ref n_noteBeds, .ref n_noteSheets, .int 0, .int (-1), .int 0, .int 0])), (n_house, .inr (1, [.int 0, .int 0, .int 0, .int 0, .int 0, .ref nh_grades, .ref nh_wants, .ref nh_mixWeeks, .ref nh_mixOnes, .ref nh_mixOthers]))] s.heap := hP
  refine lv_aload_n hx hb dX11_week_0 rfl (lv_at hl 0 rfl) ?_
  refine va_get (D := (dC, dI)) (ci := 11) (v := .ref x_now) (C := RX11) (T := TX11) (N := 14) hx hb hts uX11 hown hK hP 0 rfl rfl 4 (by decide) (hts _ lk_447) (fun _ h9 => h9) rfl dX11_week_1 ?_
  refine va_get (D := (dC, dI)) (ci := 3) (v := .ref n_house) (C := RX3) (T := TX3) (N := 9) hx hb hts uX3 hown hK hP 1 rfl rfl 0 (by decide) (hts _ lk_313) (fun _ h9 => h9) rfl dX11_week_4 ?_
  refine va_get (D := (dC, dI)) (ci := 1) (v := .int 0) (C := RX1) (T := TX1) (N := 10) hx hb hts uX1 hown hK hP 2 rfl rfl 0 (by decide) (hts _ lk_215) (fun _ h9 => h9) rfl dX11_week_7 ?_
  refine lv_if_eq (tgt := 29) hx hb dX11_week_10 (by decide) (fun c1 => ?_) (fun c1 => ?_)
  rotate_left
  · exact False.elim (by revert c1; decide)
  refine lv_iconst (v := (-1)) hx hb dX11_week_29 (by decide) ?_
  exact rP_i hx hb hr hlocks dX11_week_30

set_option maxHeartbeats 4000000 in
set_option maxRecDepth 100000 in
theorem c_X11_firstOfPairs_0 (l : Launch) (dC : Nat → ClassId) (dI : Nat → Nat → Nat) (kA : Nat → ClassId) (sz : Nat) (x : Nat) (x_tape : Nat) (x_houseReader : Nat) (x_ruleReader : Nat) (x_rules : Nat) (x_now : Nat) (x_images : Nat) (x_past : Nat) (x_laundry : Nat) (x_orders : Nat) (x_contest : Nat) (x_asked : Nat) (x_tally : Nat) (x_draft : Nat) (n_house : Nat) (n_linen : Nat) (n_noteWeeks : Nat) (n_noteBeds : Nat) (n_noteSheets : Nat) (nh_grades : Nat) (nh_wants : Nat) (nh_mixWeeks : Nat) (nh_mixOnes : Nat) (nh_mixOthers : Nat) (p0 : Int32)  : Met l yX11_firstOfPairs (wsU yX11_firstOfPairs cX11_firstOfPairs 7 (some .int)) ({ frames := 0, cells := 0, slots := 0, locals := 0 }) (va_Pc [.ref x, .int p0, .int 0] (PW dC dI kA [(x, .inr (11, [.ref x_tape, .ref x_houseReader, .ref x_ruleReader, .ref x_rules, .ref x_now, .ref x_images, .ref x_past, .ref x_laundry, .ref x_orders, .ref x_contest, .ref x_asked, .ref x_tally, .int 0, .ref x_draft])), (x_now, .inr (3, [.ref n_house, .ref n_linen, .ref n_noteWeeks, .ref n_noteBeds, .ref n_noteSheets, .int 0, .int (-1), .int 0, .int 0])), (n_house, .inr (1, [.int 0, .int 0, .int 0, .int 0, .int 0, .ref nh_grades, .ref nh_wants, .ref nh_mixWeeks, .ref nh_mixOnes, .ref nh_mixOthers]))] sz)) (QP (some (.int (-1)))) 0 0 (fun _ => False) := by
  refine met_P (own := RX11) (by decide) rfl (Nat.le_of_ble_eq_true rfl) ?_
  intro p e s m below meth c ls hx hb hr hts hown hlocks hml hK hN hP hD hl
  have hl : lv_has ls 7 [(0, .ref x), (1, .int p0), (2, .int 0)] := hl
  have hP : va_P (dC, dI) vwCl [(x, .inr (11, [.ref x_tape, .ref x_houseReader, .ref x_ruleReader, .ref x_rules, .ref x_now, .ref x_images, .ref x_past, .ref x_laundry, .ref x_orders, .ref x_contest, .ref x_asked, .ref x_tally, .int 0, .ref x_draft])), (x_now, .inr (3, [.ref n_house, .ref n_linen, .ref n_noteWeeks, .ref n_noteBeds, .ref n_noteSheets, .int 0, .int (-1), .int 0, .int 0])), (n_house, .inr (1, [.int 0, .int 0, .int 0, .int 0, .int 0, .ref nh_grades, .ref nh_wants, .ref nh_mixWeeks, .ref nh_mixOnes, .ref nh_mixOthers]))] s.heap := hP
  refine lv_aload_n hx hb dX11_firstOfPairs_0 rfl (lv_at hl 0 rfl) ?_
  refine va_get (D := (dC, dI)) (ci := 11) (v := .ref x_now) (C := RX11) (T := TX11) (N := 14) hx hb hts uX11 hown hK hP 0 rfl rfl 4 (by decide) (hts _ lk_447) (fun _ h9 => h9) rfl dX11_firstOfPairs_1 ?_
  refine va_get (D := (dC, dI)) (ci := 3) (v := .ref n_house) (C := RX3) (T := TX3) (N := 9) hx hb hts uX3 hown hK hP 1 rfl rfl 0 (by decide) (hts _ lk_313) (fun _ h9 => h9) rfl dX11_firstOfPairs_4 ?_
  refine va_get (D := (dC, dI)) (ci := 1) (v := .int 0) (C := RX1) (T := TX1) (N := 10) hx hb hts uX1 hown hK hP 2 rfl rfl 0 (by decide) (hts _ lk_215) (fun _ h9 => h9) rfl dX11_firstOfPairs_7 ?_
  refine lv_if_eq (tgt := 22) hx hb dX11_firstOfPairs_10 (by decide) (fun c1 => ?_) (fun c1 => ?_)
  rotate_left
  · exact False.elim (by revert c1; decide)
  refine lv_iconst (v := (-1)) hx hb dX11_firstOfPairs_22 (by decide) ?_
  exact rP_i hx hb hr hlocks dX11_firstOfPairs_23

set_option maxHeartbeats 4000000 in
set_option maxRecDepth 100000 in
theorem c_X11_firstOfPairs_1 (l : Launch) (dC : Nat → ClassId) (dI : Nat → Nat → Nat) (kA : Nat → ClassId) (sz : Nat) (x : Nat) (x_tape : Nat) (x_houseReader : Nat) (x_ruleReader : Nat) (x_rules : Nat) (x_now : Nat) (x_images : Nat) (x_past : Nat) (x_laundry : Nat) (x_orders : Nat) (x_contest : Nat) (x_asked : Nat) (x_tally : Nat) (x_draft : Nat) (n_house : Nat) (n_linen : Nat) (n_noteWeeks : Nat) (n_noteBeds : Nat) (n_noteSheets : Nat) (nh_grades : Nat) (nh_wants : Nat) (nh_mixWeeks : Nat) (nh_mixOnes : Nat) (nh_mixOthers : Nat) (p0 : Int32)  : Met l yX11_firstOfPairs (wsU yX11_firstOfPairs cX11_firstOfPairs 7 (some .int)) ({ frames := 0, cells := 0, slots := 0, locals := 0 }) (va_Pc [.ref x, .int p0, .int 1] (PW dC dI kA [(x, .inr (11, [.ref x_tape, .ref x_houseReader, .ref x_ruleReader, .ref x_rules, .ref x_now, .ref x_images, .ref x_past, .ref x_laundry, .ref x_orders, .ref x_contest, .ref x_asked, .ref x_tally, .int 0, .ref x_draft])), (x_now, .inr (3, [.ref n_house, .ref n_linen, .ref n_noteWeeks, .ref n_noteBeds, .ref n_noteSheets, .int 0, .int (-1), .int 0, .int 0])), (n_house, .inr (1, [.int 0, .int 0, .int 0, .int 0, .int 0, .ref nh_grades, .ref nh_wants, .ref nh_mixWeeks, .ref nh_mixOnes, .ref nh_mixOthers]))] sz)) (QP (some (.int (-1)))) 0 0 (fun _ => False) := by
  refine met_P (own := RX11) (by decide) rfl (Nat.le_of_ble_eq_true rfl) ?_
  intro p e s m below meth c ls hx hb hr hts hown hlocks hml hK hN hP hD hl
  have hl : lv_has ls 7 [(0, .ref x), (1, .int p0), (2, .int 1)] := hl
  have hP : va_P (dC, dI) vwCl [(x, .inr (11, [.ref x_tape, .ref x_houseReader, .ref x_ruleReader, .ref x_rules, .ref x_now, .ref x_images, .ref x_past, .ref x_laundry, .ref x_orders, .ref x_contest, .ref x_asked, .ref x_tally, .int 0, .ref x_draft])), (x_now, .inr (3, [.ref n_house, .ref n_linen, .ref n_noteWeeks, .ref n_noteBeds, .ref n_noteSheets, .int 0, .int (-1), .int 0, .int 0])), (n_house, .inr (1, [.int 0, .int 0, .int 0, .int 0, .int 0, .ref nh_grades, .ref nh_wants, .ref nh_mixWeeks, .ref nh_mixOnes, .ref nh_mixOthers]))] s.heap := hP
  refine lv_aload_n hx hb dX11_firstOfPairs_0 rfl (lv_at hl 0 rfl) ?_
  refine va_get (D := (dC, dI)) (ci := 11) (v := .ref x_now) (C := RX11) (T := TX11) (N := 14) hx hb hts uX11 hown hK hP 0 rfl rfl 4 (by decide) (hts _ lk_447) (fun _ h9 => h9) rfl dX11_firstOfPairs_1 ?_
  refine va_get (D := (dC, dI)) (ci := 3) (v := .ref n_house) (C := RX3) (T := TX3) (N := 9) hx hb hts uX3 hown hK hP 1 rfl rfl 0 (by decide) (hts _ lk_313) (fun _ h9 => h9) rfl dX11_firstOfPairs_4 ?_
  refine va_get (D := (dC, dI)) (ci := 1) (v := .int 0) (C := RX1) (T := TX1) (N := 10) hx hb hts uX1 hown hK hP 2 rfl rfl 0 (by decide) (hts _ lk_215) (fun _ h9 => h9) rfl dX11_firstOfPairs_7 ?_
  refine lv_if_eq (tgt := 22) hx hb dX11_firstOfPairs_10 (by decide) (fun c1 => ?_) (fun c1 => ?_)
  rotate_left
  · exact False.elim (by revert c1; decide)
  refine lv_iconst (v := (-1)) hx hb dX11_firstOfPairs_22 (by decide) ?_
  exact rP_i hx hb hr hlocks dX11_firstOfPairs_23

set_option maxHeartbeats 4000000 in
set_option maxRecDepth 100000 in
theorem c_X11_twos (l : Launch) (dC : Nat → ClassId) (dI : Nat → Nat → Nat) (kA : Nat → ClassId) (sz : Nat) (x : Nat) (x_tape : Nat) (x_houseReader : Nat) (x_ruleReader : Nat) (x_rules : Nat) (x_now : Nat) (x_images : Nat) (x_past : Nat) (x_laundry : Nat) (x_orders : Nat) (x_contest : Nat) (x_asked : Nat) (x_tally : Nat) (x_draft : Nat) (n_house : Nat) (n_linen : Nat) (n_noteWeeks : Nat) (n_noteBeds : Nat) (n_noteSheets : Nat) (nh_grades : Nat) (nh_wants : Nat) (nh_mixWeeks : Nat) (nh_mixOnes : Nat) (nh_mixOthers : Nat) (p0 : Int32)  : Met l yX11_twos (wsU yX11_twos cX11_twos 2 (some .int)) ({ frames := 1, cells := 0, slots := 0, locals := 26 }) (va_Pc [.ref x, .int p0] (PW dC dI kA [(x, .inr (11, [.ref x_tape, .ref x_houseReader, .ref x_ruleReader, .ref x_rules, .ref x_now, .ref x_images, .ref x_past, .ref x_laundry, .ref x_orders, .ref x_contest, .ref x_asked, .ref x_tally, .int 0, .ref x_draft])), (x_now, .inr (3, [.ref n_house, .ref n_linen, .ref n_noteWeeks, .ref n_noteBeds, .ref n_noteSheets, .int 0, .int (-1), .int 0, .int 0])), (n_house, .inr (1, [.int 0, .int 0, .int 0, .int 0, .int 0, .ref nh_grades, .ref nh_wants, .ref nh_mixWeeks, .ref nh_mixOnes, .ref nh_mixOthers]))] sz)) (QP (some (.int (-1)))) 0 0 (fun _ => False) := by
  refine met_P (own := RX11) (by decide) rfl (Nat.le_of_ble_eq_true rfl) ?_
  intro p e s m below meth c ls hx hb hr hts hown hlocks hml hK hN hP hD hl
  have hl : lv_has ls 2 [(0, .ref x), (1, .int p0)] := hl
  have hP : va_P (dC, dI) vwCl [(x, .inr (11, [.ref x_tape, .ref x_houseReader, .ref x_ruleReader, .ref x_rules, .ref x_now, .ref x_images, .ref x_past, .ref x_laundry, .ref x_orders, .ref x_contest, .ref x_asked, .ref x_tally, .int 0, .ref x_draft])), (x_now, .inr (3, [.ref n_house, .ref n_linen, .ref n_noteWeeks, .ref n_noteBeds, .ref n_noteSheets, .int 0, .int (-1), .int 0, .int 0])), (n_house, .inr (1, [.int 0, .int 0, .int 0, .int 0, .int 0, .ref nh_grades, .ref nh_wants, .ref nh_mixWeeks, .ref nh_mixOnes, .ref nh_mixOthers]))] s.heap := hP
  refine lv_aload_n hx hb dX11_twos_0 rfl (lv_at hl 0 rfl) ?_
  refine lv_iload_n hx hb dX11_twos_1 rfl (lv_at hl 1 rfl) ?_
  refine lv_iconst (v := 1) hx hb dX11_twos_2 (by decide) ?_
  have hPc := hP.sub (ws' := [(x, .inr (11, [.ref x_tape, .ref x_houseReader, .ref x_ruleReader, .ref x_rules, .ref x_now, .ref x_images, .ref x_past, .ref x_laundry, .ref x_orders, .ref x_contest, .ref x_asked, .ref x_tally, .int 0, .ref x_draft])), (x_now, .inr (3, [.ref n_house, .ref n_linen, .ref n_noteWeeks, .ref n_noteBeds, .ref n_noteSheets, .int 0, .int (-1), .int 0, .int 0])), (n_house, .inr (1, [.int 0, .int 0, .int 0, .int 0, .int 0, .ref nh_grades, .ref nh_wants, .ref nh_mixWeeks, .ref nh_mixOnes, .ref nh_mixOthers]))]) [0, 1, 2] rfl
  have hDc := hD.sub (ws' := [(x, .inr (11, [.ref x_tape, .ref x_houseReader, .ref x_ruleReader, .ref x_rules, .ref x_now, .ref x_images, .ref x_past, .ref x_laundry, .ref x_orders, .ref x_contest, .ref x_asked, .ref x_tally, .int 0, .ref x_draft])), (x_now, .inr (3, [.ref n_house, .ref n_linen, .ref n_noteWeeks, .ref n_noteBeds, .ref n_noteSheets, .int 0, .int (-1), .int 0, .int 0])), (n_house, .inr (1, [.int 0, .int 0, .int 0, .int 0, .int 0, .ref nh_grades, .ref nh_wants, .ref nh_mixWeeks, .ref nh_mixOnes, .ref nh_mixOthers]))]) [0, 1, 2] (by decide) rfl
  refine cP (W.runV (As := [.int p0, .int 1]) (rest := []) ⟨hx, hb, hml, hown, hts⟩ (c_X11_firstOfPairs_1 l dC dI kA s.heap.size x x_tape x_houseReader x_ruleReader x_rules x_now x_images x_past x_laundry x_orders x_contest x_asked x_tally x_draft n_house n_linen n_noteWeeks n_noteBeds n_noteSheets nh_grades nh_wants nh_mixWeeks nh_mixOnes nh_mixOthers p0 ) (cwV 2 hts (gV lk_926 lk_928 lk_17 lk_110 lk_929) rfl rfl rfl (by decide +kernel) ⟨Nat.le_of_ble_eq_true rfl, Nat.le_of_ble_eq_true rfl⟩) (pw_v hPc hDc hK hN 0 11 rfl rfl) rfl rfl hl.1 rfl (lv_room (Nat.le_of_ble_eq_true rfl)) dX11_twos_3 ⟨Nat.le_of_ble_eq_true rfl, Nat.le_of_ble_eq_true rfl⟩) ?_
  refine W.eq (g2 := F0 m 6 ls [.int (-1)]) rfl ?_
  exact rP_i hx hb hr hlocks dX11_twos_6

set_option maxHeartbeats 4000000 in
set_option maxRecDepth 100000 in
theorem c_X11_nearer (l : Launch) (dC : Nat → ClassId) (dI : Nat → Nat → Nat) (kA : Nat → ClassId) (sz : Nat) (x : Nat) (x_tape : Nat) (x_houseReader : Nat) (x_ruleReader : Nat) (x_rules : Nat) (x_now : Nat) (x_images : Nat) (x_past : Nat) (x_laundry : Nat) (x_orders : Nat) (x_contest : Nat) (x_asked : Nat) (x_tally : Nat) (x_draft : Nat) (n_house : Nat) (n_linen : Nat) (n_noteWeeks : Nat) (n_noteBeds : Nat) (n_noteSheets : Nat) (nh_grades : Nat) (nh_wants : Nat) (nh_mixWeeks : Nat) (nh_mixOnes : Nat) (nh_mixOthers : Nat) (p0 : Int32)  : Met l yX11_nearer (wsU yX11_nearer cX11_nearer 2 (some .int)) ({ frames := 1, cells := 0, slots := 0, locals := 26 }) (va_Pc [.ref x, .int p0] (PW dC dI kA [(x, .inr (11, [.ref x_tape, .ref x_houseReader, .ref x_ruleReader, .ref x_rules, .ref x_now, .ref x_images, .ref x_past, .ref x_laundry, .ref x_orders, .ref x_contest, .ref x_asked, .ref x_tally, .int 0, .ref x_draft])), (x_now, .inr (3, [.ref n_house, .ref n_linen, .ref n_noteWeeks, .ref n_noteBeds, .ref n_noteSheets, .int 0, .int (-1), .int 0, .int 0])), (n_house, .inr (1, [.int 0, .int 0, .int 0, .int 0, .int 0, .ref nh_grades, .ref nh_wants, .ref nh_mixWeeks, .ref nh_mixOnes, .ref nh_mixOthers]))] sz)) (QP (some (.int (-1)))) 0 0 (fun _ => False) := by
  refine met_P (own := RX11) (by decide) rfl (Nat.le_of_ble_eq_true rfl) ?_
  intro p e s m below meth c ls hx hb hr hts hown hlocks hml hK hN hP hD hl
  have hl : lv_has ls 2 [(0, .ref x), (1, .int p0)] := hl
  have hP : va_P (dC, dI) vwCl [(x, .inr (11, [.ref x_tape, .ref x_houseReader, .ref x_ruleReader, .ref x_rules, .ref x_now, .ref x_images, .ref x_past, .ref x_laundry, .ref x_orders, .ref x_contest, .ref x_asked, .ref x_tally, .int 0, .ref x_draft])), (x_now, .inr (3, [.ref n_house, .ref n_linen, .ref n_noteWeeks, .ref n_noteBeds, .ref n_noteSheets, .int 0, .int (-1), .int 0, .int 0])), (n_house, .inr (1, [.int 0, .int 0, .int 0, .int 0, .int 0, .ref nh_grades, .ref nh_wants, .ref nh_mixWeeks, .ref nh_mixOnes, .ref nh_mixOthers]))] s.heap := hP
  refine lv_aload_n hx hb dX11_nearer_0 rfl (lv_at hl 0 rfl) ?_
  refine lv_iload_n hx hb dX11_nearer_1 rfl (lv_at hl 1 rfl) ?_
  refine lv_iconst (v := 0) hx hb dX11_nearer_2 (by decide) ?_
  have hPc := hP.sub (ws' := [(x, .inr (11, [.ref x_tape, .ref x_houseReader, .ref x_ruleReader, .ref x_rules, .ref x_now, .ref x_images, .ref x_past, .ref x_laundry, .ref x_orders, .ref x_contest, .ref x_asked, .ref x_tally, .int 0, .ref x_draft])), (x_now, .inr (3, [.ref n_house, .ref n_linen, .ref n_noteWeeks, .ref n_noteBeds, .ref n_noteSheets, .int 0, .int (-1), .int 0, .int 0])), (n_house, .inr (1, [.int 0, .int 0, .int 0, .int 0, .int 0, .ref nh_grades, .ref nh_wants, .ref nh_mixWeeks, .ref nh_mixOnes, .ref nh_mixOthers]))]) [0, 1, 2] rfl
  have hDc := hD.sub (ws' := [(x, .inr (11, [.ref x_tape, .ref x_houseReader, .ref x_ruleReader, .ref x_rules, .ref x_now, .ref x_images, .ref x_past, .ref x_laundry, .ref x_orders, .ref x_contest, .ref x_asked, .ref x_tally, .int 0, .ref x_draft])), (x_now, .inr (3, [.ref n_house, .ref n_linen, .ref n_noteWeeks, .ref n_noteBeds, .ref n_noteSheets, .int 0, .int (-1), .int 0, .int 0])), (n_house, .inr (1, [.int 0, .int 0, .int 0, .int 0, .int 0, .ref nh_grades, .ref nh_wants, .ref nh_mixWeeks, .ref nh_mixOnes, .ref nh_mixOthers]))]) [0, 1, 2] (by decide) rfl
  refine cP (W.runV (As := [.int p0, .int 0]) (rest := []) ⟨hx, hb, hml, hown, hts⟩ (c_X11_firstOfPairs_0 l dC dI kA s.heap.size x x_tape x_houseReader x_ruleReader x_rules x_now x_images x_past x_laundry x_orders x_contest x_asked x_tally x_draft n_house n_linen n_noteWeeks n_noteBeds n_noteSheets nh_grades nh_wants nh_mixWeeks nh_mixOnes nh_mixOthers p0 ) (cwV 2 hts (gV lk_926 lk_928 lk_17 lk_110 lk_929) rfl rfl rfl (by decide +kernel) ⟨Nat.le_of_ble_eq_true rfl, Nat.le_of_ble_eq_true rfl⟩) (pw_v hPc hDc hK hN 0 11 rfl rfl) rfl rfl hl.1 rfl (lv_room (Nat.le_of_ble_eq_true rfl)) dX11_nearer_3 ⟨Nat.le_of_ble_eq_true rfl, Nat.le_of_ble_eq_true rfl⟩) ?_
  refine W.eq (g2 := F0 m 6 ls [.int (-1)]) rfl ?_
  exact rP_i hx hb hr hlocks dX11_nearer_6

set_option maxHeartbeats 4000000 in
set_option maxRecDepth 100000 in
theorem c_X11_undo (l : Launch) (dC : Nat → ClassId) (dI : Nat → Nat → Nat) (kA : Nat → ClassId) (sz : Nat) (x : Nat) (x_tape : Nat) (x_houseReader : Nat) (x_ruleReader : Nat) (x_rules : Nat) (x_now : Nat) (x_images : Nat) (x_past : Nat) (x_laundry : Nat) (x_orders : Nat) (x_contest : Nat) (x_asked : Nat) (x_tally : Nat) (x_draft : Nat) (p_kept : Nat)  : Met l yX11_undo (wsU yX11_undo cX11_undo 1 (some .int)) ({ frames := 0, cells := 0, slots := 0, locals := 0 }) (va_Pc [.ref x] (PW dC dI kA [(x, .inr (11, [.ref x_tape, .ref x_houseReader, .ref x_ruleReader, .ref x_rules, .ref x_now, .ref x_images, .ref x_past, .ref x_laundry, .ref x_orders, .ref x_contest, .ref x_asked, .ref x_tally, .int 0, .ref x_draft])), (x_past, .inr (7, [.ref p_kept, .int 0, .int 0]))] sz)) (QP (some (.int (-1)))) 0 0 (fun _ => False) := by
  refine met_P (own := RX11) (by decide) rfl (Nat.le_of_ble_eq_true rfl) ?_
  intro p e s m below meth c ls hx hb hr hts hown hlocks hml hK hN hP hD hl
  have hl : lv_has ls 1 [(0, .ref x)] := hl
  have hP : va_P (dC, dI) vwCl [(x, .inr (11, [.ref x_tape, .ref x_houseReader, .ref x_ruleReader, .ref x_rules, .ref x_now, .ref x_images, .ref x_past, .ref x_laundry, .ref x_orders, .ref x_contest, .ref x_asked, .ref x_tally, .int 0, .ref x_draft])), (x_past, .inr (7, [.ref p_kept, .int 0, .int 0]))] s.heap := hP
  refine lv_aload_n hx hb dX11_undo_0 rfl (lv_at hl 0 rfl) ?_
  refine va_get (D := (dC, dI)) (ci := 11) (v := .ref x_past) (C := RX11) (T := TX11) (N := 14) hx hb hts uX11 hown hK hP 0 rfl rfl 6 (by decide) (hts _ lk_449) (fun _ h9 => h9) rfl dX11_undo_1 ?_
  refine va_get (D := (dC, dI)) (ci := 7) (v := .int 0) (C := RX7) (T := TX7) (N := 3) hx hb hts uX7 hown hK hP 1 rfl rfl 2 (by decide) (hts _ lk_361) (fun _ h9 => h9) rfl dX11_undo_4 ?_
  refine lv_if_ne (tgt := 12) hx hb dX11_undo_7 (by decide) (fun c1 => ?_) (fun c1 => ?_)
  · exact False.elim (by revert c1; decide)
  refine lv_iconst (v := (-1)) hx hb dX11_undo_10 (by decide) ?_
  exact rP_i hx hb hr hlocks dX11_undo_11

set_option maxHeartbeats 4000000 in
set_option maxRecDepth 100000 in
theorem c_X10_hasRoom (l : Launch) (dC : Nat → ClassId) (dI : Nat → Nat → Nat) (kA : Nat → ClassId) (sz : Nat) (x_tape : Nat) (x_bytes : Nat)  : Met l yX10_hasRoom (wsU yX10_hasRoom cX10_hasRoom 1 (some .boolean)) ({ frames := 0, cells := 0, slots := 0, locals := 0 }) (va_Pc [.ref x_tape] (PW dC dI kA [(x_tape, .inr (10, [.ref x_bytes, .int 0, .int 0, .int 0, .int 0, .int 0]))] sz)) (QP (some (.int 1))) 0 0 (fun _ => False) := by
  refine met_P (own := RX10) (by decide) rfl (Nat.le_of_ble_eq_true rfl) ?_
  intro p e s m below meth c ls hx hb hr hts hown hlocks hml hK hN hP hD hl
  have hl : lv_has ls 1 [(0, .ref x_tape)] := hl
  have hP : va_P (dC, dI) vwCl [(x_tape, .inr (10, [.ref x_bytes, .int 0, .int 0, .int 0, .int 0, .int 0]))] s.heap := hP
  refine lv_aload_n hx hb dX10_hasRoom_0 rfl (lv_at hl 0 rfl) ?_
  refine va_get (D := (dC, dI)) (ci := 10) (v := .int 0) (C := RX10) (T := TX10) (N := 6) hx hb hts uX10 hown hK hP 0 rfl rfl 1 (by decide) (hts _ lk_146) (fun _ h9 => h9) rfl dX10_hasRoom_1 ?_
  refine lv_bipush (v := 20) hx hb dX10_hasRoom_4 (by decide) ?_
  refine lv_iadd hx hb dX10_hasRoom_6 ?_
  refine lv_toc (y := 20) (by decide) ?_
  refine lv_sipush (v := 400) hx hb dX10_hasRoom_7 (by decide) ?_
  refine lv_icmp_gt (tgt := 17) hx hb dX10_hasRoom_10 (by decide) (fun c1 => ?_) (fun c1 => ?_)
  · exact False.elim (by revert c1; decide)
  refine lv_iconst (v := 1) hx hb dX10_hasRoom_13 (by decide) ?_
  refine lv_goto (tgt := 18) hx hb dX10_hasRoom_14 (by decide) ?_
  exact rP_z hx hb hr hlocks (by decide) dX10_hasRoom_18

set_option maxHeartbeats 4000000 in
set_option maxRecDepth 100000 in
theorem c_X10_put_0 (l : Launch) (dC : Nat → ClassId) (dI : Nat → Nat → Nat) (kA : Nat → ClassId) (sz : Nat) (x_tape : Nat) (x_bytes : Nat) (f0 : Nat → Int32) (p0 : Int32)  : Met l yX10_put (wsU yX10_put cX10_put 3 none) ({ frames := 0, cells := 0, slots := 0, locals := 0 }) (va_Pc [.ref x_tape, .int p0] (PW dC dI kA [(x_tape, .inr (10, [.ref x_bytes, .int 0, .int 0, .int 0, .int 0, .int 0])), (x_bytes, .inl (kA 1, 400, .inl f0))] sz)) (QU dC dI none (fun w => ∃ (f19 : Nat → Int32), w = [(x_tape, .inr (10, [.ref x_bytes, .int 4, .int 0, .int 0, .int 0, .int 0])), (x_bytes, .inl (kA 1, 400, .inl f19))]) (va_A [(x_tape, .inr (10, [.ref x_bytes, .int 0, .int 0, .int 0, .int 0, .int 0])), (x_bytes, .inl (kA 1, 400, .inl f0))] sz)) 0 0 (va_A [(x_tape, .inr (10, [.ref x_bytes, .int 0, .int 0, .int 0, .int 0, .int 0])), (x_bytes, .inl (kA 1, 400, .inl f0))] sz) := by
  refine met_M (own := RX10) (by decide) rfl (Nat.le_of_ble_eq_true rfl) ?_
  intro p e s m below meth c ls A hx hb hr hts hown hlocks hml hin hK hN hA hP hD hS hl
  have hl : lv_has ls 3 [(0, .ref x_tape), (1, .int p0)] := hl
  have hP : va_P (dC, dI) vwCl [(x_tape, .inr (10, [.ref x_bytes, .int 0, .int 0, .int 0, .int 0, .int 0])), (x_bytes, .inl (kA 1, 400, .inl f0))] s.heap := hP
  have hD : va_D A [(x_tape, .inr (10, [.ref x_bytes, .int 0, .int 0, .int 0, .int 0, .int 0])), (x_bytes, .inl (kA 1, 400, .inl f0))] := hD
  refine lv_bipush (v := 24) hx hb dX10_put_0 (by decide) ?_
  refine lv_istore_n (lv' := [(2, .int 24), (0, .ref x_tape), (1, .int p0)]) hx hb dX10_put_2 rfl hl (by decide) rfl (fun ls hl => ?_)
  refine lv_iload_n hx hb dX10_put_3 rfl (lv_at hl 0 rfl) ?_
  refine lv_if_lt (tgt := 46) hx hb dX10_put_4 (by decide) (fun c1 => ?_) (fun c1 => ?_)
  · exact False.elim (by revert c1; decide)
  refine lv_aload_n hx hb dX10_put_7 rfl (lv_at hl 1 rfl) ?_
  refine va_get (D := (dC, dI)) (ci := 10) (v := .int 0) (C := RX10) (T := TX10) (N := 6) hx hb hts uX10 hown hK hP 0 rfl rfl 1 (by decide) (hts _ lk_146) (fun _ h9 => h9) rfl dX10_put_8 ?_
  refine lv_sipush (v := 400) hx hb dX10_put_11 (by decide) ?_
  refine lv_icmp_ge (tgt := 40) hx hb dX10_put_14 (by decide) (fun c2 => ?_) (fun c2 => ?_)
  · exact False.elim (by revert c2; decide)
  refine lv_aload_n hx hb dX10_put_17 rfl (lv_at hl 1 rfl) ?_
  refine va_get (D := (dC, dI)) (ci := 10) (v := .ref x_bytes) (C := RX10) (T := TX10) (N := 6) hx hb hts uX10 hown hK hP 0 rfl rfl 0 (by decide) (hts _ lk_145) (fun _ h9 => h9) rfl dX10_put_18 ?_
  refine lv_aload_n hx hb dX10_put_21 rfl (lv_at hl 1 rfl) ?_
  refine va_get (D := (dC, dI)) (ci := 10) (v := .int 0) (C := RX10) (T := TX10) (N := 6) hx hb hts uX10 hown hK hP 0 rfl rfl 1 (by decide) (hts _ lk_146) (fun _ h9 => h9) rfl dX10_put_22 ?_
  refine lv_iload_n hx hb dX10_put_25 rfl (lv_at hl 2 rfl) ?_
  refine lv_iload_n hx hb dX10_put_26 rfl (lv_at hl 0 rfl) ?_
  refine lv_iushr hx hb dX10_put_27 rfl ?_
  refine lv_topi (fun z1 ez1 => ?_)
  refine lv_i2b hx hb dX10_put_28 rfl ?_
  refine lv_topi (fun z2 ez2 => ?_)
  refine va_bast (D := (dC, dI)) hx hb hK hP hD hS 1 1 rfl rfl (vpi (by decide +kernel)) dX10_put_29 (fun H3 locs hP hD hS => ?_)
  have hP : va_P (dC, dI) vwCl [(x_tape, .inr (10, [.ref x_bytes, .int 0, .int 0, .int 0, .int 0, .int 0])), (x_bytes, .inl (kA 1, 400, .inl (upd f0 (0 : Int32).toNatClampNeg (vp_nar .byte z2))))] H3 := hP
  have hD : va_D A [(x_tape, .inr (10, [.ref x_bytes, .int 0, .int 0, .int 0, .int 0, .int 0])), (x_bytes, .inl (kA 1, 400, .inl (upd f0 (0 : Int32).toNatClampNeg (vp_nar .byte z2))))] := hD
  generalize (upd f0 (0 : Int32).toNatClampNeg (vp_nar .byte z2)) = f4 at hP hD
  refine lv_aload_n hx hb dX10_put_30 rfl (lv_at hl 1 rfl) ?_
  refine lv_dup hx hb dX10_put_31 rfl ?_
  refine va_get (D := (dC, dI)) (ci := 10) (v := .int 0) (C := RX10) (T := TX10) (N := 6) hx hb hts uX10 hown hK hP 0 rfl rfl 1 (by decide) (hts _ lk_146) (fun _ h9 => h9) rfl dX10_put_32 ?_
  refine lv_iconst (v := 1) hx hb dX10_put_35 (by decide) ?_
  refine lv_iadd hx hb dX10_put_36 ?_
  refine lv_toc (y := 1) (by decide) ?_
  refine va_put (D := (dC, dI)) (ci := 10) (v := .int 1) (ty := .int) (C := RX10) (T := TX10) (N := 6) hx hb hts uX10 tyX10 tyX10_ok nmX10 hown hK hP hD hS 0 rfl rfl 1 (by decide) (hts _ lk_146) (fun _ h9 => h9) rfl (by decide +kernel) rfl rfl (Nat.le_of_ble_eq_true rfl) dX10_put_37 (fun H5 locs hP hD hS => ?_)
  have hP : va_P (dC, dI) vwCl [(x_tape, .inr (10, [.ref x_bytes, .int 1, .int 0, .int 0, .int 0, .int 0])), (x_bytes, .inl (kA 1, 400, .inl f4))] H5 := hP
  have hD : va_D A [(x_tape, .inr (10, [.ref x_bytes, .int 1, .int 0, .int 0, .int 0, .int 0])), (x_bytes, .inl (kA 1, 400, .inl f4))] := hD
  refine lv_iinc (v := 16) (lv' := [(2, .int 16), (0, .ref x_tape), (1, .int p0)]) hx hb dX10_put_40 hl (k := 0) rfl (by decide) (by decide) rfl (fun ls hl => ?_)
  refine lv_goto (tgt := 3) hx hb dX10_put_43 (by decide) ?_
  refine lv_iload_n hx hb dX10_put_3 rfl (lv_at hl 0 rfl) ?_
  refine lv_if_lt (tgt := 46) hx hb dX10_put_4 (by decide) (fun c3 => ?_) (fun c3 => ?_)
  · exact False.elim (by revert c3; decide)
  refine lv_aload_n hx hb dX10_put_7 rfl (lv_at hl 1 rfl) ?_
  refine va_get (D := (dC, dI)) (ci := 10) (v := .int 1) (C := RX10) (T := TX10) (N := 6) hx hb hts uX10 hown hK hP 0 rfl rfl 1 (by decide) (hts _ lk_146) (fun _ h9 => h9) rfl dX10_put_8 ?_
  refine lv_sipush (v := 400) hx hb dX10_put_11 (by decide) ?_
  refine lv_icmp_ge (tgt := 40) hx hb dX10_put_14 (by decide) (fun c4 => ?_) (fun c4 => ?_)
  · exact False.elim (by revert c4; decide)
  refine lv_aload_n hx hb dX10_put_17 rfl (lv_at hl 1 rfl) ?_
  refine va_get (D := (dC, dI)) (ci := 10) (v := .ref x_bytes) (C := RX10) (T := TX10) (N := 6) hx hb hts uX10 hown hK hP 0 rfl rfl 0 (by decide) (hts _ lk_145) (fun _ h9 => h9) rfl dX10_put_18 ?_
  refine lv_aload_n hx hb dX10_put_21 rfl (lv_at hl 1 rfl) ?_
  refine va_get (D := (dC, dI)) (ci := 10) (v := .int 1) (C := RX10) (T := TX10) (N := 6) hx hb hts uX10 hown hK hP 0 rfl rfl 1 (by decide) (hts _ lk_146) (fun _ h9 => h9) rfl dX10_put_22 ?_
  refine lv_iload_n hx hb dX10_put_25 rfl (lv_at hl 2 rfl) ?_
  refine lv_iload_n hx hb dX10_put_26 rfl (lv_at hl 0 rfl) ?_
  refine lv_iushr hx hb dX10_put_27 rfl ?_
  refine lv_topi (fun z6 ez6 => ?_)
  refine lv_i2b hx hb dX10_put_28 rfl ?_
  refine lv_topi (fun z7 ez7 => ?_)
  refine va_bast (D := (dC, dI)) hx hb hK hP hD hS 1 1 rfl rfl (vpi (by decide +kernel)) dX10_put_29 (fun H8 locs hP hD hS => ?_)
  have hP : va_P (dC, dI) vwCl [(x_tape, .inr (10, [.ref x_bytes, .int 1, .int 0, .int 0, .int 0, .int 0])), (x_bytes, .inl (kA 1, 400, .inl (upd f4 (1 : Int32).toNatClampNeg (vp_nar .byte z7))))] H8 := hP
  have hD : va_D A [(x_tape, .inr (10, [.ref x_bytes, .int 1, .int 0, .int 0, .int 0, .int 0])), (x_bytes, .inl (kA 1, 400, .inl (upd f4 (1 : Int32).toNatClampNeg (vp_nar .byte z7))))] := hD
  generalize (upd f4 (1 : Int32).toNatClampNeg (vp_nar .byte z7)) = f9 at hP hD
  refine lv_aload_n hx hb dX10_put_30 rfl (lv_at hl 1 rfl) ?_
  refine lv_dup hx hb dX10_put_31 rfl ?_
  refine va_get (D := (dC, dI)) (ci := 10) (v := .int 1) (C := RX10) (T := TX10) (N := 6) hx hb hts uX10 hown hK hP 0 rfl rfl 1 (by decide) (hts _ lk_146) (fun _ h9 => h9) rfl dX10_put_32 ?_
  refine lv_iconst (v := 1) hx hb dX10_put_35 (by decide) ?_
  refine lv_iadd hx hb dX10_put_36 ?_
  refine lv_toc (y := 2) (by decide) ?_
  refine va_put (D := (dC, dI)) (ci := 10) (v := .int 2) (ty := .int) (C := RX10) (T := TX10) (N := 6) hx hb hts uX10 tyX10 tyX10_ok nmX10 hown hK hP hD hS 0 rfl rfl 1 (by decide) (hts _ lk_146) (fun _ h9 => h9) rfl (by decide +kernel) rfl rfl (Nat.le_of_ble_eq_true rfl) dX10_put_37 (fun H10 locs hP hD hS => ?_)
  have hP : va_P (dC, dI) vwCl [(x_tape, .inr (10, [.ref x_bytes, .int 2, .int 0, .int 0, .int 0, .int 0])), (x_bytes, .inl (kA 1, 400, .inl f9))] H10 := hP
  have hD : va_D A [(x_tape, .inr (10, [.ref x_bytes, .int 2, .int 0, .int 0, .int 0, .int 0])), (x_bytes, .inl (kA 1, 400, .inl f9))] := hD
  refine lv_iinc (v := 8) (lv' := [(2, .int 8), (0, .ref x_tape), (1, .int p0)]) hx hb dX10_put_40 hl (k := 0) rfl (by decide) (by decide) rfl (fun ls hl => ?_)
  refine lv_goto (tgt := 3) hx hb dX10_put_43 (by decide) ?_
  refine lv_iload_n hx hb dX10_put_3 rfl (lv_at hl 0 rfl) ?_
  refine lv_if_lt (tgt := 46) hx hb dX10_put_4 (by decide) (fun c5 => ?_) (fun c5 => ?_)
  · exact False.elim (by revert c5; decide)
  refine lv_aload_n hx hb dX10_put_7 rfl (lv_at hl 1 rfl) ?_
  refine va_get (D := (dC, dI)) (ci := 10) (v := .int 2) (C := RX10) (T := TX10) (N := 6) hx hb hts uX10 hown hK hP 0 rfl rfl 1 (by decide) (hts _ lk_146) (fun _ h9 => h9) rfl dX10_put_8 ?_
  refine lv_sipush (v := 400) hx hb dX10_put_11 (by decide) ?_
  refine lv_icmp_ge (tgt := 40) hx hb dX10_put_14 (by decide) (fun c6 => ?_) (fun c6 => ?_)
  · exact False.elim (by revert c6; decide)
  refine lv_aload_n hx hb dX10_put_17 rfl (lv_at hl 1 rfl) ?_
  refine va_get (D := (dC, dI)) (ci := 10) (v := .ref x_bytes) (C := RX10) (T := TX10) (N := 6) hx hb hts uX10 hown hK hP 0 rfl rfl 0 (by decide) (hts _ lk_145) (fun _ h9 => h9) rfl dX10_put_18 ?_
  refine lv_aload_n hx hb dX10_put_21 rfl (lv_at hl 1 rfl) ?_
  refine va_get (D := (dC, dI)) (ci := 10) (v := .int 2) (C := RX10) (T := TX10) (N := 6) hx hb hts uX10 hown hK hP 0 rfl rfl 1 (by decide) (hts _ lk_146) (fun _ h9 => h9) rfl dX10_put_22 ?_
  refine lv_iload_n hx hb dX10_put_25 rfl (lv_at hl 2 rfl) ?_
  refine lv_iload_n hx hb dX10_put_26 rfl (lv_at hl 0 rfl) ?_
  refine lv_iushr hx hb dX10_put_27 rfl ?_
  refine lv_topi (fun z11 ez11 => ?_)
  refine lv_i2b hx hb dX10_put_28 rfl ?_
  refine lv_topi (fun z12 ez12 => ?_)
  refine va_bast (D := (dC, dI)) hx hb hK hP hD hS 1 1 rfl rfl (vpi (by decide +kernel)) dX10_put_29 (fun H13 locs hP hD hS => ?_)
  have hP : va_P (dC, dI) vwCl [(x_tape, .inr (10, [.ref x_bytes, .int 2, .int 0, .int 0, .int 0, .int 0])), (x_bytes, .inl (kA 1, 400, .inl (upd f9 (2 : Int32).toNatClampNeg (vp_nar .byte z12))))] H13 := hP
  have hD : va_D A [(x_tape, .inr (10, [.ref x_bytes, .int 2, .int 0, .int 0, .int 0, .int 0])), (x_bytes, .inl (kA 1, 400, .inl (upd f9 (2 : Int32).toNatClampNeg (vp_nar .byte z12))))] := hD
  generalize (upd f9 (2 : Int32).toNatClampNeg (vp_nar .byte z12)) = f14 at hP hD
  refine lv_aload_n hx hb dX10_put_30 rfl (lv_at hl 1 rfl) ?_
  refine lv_dup hx hb dX10_put_31 rfl ?_
  refine va_get (D := (dC, dI)) (ci := 10) (v := .int 2) (C := RX10) (T := TX10) (N := 6) hx hb hts uX10 hown hK hP 0 rfl rfl 1 (by decide) (hts _ lk_146) (fun _ h9 => h9) rfl dX10_put_32 ?_
  refine lv_iconst (v := 1) hx hb dX10_put_35 (by decide) ?_
  refine lv_iadd hx hb dX10_put_36 ?_
  refine lv_toc (y := 3) (by decide) ?_
  refine va_put (D := (dC, dI)) (ci := 10) (v := .int 3) (ty := .int) (C := RX10) (T := TX10) (N := 6) hx hb hts uX10 tyX10 tyX10_ok nmX10 hown hK hP hD hS 0 rfl rfl 1 (by decide) (hts _ lk_146) (fun _ h9 => h9) rfl (by decide +kernel) rfl rfl (Nat.le_of_ble_eq_true rfl) dX10_put_37 (fun H15 locs hP hD hS => ?_)
  have hP : va_P (dC, dI) vwCl [(x_tape, .inr (10, [.ref x_bytes, .int 3, .int 0, .int 0, .int 0, .int 0])), (x_bytes, .inl (kA 1, 400, .inl f14))] H15 := hP
  have hD : va_D A [(x_tape, .inr (10, [.ref x_bytes, .int 3, .int 0, .int 0, .int 0, .int 0])), (x_bytes, .inl (kA 1, 400, .inl f14))] := hD
  refine lv_iinc (v := 0) (lv' := [(2, .int 0), (0, .ref x_tape), (1, .int p0)]) hx hb dX10_put_40 hl (k := 0) rfl (by decide) (by decide) rfl (fun ls hl => ?_)
  refine lv_goto (tgt := 3) hx hb dX10_put_43 (by decide) ?_
  refine lv_iload_n hx hb dX10_put_3 rfl (lv_at hl 0 rfl) ?_
  refine lv_if_lt (tgt := 46) hx hb dX10_put_4 (by decide) (fun c7 => ?_) (fun c7 => ?_)
  · exact False.elim (by revert c7; decide)
  refine lv_aload_n hx hb dX10_put_7 rfl (lv_at hl 1 rfl) ?_
  refine va_get (D := (dC, dI)) (ci := 10) (v := .int 3) (C := RX10) (T := TX10) (N := 6) hx hb hts uX10 hown hK hP 0 rfl rfl 1 (by decide) (hts _ lk_146) (fun _ h9 => h9) rfl dX10_put_8 ?_
  refine lv_sipush (v := 400) hx hb dX10_put_11 (by decide) ?_
  refine lv_icmp_ge (tgt := 40) hx hb dX10_put_14 (by decide) (fun c8 => ?_) (fun c8 => ?_)
  · exact False.elim (by revert c8; decide)
  refine lv_aload_n hx hb dX10_put_17 rfl (lv_at hl 1 rfl) ?_
  refine va_get (D := (dC, dI)) (ci := 10) (v := .ref x_bytes) (C := RX10) (T := TX10) (N := 6) hx hb hts uX10 hown hK hP 0 rfl rfl 0 (by decide) (hts _ lk_145) (fun _ h9 => h9) rfl dX10_put_18 ?_
  refine lv_aload_n hx hb dX10_put_21 rfl (lv_at hl 1 rfl) ?_
  refine va_get (D := (dC, dI)) (ci := 10) (v := .int 3) (C := RX10) (T := TX10) (N := 6) hx hb hts uX10 hown hK hP 0 rfl rfl 1 (by decide) (hts _ lk_146) (fun _ h9 => h9) rfl dX10_put_22 ?_
  refine lv_iload_n hx hb dX10_put_25 rfl (lv_at hl 2 rfl) ?_
  refine lv_iload_n hx hb dX10_put_26 rfl (lv_at hl 0 rfl) ?_
  refine lv_iushr hx hb dX10_put_27 rfl ?_
  refine lv_topi (fun z16 ez16 => ?_)
  refine lv_i2b hx hb dX10_put_28 rfl ?_
  refine lv_topi (fun z17 ez17 => ?_)
  refine va_bast (D := (dC, dI)) hx hb hK hP hD hS 1 1 rfl rfl (vpi (by decide +kernel)) dX10_put_29 (fun H18 locs hP hD hS => ?_)
  have hP : va_P (dC, dI) vwCl [(x_tape, .inr (10, [.ref x_bytes, .int 3, .int 0, .int 0, .int 0, .int 0])), (x_bytes, .inl (kA 1, 400, .inl (upd f14 (3 : Int32).toNatClampNeg (vp_nar .byte z17))))] H18 := hP
  have hD : va_D A [(x_tape, .inr (10, [.ref x_bytes, .int 3, .int 0, .int 0, .int 0, .int 0])), (x_bytes, .inl (kA 1, 400, .inl (upd f14 (3 : Int32).toNatClampNeg (vp_nar .byte z17))))] := hD
  generalize (upd f14 (3 : Int32).toNatClampNeg (vp_nar .byte z17)) = f19 at hP hD
  refine lv_aload_n hx hb dX10_put_30 rfl (lv_at hl 1 rfl) ?_
  refine lv_dup hx hb dX10_put_31 rfl ?_
  refine va_get (D := (dC, dI)) (ci := 10) (v := .int 3) (C := RX10) (T := TX10) (N := 6) hx hb hts uX10 hown hK hP 0 rfl rfl 1 (by decide) (hts _ lk_146) (fun _ h9 => h9) rfl dX10_put_32 ?_
  refine lv_iconst (v := 1) hx hb dX10_put_35 (by decide) ?_
  refine lv_iadd hx hb dX10_put_36 ?_
  refine lv_toc (y := 4) (by decide) ?_
  refine va_put (D := (dC, dI)) (ci := 10) (v := .int 4) (ty := .int) (C := RX10) (T := TX10) (N := 6) hx hb hts uX10 tyX10 tyX10_ok nmX10 hown hK hP hD hS 0 rfl rfl 1 (by decide) (hts _ lk_146) (fun _ h9 => h9) rfl (by decide +kernel) rfl rfl (Nat.le_of_ble_eq_true rfl) dX10_put_37 (fun H20 locs hP hD hS => ?_)
  have hP : va_P (dC, dI) vwCl [(x_tape, .inr (10, [.ref x_bytes, .int 4, .int 0, .int 0, .int 0, .int 0])), (x_bytes, .inl (kA 1, 400, .inl f19))] H20 := hP
  have hD : va_D A [(x_tape, .inr (10, [.ref x_bytes, .int 4, .int 0, .int 0, .int 0, .int 0])), (x_bytes, .inl (kA 1, 400, .inl f19))] := hD
  refine lv_iinc (v := (-8)) (lv' := [(2, .int (-8)), (0, .ref x_tape), (1, .int p0)]) hx hb dX10_put_40 hl (k := 0) rfl (by decide) (by decide) rfl (fun ls hl => ?_)
  refine lv_goto (tgt := 3) hx hb dX10_put_43 (by decide) ?_
  refine lv_iload_n hx hb dX10_put_3 rfl (lv_at hl 0 rfl) ?_
  refine lv_if_lt (tgt := 46) hx hb dX10_put_4 (by decide) (fun c9 => ?_) (fun c9 => ?_)
  rotate_left
  · exact False.elim (by revert c9; decide)
  refine W.widen (k := 0) (n := 0) (Nat.le_of_ble_eq_true rfl) (Nat.le_of_ble_eq_true rfl) ?_
  have hP9 := hP.sub (ws' := [(x_tape, .inr (10, [.ref x_bytes, .int 4, .int 0, .int 0, .int 0, .int 0])), (x_bytes, .inl (kA 1, 400, .inl f19))]) [0, 1] rfl
  have hD9 := hD.sub (ws' := [(x_tape, .inr (10, [.ref x_bytes, .int 4, .int 0, .int 0, .int 0, .int 0])), (x_bytes, .inl (kA 1, 400, .inl f19))]) [0, 1] (by decide) rfl
  exact rM_v hx hb hr hlocks hP9 hD9 hS ⟨f19, rfl⟩ dX10_put_46

set_option maxHeartbeats 4000000 in
set_option maxRecDepth 100000 in
theorem c_X10_put_4 (l : Launch) (dC : Nat → ClassId) (dI : Nat → Nat → Nat) (kA : Nat → ClassId) (sz : Nat) (x_tape : Nat) (x_bytes : Nat) (f0 : Nat → Int32) (p0 : Int32)  : Met l yX10_put (wsU yX10_put cX10_put 3 none) ({ frames := 0, cells := 0, slots := 0, locals := 0 }) (va_Pc [.ref x_tape, .int p0] (PW dC dI kA [(x_tape, .inr (10, [.ref x_bytes, .int 4, .int 0, .int 0, .int 0, .int 0])), (x_bytes, .inl (kA 1, 400, .inl f0))] sz)) (QU dC dI none (fun w => ∃ (f19 : Nat → Int32), w = [(x_tape, .inr (10, [.ref x_bytes, .int 8, .int 0, .int 0, .int 0, .int 0])), (x_bytes, .inl (kA 1, 400, .inl f19))]) (va_A [(x_tape, .inr (10, [.ref x_bytes, .int 4, .int 0, .int 0, .int 0, .int 0])), (x_bytes, .inl (kA 1, 400, .inl f0))] sz)) 0 0 (va_A [(x_tape, .inr (10, [.ref x_bytes, .int 4, .int 0, .int 0, .int 0, .int 0])), (x_bytes, .inl (kA 1, 400, .inl f0))] sz) := by
  refine met_M (own := RX10) (by decide) rfl (Nat.le_of_ble_eq_true rfl) ?_
  intro p e s m below meth c ls A hx hb hr hts hown hlocks hml hin hK hN hA hP hD hS hl
  have hl : lv_has ls 3 [(0, .ref x_tape), (1, .int p0)] := hl
  have hP : va_P (dC, dI) vwCl [(x_tape, .inr (10, [.ref x_bytes, .int 4, .int 0, .int 0, .int 0, .int 0])), (x_bytes, .inl (kA 1, 400, .inl f0))] s.heap := hP
  have hD : va_D A [(x_tape, .inr (10, [.ref x_bytes, .int 4, .int 0, .int 0, .int 0, .int 0])), (x_bytes, .inl (kA 1, 400, .inl f0))] := hD
  refine lv_bipush (v := 24) hx hb dX10_put_0 (by decide) ?_
  refine lv_istore_n (lv' := [(2, .int 24), (0, .ref x_tape), (1, .int p0)]) hx hb dX10_put_2 rfl hl (by decide) rfl (fun ls hl => ?_)
  refine lv_iload_n hx hb dX10_put_3 rfl (lv_at hl 0 rfl) ?_
  refine lv_if_lt (tgt := 46) hx hb dX10_put_4 (by decide) (fun c1 => ?_) (fun c1 => ?_)
  · exact False.elim (by revert c1; decide)
  refine lv_aload_n hx hb dX10_put_7 rfl (lv_at hl 1 rfl) ?_
  refine va_get (D := (dC, dI)) (ci := 10) (v := .int 4) (C := RX10) (T := TX10) (N := 6) hx hb hts uX10 hown hK hP 0 rfl rfl 1 (by decide) (hts _ lk_146) (fun _ h9 => h9) rfl dX10_put_8 ?_
  refine lv_sipush (v := 400) hx hb dX10_put_11 (by decide) ?_
  refine lv_icmp_ge (tgt := 40) hx hb dX10_put_14 (by decide) (fun c2 => ?_) (fun c2 => ?_)
  · exact False.elim (by revert c2; decide)
  refine lv_aload_n hx hb dX10_put_17 rfl (lv_at hl 1 rfl) ?_
  refine va_get (D := (dC, dI)) (ci := 10) (v := .ref x_bytes) (C := RX10) (T := TX10) (N := 6) hx hb hts uX10 hown hK hP 0 rfl rfl 0 (by decide) (hts _ lk_145) (fun _ h9 => h9) rfl dX10_put_18 ?_
  refine lv_aload_n hx hb dX10_put_21 rfl (lv_at hl 1 rfl) ?_
  refine va_get (D := (dC, dI)) (ci := 10) (v := .int 4) (C := RX10) (T := TX10) (N := 6) hx hb hts uX10 hown hK hP 0 rfl rfl 1 (by decide) (hts _ lk_146) (fun _ h9 => h9) rfl dX10_put_22 ?_
  refine lv_iload_n hx hb dX10_put_25 rfl (lv_at hl 2 rfl) ?_
  refine lv_iload_n hx hb dX10_put_26 rfl (lv_at hl 0 rfl) ?_
  refine lv_iushr hx hb dX10_put_27 rfl ?_
  refine lv_topi (fun z1 ez1 => ?_)
  refine lv_i2b hx hb dX10_put_28 rfl ?_
  refine lv_topi (fun z2 ez2 => ?_)
  refine va_bast (D := (dC, dI)) hx hb hK hP hD hS 1 1 rfl rfl (vpi (by decide +kernel)) dX10_put_29 (fun H3 locs hP hD hS => ?_)
  have hP : va_P (dC, dI) vwCl [(x_tape, .inr (10, [.ref x_bytes, .int 4, .int 0, .int 0, .int 0, .int 0])), (x_bytes, .inl (kA 1, 400, .inl (upd f0 (4 : Int32).toNatClampNeg (vp_nar .byte z2))))] H3 := hP
  have hD : va_D A [(x_tape, .inr (10, [.ref x_bytes, .int 4, .int 0, .int 0, .int 0, .int 0])), (x_bytes, .inl (kA 1, 400, .inl (upd f0 (4 : Int32).toNatClampNeg (vp_nar .byte z2))))] := hD
  generalize (upd f0 (4 : Int32).toNatClampNeg (vp_nar .byte z2)) = f4 at hP hD
  refine lv_aload_n hx hb dX10_put_30 rfl (lv_at hl 1 rfl) ?_
  refine lv_dup hx hb dX10_put_31 rfl ?_
  refine va_get (D := (dC, dI)) (ci := 10) (v := .int 4) (C := RX10) (T := TX10) (N := 6) hx hb hts uX10 hown hK hP 0 rfl rfl 1 (by decide) (hts _ lk_146) (fun _ h9 => h9) rfl dX10_put_32 ?_
  refine lv_iconst (v := 1) hx hb dX10_put_35 (by decide) ?_
  refine lv_iadd hx hb dX10_put_36 ?_
  refine lv_toc (y := 5) (by decide) ?_
  refine va_put (D := (dC, dI)) (ci := 10) (v := .int 5) (ty := .int) (C := RX10) (T := TX10) (N := 6) hx hb hts uX10 tyX10 tyX10_ok nmX10 hown hK hP hD hS 0 rfl rfl 1 (by decide) (hts _ lk_146) (fun _ h9 => h9) rfl (by decide +kernel) rfl rfl (Nat.le_of_ble_eq_true rfl) dX10_put_37 (fun H5 locs hP hD hS => ?_)
  have hP : va_P (dC, dI) vwCl [(x_tape, .inr (10, [.ref x_bytes, .int 5, .int 0, .int 0, .int 0, .int 0])), (x_bytes, .inl (kA 1, 400, .inl f4))] H5 := hP
  have hD : va_D A [(x_tape, .inr (10, [.ref x_bytes, .int 5, .int 0, .int 0, .int 0, .int 0])), (x_bytes, .inl (kA 1, 400, .inl f4))] := hD
  refine lv_iinc (v := 16) (lv' := [(2, .int 16), (0, .ref x_tape), (1, .int p0)]) hx hb dX10_put_40 hl (k := 0) rfl (by decide) (by decide) rfl (fun ls hl => ?_)
  refine lv_goto (tgt := 3) hx hb dX10_put_43 (by decide) ?_
  refine lv_iload_n hx hb dX10_put_3 rfl (lv_at hl 0 rfl) ?_
  refine lv_if_lt (tgt := 46) hx hb dX10_put_4 (by decide) (fun c3 => ?_) (fun c3 => ?_)
  · exact False.elim (by revert c3; decide)
  refine lv_aload_n hx hb dX10_put_7 rfl (lv_at hl 1 rfl) ?_
  refine va_get (D := (dC, dI)) (ci := 10) (v := .int 5) (C := RX10) (T := TX10) (N := 6) hx hb hts uX10 hown hK hP 0 rfl rfl 1 (by decide) (hts _ lk_146) (fun _ h9 => h9) rfl dX10_put_8 ?_
  refine lv_sipush (v := 400) hx hb dX10_put_11 (by decide) ?_
  refine lv_icmp_ge (tgt := 40) hx hb dX10_put_14 (by decide) (fun c4 => ?_) (fun c4 => ?_)
  · exact False.elim (by revert c4; decide)
  refine lv_aload_n hx hb dX10_put_17 rfl (lv_at hl 1 rfl) ?_
  refine va_get (D := (dC, dI)) (ci := 10) (v := .ref x_bytes) (C := RX10) (T := TX10) (N := 6) hx hb hts uX10 hown hK hP 0 rfl rfl 0 (by decide) (hts _ lk_145) (fun _ h9 => h9) rfl dX10_put_18 ?_
  refine lv_aload_n hx hb dX10_put_21 rfl (lv_at hl 1 rfl) ?_
  refine va_get (D := (dC, dI)) (ci := 10) (v := .int 5) (C := RX10) (T := TX10) (N := 6) hx hb hts uX10 hown hK hP 0 rfl rfl 1 (by decide) (hts _ lk_146) (fun _ h9 => h9) rfl dX10_put_22 ?_
  refine lv_iload_n hx hb dX10_put_25 rfl (lv_at hl 2 rfl) ?_
  refine lv_iload_n hx hb dX10_put_26 rfl (lv_at hl 0 rfl) ?_
  refine lv_iushr hx hb dX10_put_27 rfl ?_
  refine lv_topi (fun z6 ez6 => ?_)
  refine lv_i2b hx hb dX10_put_28 rfl ?_
  refine lv_topi (fun z7 ez7 => ?_)
  refine va_bast (D := (dC, dI)) hx hb hK hP hD hS 1 1 rfl rfl (vpi (by decide +kernel)) dX10_put_29 (fun H8 locs hP hD hS => ?_)
  have hP : va_P (dC, dI) vwCl [(x_tape, .inr (10, [.ref x_bytes, .int 5, .int 0, .int 0, .int 0, .int 0])), (x_bytes, .inl (kA 1, 400, .inl (upd f4 (5 : Int32).toNatClampNeg (vp_nar .byte z7))))] H8 := hP
  have hD : va_D A [(x_tape, .inr (10, [.ref x_bytes, .int 5, .int 0, .int 0, .int 0, .int 0])), (x_bytes, .inl (kA 1, 400, .inl (upd f4 (5 : Int32).toNatClampNeg (vp_nar .byte z7))))] := hD
  generalize (upd f4 (5 : Int32).toNatClampNeg (vp_nar .byte z7)) = f9 at hP hD
  refine lv_aload_n hx hb dX10_put_30 rfl (lv_at hl 1 rfl) ?_
  refine lv_dup hx hb dX10_put_31 rfl ?_
  refine va_get (D := (dC, dI)) (ci := 10) (v := .int 5) (C := RX10) (T := TX10) (N := 6) hx hb hts uX10 hown hK hP 0 rfl rfl 1 (by decide) (hts _ lk_146) (fun _ h9 => h9) rfl dX10_put_32 ?_
  refine lv_iconst (v := 1) hx hb dX10_put_35 (by decide) ?_
  refine lv_iadd hx hb dX10_put_36 ?_
  refine lv_toc (y := 6) (by decide) ?_
  refine va_put (D := (dC, dI)) (ci := 10) (v := .int 6) (ty := .int) (C := RX10) (T := TX10) (N := 6) hx hb hts uX10 tyX10 tyX10_ok nmX10 hown hK hP hD hS 0 rfl rfl 1 (by decide) (hts _ lk_146) (fun _ h9 => h9) rfl (by decide +kernel) rfl rfl (Nat.le_of_ble_eq_true rfl) dX10_put_37 (fun H10 locs hP hD hS => ?_)
  have hP : va_P (dC, dI) vwCl [(x_tape, .inr (10, [.ref x_bytes, .int 6, .int 0, .int 0, .int 0, .int 0])), (x_bytes, .inl (kA 1, 400, .inl f9))] H10 := hP
  have hD : va_D A [(x_tape, .inr (10, [.ref x_bytes, .int 6, .int 0, .int 0, .int 0, .int 0])), (x_bytes, .inl (kA 1, 400, .inl f9))] := hD
  refine lv_iinc (v := 8) (lv' := [(2, .int 8), (0, .ref x_tape), (1, .int p0)]) hx hb dX10_put_40 hl (k := 0) rfl (by decide) (by decide) rfl (fun ls hl => ?_)
  refine lv_goto (tgt := 3) hx hb dX10_put_43 (by decide) ?_
  refine lv_iload_n hx hb dX10_put_3 rfl (lv_at hl 0 rfl) ?_
  refine lv_if_lt (tgt := 46) hx hb dX10_put_4 (by decide) (fun c5 => ?_) (fun c5 => ?_)
  · exact False.elim (by revert c5; decide)
  refine lv_aload_n hx hb dX10_put_7 rfl (lv_at hl 1 rfl) ?_
  refine va_get (D := (dC, dI)) (ci := 10) (v := .int 6) (C := RX10) (T := TX10) (N := 6) hx hb hts uX10 hown hK hP 0 rfl rfl 1 (by decide) (hts _ lk_146) (fun _ h9 => h9) rfl dX10_put_8 ?_
  refine lv_sipush (v := 400) hx hb dX10_put_11 (by decide) ?_
  refine lv_icmp_ge (tgt := 40) hx hb dX10_put_14 (by decide) (fun c6 => ?_) (fun c6 => ?_)
  · exact False.elim (by revert c6; decide)
  refine lv_aload_n hx hb dX10_put_17 rfl (lv_at hl 1 rfl) ?_
  refine va_get (D := (dC, dI)) (ci := 10) (v := .ref x_bytes) (C := RX10) (T := TX10) (N := 6) hx hb hts uX10 hown hK hP 0 rfl rfl 0 (by decide) (hts _ lk_145) (fun _ h9 => h9) rfl dX10_put_18 ?_
  refine lv_aload_n hx hb dX10_put_21 rfl (lv_at hl 1 rfl) ?_
  refine va_get (D := (dC, dI)) (ci := 10) (v := .int 6) (C := RX10) (T := TX10) (N := 6) hx hb hts uX10 hown hK hP 0 rfl rfl 1 (by decide) (hts _ lk_146) (fun _ h9 => h9) rfl dX10_put_22 ?_
  refine lv_iload_n hx hb dX10_put_25 rfl (lv_at hl 2 rfl) ?_
  refine lv_iload_n hx hb dX10_put_26 rfl (lv_at hl 0 rfl) ?_
  refine lv_iushr hx hb dX10_put_27 rfl ?_
  refine lv_topi (fun z11 ez11 => ?_)
  refine lv_i2b hx hb dX10_put_28 rfl ?_
  refine lv_topi (fun z12 ez12 => ?_)
  refine va_bast (D := (dC, dI)) hx hb hK hP hD hS 1 1 rfl rfl (vpi (by decide +kernel)) dX10_put_29 (fun H13 locs hP hD hS => ?_)
  have hP : va_P (dC, dI) vwCl [(x_tape, .inr (10, [.ref x_bytes, .int 6, .int 0, .int 0, .int 0, .int 0])), (x_bytes, .inl (kA 1, 400, .inl (upd f9 (6 : Int32).toNatClampNeg (vp_nar .byte z12))))] H13 := hP
  have hD : va_D A [(x_tape, .inr (10, [.ref x_bytes, .int 6, .int 0, .int 0, .int 0, .int 0])), (x_bytes, .inl (kA 1, 400, .inl (upd f9 (6 : Int32).toNatClampNeg (vp_nar .byte z12))))] := hD
  generalize (upd f9 (6 : Int32).toNatClampNeg (vp_nar .byte z12)) = f14 at hP hD
  refine lv_aload_n hx hb dX10_put_30 rfl (lv_at hl 1 rfl) ?_
  refine lv_dup hx hb dX10_put_31 rfl ?_
  refine va_get (D := (dC, dI)) (ci := 10) (v := .int 6) (C := RX10) (T := TX10) (N := 6) hx hb hts uX10 hown hK hP 0 rfl rfl 1 (by decide) (hts _ lk_146) (fun _ h9 => h9) rfl dX10_put_32 ?_
  refine lv_iconst (v := 1) hx hb dX10_put_35 (by decide) ?_
  refine lv_iadd hx hb dX10_put_36 ?_
  refine lv_toc (y := 7) (by decide) ?_
  refine va_put (D := (dC, dI)) (ci := 10) (v := .int 7) (ty := .int) (C := RX10) (T := TX10) (N := 6) hx hb hts uX10 tyX10 tyX10_ok nmX10 hown hK hP hD hS 0 rfl rfl 1 (by decide) (hts _ lk_146) (fun _ h9 => h9) rfl (by decide +kernel) rfl rfl (Nat.le_of_ble_eq_true rfl) dX10_put_37 (fun H15 locs hP hD hS => ?_)
  have hP : va_P (dC, dI) vwCl [(x_tape, .inr (10, [.ref x_bytes, .int 7, .int 0, .int 0, .int 0, .int 0])), (x_bytes, .inl (kA 1, 400, .inl f14))] H15 := hP
  have hD : va_D A [(x_tape, .inr (10, [.ref x_bytes, .int 7, .int 0, .int 0, .int 0, .int 0])), (x_bytes, .inl (kA 1, 400, .inl f14))] := hD
  refine lv_iinc (v := 0) (lv' := [(2, .int 0), (0, .ref x_tape), (1, .int p0)]) hx hb dX10_put_40 hl (k := 0) rfl (by decide) (by decide) rfl (fun ls hl => ?_)
  refine lv_goto (tgt := 3) hx hb dX10_put_43 (by decide) ?_
  refine lv_iload_n hx hb dX10_put_3 rfl (lv_at hl 0 rfl) ?_
  refine lv_if_lt (tgt := 46) hx hb dX10_put_4 (by decide) (fun c7 => ?_) (fun c7 => ?_)
  · exact False.elim (by revert c7; decide)
  refine lv_aload_n hx hb dX10_put_7 rfl (lv_at hl 1 rfl) ?_
  refine va_get (D := (dC, dI)) (ci := 10) (v := .int 7) (C := RX10) (T := TX10) (N := 6) hx hb hts uX10 hown hK hP 0 rfl rfl 1 (by decide) (hts _ lk_146) (fun _ h9 => h9) rfl dX10_put_8 ?_
  refine lv_sipush (v := 400) hx hb dX10_put_11 (by decide) ?_
  refine lv_icmp_ge (tgt := 40) hx hb dX10_put_14 (by decide) (fun c8 => ?_) (fun c8 => ?_)
  · exact False.elim (by revert c8; decide)
  refine lv_aload_n hx hb dX10_put_17 rfl (lv_at hl 1 rfl) ?_
  refine va_get (D := (dC, dI)) (ci := 10) (v := .ref x_bytes) (C := RX10) (T := TX10) (N := 6) hx hb hts uX10 hown hK hP 0 rfl rfl 0 (by decide) (hts _ lk_145) (fun _ h9 => h9) rfl dX10_put_18 ?_
  refine lv_aload_n hx hb dX10_put_21 rfl (lv_at hl 1 rfl) ?_
  refine va_get (D := (dC, dI)) (ci := 10) (v := .int 7) (C := RX10) (T := TX10) (N := 6) hx hb hts uX10 hown hK hP 0 rfl rfl 1 (by decide) (hts _ lk_146) (fun _ h9 => h9) rfl dX10_put_22 ?_
  refine lv_iload_n hx hb dX10_put_25 rfl (lv_at hl 2 rfl) ?_
  refine lv_iload_n hx hb dX10_put_26 rfl (lv_at hl 0 rfl) ?_
  refine lv_iushr hx hb dX10_put_27 rfl ?_
  refine lv_topi (fun z16 ez16 => ?_)
  refine lv_i2b hx hb dX10_put_28 rfl ?_
  refine lv_topi (fun z17 ez17 => ?_)
  refine va_bast (D := (dC, dI)) hx hb hK hP hD hS 1 1 rfl rfl (vpi (by decide +kernel)) dX10_put_29 (fun H18 locs hP hD hS => ?_)
  have hP : va_P (dC, dI) vwCl [(x_tape, .inr (10, [.ref x_bytes, .int 7, .int 0, .int 0, .int 0, .int 0])), (x_bytes, .inl (kA 1, 400, .inl (upd f14 (7 : Int32).toNatClampNeg (vp_nar .byte z17))))] H18 := hP
  have hD : va_D A [(x_tape, .inr (10, [.ref x_bytes, .int 7, .int 0, .int 0, .int 0, .int 0])), (x_bytes, .inl (kA 1, 400, .inl (upd f14 (7 : Int32).toNatClampNeg (vp_nar .byte z17))))] := hD
  generalize (upd f14 (7 : Int32).toNatClampNeg (vp_nar .byte z17)) = f19 at hP hD
  refine lv_aload_n hx hb dX10_put_30 rfl (lv_at hl 1 rfl) ?_
  refine lv_dup hx hb dX10_put_31 rfl ?_
  refine va_get (D := (dC, dI)) (ci := 10) (v := .int 7) (C := RX10) (T := TX10) (N := 6) hx hb hts uX10 hown hK hP 0 rfl rfl 1 (by decide) (hts _ lk_146) (fun _ h9 => h9) rfl dX10_put_32 ?_
  refine lv_iconst (v := 1) hx hb dX10_put_35 (by decide) ?_
  refine lv_iadd hx hb dX10_put_36 ?_
  refine lv_toc (y := 8) (by decide) ?_
  refine va_put (D := (dC, dI)) (ci := 10) (v := .int 8) (ty := .int) (C := RX10) (T := TX10) (N := 6) hx hb hts uX10 tyX10 tyX10_ok nmX10 hown hK hP hD hS 0 rfl rfl 1 (by decide) (hts _ lk_146) (fun _ h9 => h9) rfl (by decide +kernel) rfl rfl (Nat.le_of_ble_eq_true rfl) dX10_put_37 (fun H20 locs hP hD hS => ?_)
  have hP : va_P (dC, dI) vwCl [(x_tape, .inr (10, [.ref x_bytes, .int 8, .int 0, .int 0, .int 0, .int 0])), (x_bytes, .inl (kA 1, 400, .inl f19))] H20 := hP
  have hD : va_D A [(x_tape, .inr (10, [.ref x_bytes, .int 8, .int 0, .int 0, .int 0, .int 0])), (x_bytes, .inl (kA 1, 400, .inl f19))] := hD
  refine lv_iinc (v := (-8)) (lv' := [(2, .int (-8)), (0, .ref x_tape), (1, .int p0)]) hx hb dX10_put_40 hl (k := 0) rfl (by decide) (by decide) rfl (fun ls hl => ?_)
  refine lv_goto (tgt := 3) hx hb dX10_put_43 (by decide) ?_
  refine lv_iload_n hx hb dX10_put_3 rfl (lv_at hl 0 rfl) ?_
  refine lv_if_lt (tgt := 46) hx hb dX10_put_4 (by decide) (fun c9 => ?_) (fun c9 => ?_)
  rotate_left
  · exact False.elim (by revert c9; decide)
  refine W.widen (k := 0) (n := 0) (Nat.le_of_ble_eq_true rfl) (Nat.le_of_ble_eq_true rfl) ?_
  have hP9 := hP.sub (ws' := [(x_tape, .inr (10, [.ref x_bytes, .int 8, .int 0, .int 0, .int 0, .int 0])), (x_bytes, .inl (kA 1, 400, .inl f19))]) [0, 1] rfl
  have hD9 := hD.sub (ws' := [(x_tape, .inr (10, [.ref x_bytes, .int 8, .int 0, .int 0, .int 0, .int 0])), (x_bytes, .inl (kA 1, 400, .inl f19))]) [0, 1] (by decide) rfl
  exact rM_v hx hb hr hlocks hP9 hD9 hS ⟨f19, rfl⟩ dX10_put_46

set_option maxHeartbeats 4000000 in
set_option maxRecDepth 100000 in
theorem c_X10_put_8 (l : Launch) (dC : Nat → ClassId) (dI : Nat → Nat → Nat) (kA : Nat → ClassId) (sz : Nat) (x_tape : Nat) (x_bytes : Nat) (f0 : Nat → Int32) (p0 : Int32)  : Met l yX10_put (wsU yX10_put cX10_put 3 none) ({ frames := 0, cells := 0, slots := 0, locals := 0 }) (va_Pc [.ref x_tape, .int p0] (PW dC dI kA [(x_tape, .inr (10, [.ref x_bytes, .int 8, .int 0, .int 0, .int 0, .int 0])), (x_bytes, .inl (kA 1, 400, .inl f0))] sz)) (QU dC dI none (fun w => ∃ (f19 : Nat → Int32), w = [(x_tape, .inr (10, [.ref x_bytes, .int 12, .int 0, .int 0, .int 0, .int 0])), (x_bytes, .inl (kA 1, 400, .inl f19))]) (va_A [(x_tape, .inr (10, [.ref x_bytes, .int 8, .int 0, .int 0, .int 0, .int 0])), (x_bytes, .inl (kA 1, 400, .inl f0))] sz)) 0 0 (va_A [(x_tape, .inr (10, [.ref x_bytes, .int 8, .int 0, .int 0, .int 0, .int 0])), (x_bytes, .inl (kA 1, 400, .inl f0))] sz) := by
  refine met_M (own := RX10) (by decide) rfl (Nat.le_of_ble_eq_true rfl) ?_
  intro p e s m below meth c ls A hx hb hr hts hown hlocks hml hin hK hN hA hP hD hS hl
  have hl : lv_has ls 3 [(0, .ref x_tape), (1, .int p0)] := hl
  have hP : va_P (dC, dI) vwCl [(x_tape, .inr (10, [.ref x_bytes, .int 8, .int 0, .int 0, .int 0, .int 0])), (x_bytes, .inl (kA 1, 400, .inl f0))] s.heap := hP
  have hD : va_D A [(x_tape, .inr (10, [.ref x_bytes, .int 8, .int 0, .int 0, .int 0, .int 0])), (x_bytes, .inl (kA 1, 400, .inl f0))] := hD
  refine lv_bipush (v := 24) hx hb dX10_put_0 (by decide) ?_
  refine lv_istore_n (lv' := [(2, .int 24), (0, .ref x_tape), (1, .int p0)]) hx hb dX10_put_2 rfl hl (by decide) rfl (fun ls hl => ?_)
  refine lv_iload_n hx hb dX10_put_3 rfl (lv_at hl 0 rfl) ?_
  refine lv_if_lt (tgt := 46) hx hb dX10_put_4 (by decide) (fun c1 => ?_) (fun c1 => ?_)
  · exact False.elim (by revert c1; decide)
  refine lv_aload_n hx hb dX10_put_7 rfl (lv_at hl 1 rfl) ?_
  refine va_get (D := (dC, dI)) (ci := 10) (v := .int 8) (C := RX10) (T := TX10) (N := 6) hx hb hts uX10 hown hK hP 0 rfl rfl 1 (by decide) (hts _ lk_146) (fun _ h9 => h9) rfl dX10_put_8 ?_
  refine lv_sipush (v := 400) hx hb dX10_put_11 (by decide) ?_
  refine lv_icmp_ge (tgt := 40) hx hb dX10_put_14 (by decide) (fun c2 => ?_) (fun c2 => ?_)
  · exact False.elim (by revert c2; decide)
  refine lv_aload_n hx hb dX10_put_17 rfl (lv_at hl 1 rfl) ?_
  refine va_get (D := (dC, dI)) (ci := 10) (v := .ref x_bytes) (C := RX10) (T := TX10) (N := 6) hx hb hts uX10 hown hK hP 0 rfl rfl 0 (by decide) (hts _ lk_145) (fun _ h9 => h9) rfl dX10_put_18 ?_
  refine lv_aload_n hx hb dX10_put_21 rfl (lv_at hl 1 rfl) ?_
  refine va_get (D := (dC, dI)) (ci := 10) (v := .int 8) (C := RX10) (T := TX10) (N := 6) hx hb hts uX10 hown hK hP 0 rfl rfl 1 (by decide) (hts _ lk_146) (fun _ h9 => h9) rfl dX10_put_22 ?_
  refine lv_iload_n hx hb dX10_put_25 rfl (lv_at hl 2 rfl) ?_
  refine lv_iload_n hx hb dX10_put_26 rfl (lv_at hl 0 rfl) ?_
  refine lv_iushr hx hb dX10_put_27 rfl ?_
  refine lv_topi (fun z1 ez1 => ?_)
  refine lv_i2b hx hb dX10_put_28 rfl ?_
  refine lv_topi (fun z2 ez2 => ?_)
  refine va_bast (D := (dC, dI)) hx hb hK hP hD hS 1 1 rfl rfl (vpi (by decide +kernel)) dX10_put_29 (fun H3 locs hP hD hS => ?_)
  have hP : va_P (dC, dI) vwCl [(x_tape, .inr (10, [.ref x_bytes, .int 8, .int 0, .int 0, .int 0, .int 0])), (x_bytes, .inl (kA 1, 400, .inl (upd f0 (8 : Int32).toNatClampNeg (vp_nar .byte z2))))] H3 := hP
  have hD : va_D A [(x_tape, .inr (10, [.ref x_bytes, .int 8, .int 0, .int 0, .int 0, .int 0])), (x_bytes, .inl (kA 1, 400, .inl (upd f0 (8 : Int32).toNatClampNeg (vp_nar .byte z2))))] := hD
  generalize (upd f0 (8 : Int32).toNatClampNeg (vp_nar .byte z2)) = f4 at hP hD
  refine lv_aload_n hx hb dX10_put_30 rfl (lv_at hl 1 rfl) ?_
  refine lv_dup hx hb dX10_put_31 rfl ?_
  refine va_get (D := (dC, dI)) (ci := 10) (v := .int 8) (C := RX10) (T := TX10) (N := 6) hx hb hts uX10 hown hK hP 0 rfl rfl 1 (by decide) (hts _ lk_146) (fun _ h9 => h9) rfl dX10_put_32 ?_
  refine lv_iconst (v := 1) hx hb dX10_put_35 (by decide) ?_
  refine lv_iadd hx hb dX10_put_36 ?_
  refine lv_toc (y := 9) (by decide) ?_
  refine va_put (D := (dC, dI)) (ci := 10) (v := .int 9) (ty := .int) (C := RX10) (T := TX10) (N := 6) hx hb hts uX10 tyX10 tyX10_ok nmX10 hown hK hP hD hS 0 rfl rfl 1 (by decide) (hts _ lk_146) (fun _ h9 => h9) rfl (by decide +kernel) rfl rfl (Nat.le_of_ble_eq_true rfl) dX10_put_37 (fun H5 locs hP hD hS => ?_)
  have hP : va_P (dC, dI) vwCl [(x_tape, .inr (10, [.ref x_bytes, .int 9, .int 0, .int 0, .int 0, .int 0])), (x_bytes, .inl (kA 1, 400, .inl f4))] H5 := hP
  have hD : va_D A [(x_tape, .inr (10, [.ref x_bytes, .int 9, .int 0, .int 0, .int 0, .int 0])), (x_bytes, .inl (kA 1, 400, .inl f4))] := hD
  refine lv_iinc (v := 16) (lv' := [(2, .int 16), (0, .ref x_tape), (1, .int p0)]) hx hb dX10_put_40 hl (k := 0) rfl (by decide) (by decide) rfl (fun ls hl => ?_)
  refine lv_goto (tgt := 3) hx hb dX10_put_43 (by decide) ?_
  refine lv_iload_n hx hb dX10_put_3 rfl (lv_at hl 0 rfl) ?_
  refine lv_if_lt (tgt := 46) hx hb dX10_put_4 (by decide) (fun c3 => ?_) (fun c3 => ?_)
  · exact False.elim (by revert c3; decide)
  refine lv_aload_n hx hb dX10_put_7 rfl (lv_at hl 1 rfl) ?_
  refine va_get (D := (dC, dI)) (ci := 10) (v := .int 9) (C := RX10) (T := TX10) (N := 6) hx hb hts uX10 hown hK hP 0 rfl rfl 1 (by decide) (hts _ lk_146) (fun _ h9 => h9) rfl dX10_put_8 ?_
  refine lv_sipush (v := 400) hx hb dX10_put_11 (by decide) ?_
  refine lv_icmp_ge (tgt := 40) hx hb dX10_put_14 (by decide) (fun c4 => ?_) (fun c4 => ?_)
  · exact False.elim (by revert c4; decide)
  refine lv_aload_n hx hb dX10_put_17 rfl (lv_at hl 1 rfl) ?_
  refine va_get (D := (dC, dI)) (ci := 10) (v := .ref x_bytes) (C := RX10) (T := TX10) (N := 6) hx hb hts uX10 hown hK hP 0 rfl rfl 0 (by decide) (hts _ lk_145) (fun _ h9 => h9) rfl dX10_put_18 ?_
  refine lv_aload_n hx hb dX10_put_21 rfl (lv_at hl 1 rfl) ?_
  refine va_get (D := (dC, dI)) (ci := 10) (v := .int 9) (C := RX10) (T := TX10) (N := 6) hx hb hts uX10 hown hK hP 0 rfl rfl 1 (by decide) (hts _ lk_146) (fun _ h9 => h9) rfl dX10_put_22 ?_
  refine lv_iload_n hx hb dX10_put_25 rfl (lv_at hl 2 rfl) ?_
  refine lv_iload_n hx hb dX10_put_26 rfl (lv_at hl 0 rfl) ?_
  refine lv_iushr hx hb dX10_put_27 rfl ?_
  refine lv_topi (fun z6 ez6 => ?_)
  refine lv_i2b hx hb dX10_put_28 rfl ?_
  refine lv_topi (fun z7 ez7 => ?_)
  refine va_bast (D := (dC, dI)) hx hb hK hP hD hS 1 1 rfl rfl (vpi (by decide +kernel)) dX10_put_29 (fun H8 locs hP hD hS => ?_)
  have hP : va_P (dC, dI) vwCl [(x_tape, .inr (10, [.ref x_bytes, .int 9, .int 0, .int 0, .int 0, .int 0])), (x_bytes, .inl (kA 1, 400, .inl (upd f4 (9 : Int32).toNatClampNeg (vp_nar .byte z7))))] H8 := hP
  have hD : va_D A [(x_tape, .inr (10, [.ref x_bytes, .int 9, .int 0, .int 0, .int 0, .int 0])), (x_bytes, .inl (kA 1, 400, .inl (upd f4 (9 : Int32).toNatClampNeg (vp_nar .byte z7))))] := hD
  generalize (upd f4 (9 : Int32).toNatClampNeg (vp_nar .byte z7)) = f9 at hP hD
  refine lv_aload_n hx hb dX10_put_30 rfl (lv_at hl 1 rfl) ?_
  refine lv_dup hx hb dX10_put_31 rfl ?_
  refine va_get (D := (dC, dI)) (ci := 10) (v := .int 9) (C := RX10) (T := TX10) (N := 6) hx hb hts uX10 hown hK hP 0 rfl rfl 1 (by decide) (hts _ lk_146) (fun _ h9 => h9) rfl dX10_put_32 ?_
  refine lv_iconst (v := 1) hx hb dX10_put_35 (by decide) ?_
  refine lv_iadd hx hb dX10_put_36 ?_
  refine lv_toc (y := 10) (by decide) ?_
  refine va_put (D := (dC, dI)) (ci := 10) (v := .int 10) (ty := .int) (C := RX10) (T := TX10) (N := 6) hx hb hts uX10 tyX10 tyX10_ok nmX10 hown hK hP hD hS 0 rfl rfl 1 (by decide) (hts _ lk_146) (fun _ h9 => h9) rfl (by decide +kernel) rfl rfl (Nat.le_of_ble_eq_true rfl) dX10_put_37 (fun H10 locs hP hD hS => ?_)
  have hP : va_P (dC, dI) vwCl [(x_tape, .inr (10, [.ref x_bytes, .int 10, .int 0, .int 0, .int 0, .int 0])), (x_bytes, .inl (kA 1, 400, .inl f9))] H10 := hP
  have hD : va_D A [(x_tape, .inr (10, [.ref x_bytes, .int 10, .int 0, .int 0, .int 0, .int 0])), (x_bytes, .inl (kA 1, 400, .inl f9))] := hD
  refine lv_iinc (v := 8) (lv' := [(2, .int 8), (0, .ref x_tape), (1, .int p0)]) hx hb dX10_put_40 hl (k := 0) rfl (by decide) (by decide) rfl (fun ls hl => ?_)
  refine lv_goto (tgt := 3) hx hb dX10_put_43 (by decide) ?_
  refine lv_iload_n hx hb dX10_put_3 rfl (lv_at hl 0 rfl) ?_
  refine lv_if_lt (tgt := 46) hx hb dX10_put_4 (by decide) (fun c5 => ?_) (fun c5 => ?_)
  · exact False.elim (by revert c5; decide)
  refine lv_aload_n hx hb dX10_put_7 rfl (lv_at hl 1 rfl) ?_
  refine va_get (D := (dC, dI)) (ci := 10) (v := .int 10) (C := RX10) (T := TX10) (N := 6) hx hb hts uX10 hown hK hP 0 rfl rfl 1 (by decide) (hts _ lk_146) (fun _ h9 => h9) rfl dX10_put_8 ?_
  refine lv_sipush (v := 400) hx hb dX10_put_11 (by decide) ?_
  refine lv_icmp_ge (tgt := 40) hx hb dX10_put_14 (by decide) (fun c6 => ?_) (fun c6 => ?_)
  · exact False.elim (by revert c6; decide)
  refine lv_aload_n hx hb dX10_put_17 rfl (lv_at hl 1 rfl) ?_
  refine va_get (D := (dC, dI)) (ci := 10) (v := .ref x_bytes) (C := RX10) (T := TX10) (N := 6) hx hb hts uX10 hown hK hP 0 rfl rfl 0 (by decide) (hts _ lk_145) (fun _ h9 => h9) rfl dX10_put_18 ?_
  refine lv_aload_n hx hb dX10_put_21 rfl (lv_at hl 1 rfl) ?_
  refine va_get (D := (dC, dI)) (ci := 10) (v := .int 10) (C := RX10) (T := TX10) (N := 6) hx hb hts uX10 hown hK hP 0 rfl rfl 1 (by decide) (hts _ lk_146) (fun _ h9 => h9) rfl dX10_put_22 ?_
  refine lv_iload_n hx hb dX10_put_25 rfl (lv_at hl 2 rfl) ?_
  refine lv_iload_n hx hb dX10_put_26 rfl (lv_at hl 0 rfl) ?_
  refine lv_iushr hx hb dX10_put_27 rfl ?_
  refine lv_topi (fun z11 ez11 => ?_)
  refine lv_i2b hx hb dX10_put_28 rfl ?_
  refine lv_topi (fun z12 ez12 => ?_)
  refine va_bast (D := (dC, dI)) hx hb hK hP hD hS 1 1 rfl rfl (vpi (by decide +kernel)) dX10_put_29 (fun H13 locs hP hD hS => ?_)
  have hP : va_P (dC, dI) vwCl [(x_tape, .inr (10, [.ref x_bytes, .int 10, .int 0, .int 0, .int 0, .int 0])), (x_bytes, .inl (kA 1, 400, .inl (upd f9 (10 : Int32).toNatClampNeg (vp_nar .byte z12))))] H13 := hP
  have hD : va_D A [(x_tape, .inr (10, [.ref x_bytes, .int 10, .int 0, .int 0, .int 0, .int 0])), (x_bytes, .inl (kA 1, 400, .inl (upd f9 (10 : Int32).toNatClampNeg (vp_nar .byte z12))))] := hD
  generalize (upd f9 (10 : Int32).toNatClampNeg (vp_nar .byte z12)) = f14 at hP hD
  refine lv_aload_n hx hb dX10_put_30 rfl (lv_at hl 1 rfl) ?_
  refine lv_dup hx hb dX10_put_31 rfl ?_
  refine va_get (D := (dC, dI)) (ci := 10) (v := .int 10) (C := RX10) (T := TX10) (N := 6) hx hb hts uX10 hown hK hP 0 rfl rfl 1 (by decide) (hts _ lk_146) (fun _ h9 => h9) rfl dX10_put_32 ?_
  refine lv_iconst (v := 1) hx hb dX10_put_35 (by decide) ?_
  refine lv_iadd hx hb dX10_put_36 ?_
  refine lv_toc (y := 11) (by decide) ?_
  refine va_put (D := (dC, dI)) (ci := 10) (v := .int 11) (ty := .int) (C := RX10) (T := TX10) (N := 6) hx hb hts uX10 tyX10 tyX10_ok nmX10 hown hK hP hD hS 0 rfl rfl 1 (by decide) (hts _ lk_146) (fun _ h9 => h9) rfl (by decide +kernel) rfl rfl (Nat.le_of_ble_eq_true rfl) dX10_put_37 (fun H15 locs hP hD hS => ?_)
  have hP : va_P (dC, dI) vwCl [(x_tape, .inr (10, [.ref x_bytes, .int 11, .int 0, .int 0, .int 0, .int 0])), (x_bytes, .inl (kA 1, 400, .inl f14))] H15 := hP
  have hD : va_D A [(x_tape, .inr (10, [.ref x_bytes, .int 11, .int 0, .int 0, .int 0, .int 0])), (x_bytes, .inl (kA 1, 400, .inl f14))] := hD
  refine lv_iinc (v := 0) (lv' := [(2, .int 0), (0, .ref x_tape), (1, .int p0)]) hx hb dX10_put_40 hl (k := 0) rfl (by decide) (by decide) rfl (fun ls hl => ?_)
  refine lv_goto (tgt := 3) hx hb dX10_put_43 (by decide) ?_
  refine lv_iload_n hx hb dX10_put_3 rfl (lv_at hl 0 rfl) ?_
  refine lv_if_lt (tgt := 46) hx hb dX10_put_4 (by decide) (fun c7 => ?_) (fun c7 => ?_)
  · exact False.elim (by revert c7; decide)
  refine lv_aload_n hx hb dX10_put_7 rfl (lv_at hl 1 rfl) ?_
  refine va_get (D := (dC, dI)) (ci := 10) (v := .int 11) (C := RX10) (T := TX10) (N := 6) hx hb hts uX10 hown hK hP 0 rfl rfl 1 (by decide) (hts _ lk_146) (fun _ h9 => h9) rfl dX10_put_8 ?_
  refine lv_sipush (v := 400) hx hb dX10_put_11 (by decide) ?_
  refine lv_icmp_ge (tgt := 40) hx hb dX10_put_14 (by decide) (fun c8 => ?_) (fun c8 => ?_)
  · exact False.elim (by revert c8; decide)
  refine lv_aload_n hx hb dX10_put_17 rfl (lv_at hl 1 rfl) ?_
  refine va_get (D := (dC, dI)) (ci := 10) (v := .ref x_bytes) (C := RX10) (T := TX10) (N := 6) hx hb hts uX10 hown hK hP 0 rfl rfl 0 (by decide) (hts _ lk_145) (fun _ h9 => h9) rfl dX10_put_18 ?_
  refine lv_aload_n hx hb dX10_put_21 rfl (lv_at hl 1 rfl) ?_
  refine va_get (D := (dC, dI)) (ci := 10) (v := .int 11) (C := RX10) (T := TX10) (N := 6) hx hb hts uX10 hown hK hP 0 rfl rfl 1 (by decide) (hts _ lk_146) (fun _ h9 => h9) rfl dX10_put_22 ?_
  refine lv_iload_n hx hb dX10_put_25 rfl (lv_at hl 2 rfl) ?_
  refine lv_iload_n hx hb dX10_put_26 rfl (lv_at hl 0 rfl) ?_
  refine lv_iushr hx hb dX10_put_27 rfl ?_
  refine lv_topi (fun z16 ez16 => ?_)
  refine lv_i2b hx hb dX10_put_28 rfl ?_
  refine lv_topi (fun z17 ez17 => ?_)
  refine va_bast (D := (dC, dI)) hx hb hK hP hD hS 1 1 rfl rfl (vpi (by decide +kernel)) dX10_put_29 (fun H18 locs hP hD hS => ?_)
  have hP : va_P (dC, dI) vwCl [(x_tape, .inr (10, [.ref x_bytes, .int 11, .int 0, .int 0, .int 0, .int 0])), (x_bytes, .inl (kA 1, 400, .inl (upd f14 (11 : Int32).toNatClampNeg (vp_nar .byte z17))))] H18 := hP
  have hD : va_D A [(x_tape, .inr (10, [.ref x_bytes, .int 11, .int 0, .int 0, .int 0, .int 0])), (x_bytes, .inl (kA 1, 400, .inl (upd f14 (11 : Int32).toNatClampNeg (vp_nar .byte z17))))] := hD
  generalize (upd f14 (11 : Int32).toNatClampNeg (vp_nar .byte z17)) = f19 at hP hD
  refine lv_aload_n hx hb dX10_put_30 rfl (lv_at hl 1 rfl) ?_
  refine lv_dup hx hb dX10_put_31 rfl ?_
  refine va_get (D := (dC, dI)) (ci := 10) (v := .int 11) (C := RX10) (T := TX10) (N := 6) hx hb hts uX10 hown hK hP 0 rfl rfl 1 (by decide) (hts _ lk_146) (fun _ h9 => h9) rfl dX10_put_32 ?_
  refine lv_iconst (v := 1) hx hb dX10_put_35 (by decide) ?_
  refine lv_iadd hx hb dX10_put_36 ?_
  refine lv_toc (y := 12) (by decide) ?_
  refine va_put (D := (dC, dI)) (ci := 10) (v := .int 12) (ty := .int) (C := RX10) (T := TX10) (N := 6) hx hb hts uX10 tyX10 tyX10_ok nmX10 hown hK hP hD hS 0 rfl rfl 1 (by decide) (hts _ lk_146) (fun _ h9 => h9) rfl (by decide +kernel) rfl rfl (Nat.le_of_ble_eq_true rfl) dX10_put_37 (fun H20 locs hP hD hS => ?_)
  have hP : va_P (dC, dI) vwCl [(x_tape, .inr (10, [.ref x_bytes, .int 12, .int 0, .int 0, .int 0, .int 0])), (x_bytes, .inl (kA 1, 400, .inl f19))] H20 := hP
  have hD : va_D A [(x_tape, .inr (10, [.ref x_bytes, .int 12, .int 0, .int 0, .int 0, .int 0])), (x_bytes, .inl (kA 1, 400, .inl f19))] := hD
  refine lv_iinc (v := (-8)) (lv' := [(2, .int (-8)), (0, .ref x_tape), (1, .int p0)]) hx hb dX10_put_40 hl (k := 0) rfl (by decide) (by decide) rfl (fun ls hl => ?_)
  refine lv_goto (tgt := 3) hx hb dX10_put_43 (by decide) ?_
  refine lv_iload_n hx hb dX10_put_3 rfl (lv_at hl 0 rfl) ?_
  refine lv_if_lt (tgt := 46) hx hb dX10_put_4 (by decide) (fun c9 => ?_) (fun c9 => ?_)
  rotate_left
  · exact False.elim (by revert c9; decide)
  refine W.widen (k := 0) (n := 0) (Nat.le_of_ble_eq_true rfl) (Nat.le_of_ble_eq_true rfl) ?_
  have hP9 := hP.sub (ws' := [(x_tape, .inr (10, [.ref x_bytes, .int 12, .int 0, .int 0, .int 0, .int 0])), (x_bytes, .inl (kA 1, 400, .inl f19))]) [0, 1] rfl
  have hD9 := hD.sub (ws' := [(x_tape, .inr (10, [.ref x_bytes, .int 12, .int 0, .int 0, .int 0, .int 0])), (x_bytes, .inl (kA 1, 400, .inl f19))]) [0, 1] (by decide) rfl
  exact rM_v hx hb hr hlocks hP9 hD9 hS ⟨f19, rfl⟩ dX10_put_46

set_option maxHeartbeats 4000000 in
set_option maxRecDepth 100000 in
theorem c_X10_put_12 (l : Launch) (dC : Nat → ClassId) (dI : Nat → Nat → Nat) (kA : Nat → ClassId) (sz : Nat) (x_tape : Nat) (x_bytes : Nat) (f0 : Nat → Int32) (p0 : Int32)  : Met l yX10_put (wsU yX10_put cX10_put 3 none) ({ frames := 0, cells := 0, slots := 0, locals := 0 }) (va_Pc [.ref x_tape, .int p0] (PW dC dI kA [(x_tape, .inr (10, [.ref x_bytes, .int 12, .int 0, .int 0, .int 0, .int 0])), (x_bytes, .inl (kA 1, 400, .inl f0))] sz)) (QU dC dI none (fun w => ∃ (f19 : Nat → Int32), w = [(x_tape, .inr (10, [.ref x_bytes, .int 16, .int 0, .int 0, .int 0, .int 0])), (x_bytes, .inl (kA 1, 400, .inl f19))]) (va_A [(x_tape, .inr (10, [.ref x_bytes, .int 12, .int 0, .int 0, .int 0, .int 0])), (x_bytes, .inl (kA 1, 400, .inl f0))] sz)) 0 0 (va_A [(x_tape, .inr (10, [.ref x_bytes, .int 12, .int 0, .int 0, .int 0, .int 0])), (x_bytes, .inl (kA 1, 400, .inl f0))] sz) := by
  refine met_M (own := RX10) (by decide) rfl (Nat.le_of_ble_eq_true rfl) ?_
  intro p e s m below meth c ls A hx hb hr hts hown hlocks hml hin hK hN hA hP hD hS hl
  have hl : lv_has ls 3 [(0, .ref x_tape), (1, .int p0)] := hl
  have hP : va_P (dC, dI) vwCl [(x_tape, .inr (10, [.ref x_bytes, .int 12, .int 0, .int 0, .int 0, .int 0])), (x_bytes, .inl (kA 1, 400, .inl f0))] s.heap := hP
  have hD : va_D A [(x_tape, .inr (10, [.ref x_bytes, .int 12, .int 0, .int 0, .int 0, .int 0])), (x_bytes, .inl (kA 1, 400, .inl f0))] := hD
  refine lv_bipush (v := 24) hx hb dX10_put_0 (by decide) ?_
  refine lv_istore_n (lv' := [(2, .int 24), (0, .ref x_tape), (1, .int p0)]) hx hb dX10_put_2 rfl hl (by decide) rfl (fun ls hl => ?_)
  refine lv_iload_n hx hb dX10_put_3 rfl (lv_at hl 0 rfl) ?_
  refine lv_if_lt (tgt := 46) hx hb dX10_put_4 (by decide) (fun c1 => ?_) (fun c1 => ?_)
  · exact False.elim (by revert c1; decide)
  refine lv_aload_n hx hb dX10_put_7 rfl (lv_at hl 1 rfl) ?_
  refine va_get (D := (dC, dI)) (ci := 10) (v := .int 12) (C := RX10) (T := TX10) (N := 6) hx hb hts uX10 hown hK hP 0 rfl rfl 1 (by decide) (hts _ lk_146) (fun _ h9 => h9) rfl dX10_put_8 ?_
  refine lv_sipush (v := 400) hx hb dX10_put_11 (by decide) ?_
  refine lv_icmp_ge (tgt := 40) hx hb dX10_put_14 (by decide) (fun c2 => ?_) (fun c2 => ?_)
  · exact False.elim (by revert c2; decide)
  refine lv_aload_n hx hb dX10_put_17 rfl (lv_at hl 1 rfl) ?_
  refine va_get (D := (dC, dI)) (ci := 10) (v := .ref x_bytes) (C := RX10) (T := TX10) (N := 6) hx hb hts uX10 hown hK hP 0 rfl rfl 0 (by decide) (hts _ lk_145) (fun _ h9 => h9) rfl dX10_put_18 ?_
  refine lv_aload_n hx hb dX10_put_21 rfl (lv_at hl 1 rfl) ?_
  refine va_get (D := (dC, dI)) (ci := 10) (v := .int 12) (C := RX10) (T := TX10) (N := 6) hx hb hts uX10 hown hK hP 0 rfl rfl 1 (by decide) (hts _ lk_146) (fun _ h9 => h9) rfl dX10_put_22 ?_
  refine lv_iload_n hx hb dX10_put_25 rfl (lv_at hl 2 rfl) ?_
  refine lv_iload_n hx hb dX10_put_26 rfl (lv_at hl 0 rfl) ?_
  refine lv_iushr hx hb dX10_put_27 rfl ?_
  refine lv_topi (fun z1 ez1 => ?_)
  refine lv_i2b hx hb dX10_put_28 rfl ?_
  refine lv_topi (fun z2 ez2 => ?_)
  refine va_bast (D := (dC, dI)) hx hb hK hP hD hS 1 1 rfl rfl (vpi (by decide +kernel)) dX10_put_29 (fun H3 locs hP hD hS => ?_)
  have hP : va_P (dC, dI) vwCl [(x_tape, .inr (10, [.ref x_bytes, .int 12, .int 0, .int 0, .int 0, .int 0])), (x_bytes, .inl (kA 1, 400, .inl (upd f0 (12 : Int32).toNatClampNeg (vp_nar .byte z2))))] H3 := hP
  have hD : va_D A [(x_tape, .inr (10, [.ref x_bytes, .int 12, .int 0, .int 0, .int 0, .int 0])), (x_bytes, .inl (kA 1, 400, .inl (upd f0 (12 : Int32).toNatClampNeg (vp_nar .byte z2))))] := hD
  generalize (upd f0 (12 : Int32).toNatClampNeg (vp_nar .byte z2)) = f4 at hP hD
  refine lv_aload_n hx hb dX10_put_30 rfl (lv_at hl 1 rfl) ?_
  refine lv_dup hx hb dX10_put_31 rfl ?_
  refine va_get (D := (dC, dI)) (ci := 10) (v := .int 12) (C := RX10) (T := TX10) (N := 6) hx hb hts uX10 hown hK hP 0 rfl rfl 1 (by decide) (hts _ lk_146) (fun _ h9 => h9) rfl dX10_put_32 ?_
  refine lv_iconst (v := 1) hx hb dX10_put_35 (by decide) ?_
  refine lv_iadd hx hb dX10_put_36 ?_
  refine lv_toc (y := 13) (by decide) ?_
  refine va_put (D := (dC, dI)) (ci := 10) (v := .int 13) (ty := .int) (C := RX10) (T := TX10) (N := 6) hx hb hts uX10 tyX10 tyX10_ok nmX10 hown hK hP hD hS 0 rfl rfl 1 (by decide) (hts _ lk_146) (fun _ h9 => h9) rfl (by decide +kernel) rfl rfl (Nat.le_of_ble_eq_true rfl) dX10_put_37 (fun H5 locs hP hD hS => ?_)
  have hP : va_P (dC, dI) vwCl [(x_tape, .inr (10, [.ref x_bytes, .int 13, .int 0, .int 0, .int 0, .int 0])), (x_bytes, .inl (kA 1, 400, .inl f4))] H5 := hP
  have hD : va_D A [(x_tape, .inr (10, [.ref x_bytes, .int 13, .int 0, .int 0, .int 0, .int 0])), (x_bytes, .inl (kA 1, 400, .inl f4))] := hD
  refine lv_iinc (v := 16) (lv' := [(2, .int 16), (0, .ref x_tape), (1, .int p0)]) hx hb dX10_put_40 hl (k := 0) rfl (by decide) (by decide) rfl (fun ls hl => ?_)
  refine lv_goto (tgt := 3) hx hb dX10_put_43 (by decide) ?_
  refine lv_iload_n hx hb dX10_put_3 rfl (lv_at hl 0 rfl) ?_
  refine lv_if_lt (tgt := 46) hx hb dX10_put_4 (by decide) (fun c3 => ?_) (fun c3 => ?_)
  · exact False.elim (by revert c3; decide)
  refine lv_aload_n hx hb dX10_put_7 rfl (lv_at hl 1 rfl) ?_
  refine va_get (D := (dC, dI)) (ci := 10) (v := .int 13) (C := RX10) (T := TX10) (N := 6) hx hb hts uX10 hown hK hP 0 rfl rfl 1 (by decide) (hts _ lk_146) (fun _ h9 => h9) rfl dX10_put_8 ?_
  refine lv_sipush (v := 400) hx hb dX10_put_11 (by decide) ?_
  refine lv_icmp_ge (tgt := 40) hx hb dX10_put_14 (by decide) (fun c4 => ?_) (fun c4 => ?_)
  · exact False.elim (by revert c4; decide)
  refine lv_aload_n hx hb dX10_put_17 rfl (lv_at hl 1 rfl) ?_
  refine va_get (D := (dC, dI)) (ci := 10) (v := .ref x_bytes) (C := RX10) (T := TX10) (N := 6) hx hb hts uX10 hown hK hP 0 rfl rfl 0 (by decide) (hts _ lk_145) (fun _ h9 => h9) rfl dX10_put_18 ?_
  refine lv_aload_n hx hb dX10_put_21 rfl (lv_at hl 1 rfl) ?_
  refine va_get (D := (dC, dI)) (ci := 10) (v := .int 13) (C := RX10) (T := TX10) (N := 6) hx hb hts uX10 hown hK hP 0 rfl rfl 1 (by decide) (hts _ lk_146) (fun _ h9 => h9) rfl dX10_put_22 ?_
  refine lv_iload_n hx hb dX10_put_25 rfl (lv_at hl 2 rfl) ?_
  refine lv_iload_n hx hb dX10_put_26 rfl (lv_at hl 0 rfl) ?_
  refine lv_iushr hx hb dX10_put_27 rfl ?_
  refine lv_topi (fun z6 ez6 => ?_)
  refine lv_i2b hx hb dX10_put_28 rfl ?_
  refine lv_topi (fun z7 ez7 => ?_)
  refine va_bast (D := (dC, dI)) hx hb hK hP hD hS 1 1 rfl rfl (vpi (by decide +kernel)) dX10_put_29 (fun H8 locs hP hD hS => ?_)
  have hP : va_P (dC, dI) vwCl [(x_tape, .inr (10, [.ref x_bytes, .int 13, .int 0, .int 0, .int 0, .int 0])), (x_bytes, .inl (kA 1, 400, .inl (upd f4 (13 : Int32).toNatClampNeg (vp_nar .byte z7))))] H8 := hP
  have hD : va_D A [(x_tape, .inr (10, [.ref x_bytes, .int 13, .int 0, .int 0, .int 0, .int 0])), (x_bytes, .inl (kA 1, 400, .inl (upd f4 (13 : Int32).toNatClampNeg (vp_nar .byte z7))))] := hD
  generalize (upd f4 (13 : Int32).toNatClampNeg (vp_nar .byte z7)) = f9 at hP hD
  refine lv_aload_n hx hb dX10_put_30 rfl (lv_at hl 1 rfl) ?_
  refine lv_dup hx hb dX10_put_31 rfl ?_
  refine va_get (D := (dC, dI)) (ci := 10) (v := .int 13) (C := RX10) (T := TX10) (N := 6) hx hb hts uX10 hown hK hP 0 rfl rfl 1 (by decide) (hts _ lk_146) (fun _ h9 => h9) rfl dX10_put_32 ?_
  refine lv_iconst (v := 1) hx hb dX10_put_35 (by decide) ?_
  refine lv_iadd hx hb dX10_put_36 ?_
  refine lv_toc (y := 14) (by decide) ?_
  refine va_put (D := (dC, dI)) (ci := 10) (v := .int 14) (ty := .int) (C := RX10) (T := TX10) (N := 6) hx hb hts uX10 tyX10 tyX10_ok nmX10 hown hK hP hD hS 0 rfl rfl 1 (by decide) (hts _ lk_146) (fun _ h9 => h9) rfl (by decide +kernel) rfl rfl (Nat.le_of_ble_eq_true rfl) dX10_put_37 (fun H10 locs hP hD hS => ?_)
  have hP : va_P (dC, dI) vwCl [(x_tape, .inr (10, [.ref x_bytes, .int 14, .int 0, .int 0, .int 0, .int 0])), (x_bytes, .inl (kA 1, 400, .inl f9))] H10 := hP
  have hD : va_D A [(x_tape, .inr (10, [.ref x_bytes, .int 14, .int 0, .int 0, .int 0, .int 0])), (x_bytes, .inl (kA 1, 400, .inl f9))] := hD
  refine lv_iinc (v := 8) (lv' := [(2, .int 8), (0, .ref x_tape), (1, .int p0)]) hx hb dX10_put_40 hl (k := 0) rfl (by decide) (by decide) rfl (fun ls hl => ?_)
  refine lv_goto (tgt := 3) hx hb dX10_put_43 (by decide) ?_
  refine lv_iload_n hx hb dX10_put_3 rfl (lv_at hl 0 rfl) ?_
  refine lv_if_lt (tgt := 46) hx hb dX10_put_4 (by decide) (fun c5 => ?_) (fun c5 => ?_)
  · exact False.elim (by revert c5; decide)
  refine lv_aload_n hx hb dX10_put_7 rfl (lv_at hl 1 rfl) ?_
  refine va_get (D := (dC, dI)) (ci := 10) (v := .int 14) (C := RX10) (T := TX10) (N := 6) hx hb hts uX10 hown hK hP 0 rfl rfl 1 (by decide) (hts _ lk_146) (fun _ h9 => h9) rfl dX10_put_8 ?_
  refine lv_sipush (v := 400) hx hb dX10_put_11 (by decide) ?_
  refine lv_icmp_ge (tgt := 40) hx hb dX10_put_14 (by decide) (fun c6 => ?_) (fun c6 => ?_)
  · exact False.elim (by revert c6; decide)
  refine lv_aload_n hx hb dX10_put_17 rfl (lv_at hl 1 rfl) ?_
  refine va_get (D := (dC, dI)) (ci := 10) (v := .ref x_bytes) (C := RX10) (T := TX10) (N := 6) hx hb hts uX10 hown hK hP 0 rfl rfl 0 (by decide) (hts _ lk_145) (fun _ h9 => h9) rfl dX10_put_18 ?_
  refine lv_aload_n hx hb dX10_put_21 rfl (lv_at hl 1 rfl) ?_
  refine va_get (D := (dC, dI)) (ci := 10) (v := .int 14) (C := RX10) (T := TX10) (N := 6) hx hb hts uX10 hown hK hP 0 rfl rfl 1 (by decide) (hts _ lk_146) (fun _ h9 => h9) rfl dX10_put_22 ?_
  refine lv_iload_n hx hb dX10_put_25 rfl (lv_at hl 2 rfl) ?_
  refine lv_iload_n hx hb dX10_put_26 rfl (lv_at hl 0 rfl) ?_
  refine lv_iushr hx hb dX10_put_27 rfl ?_
  refine lv_topi (fun z11 ez11 => ?_)
  refine lv_i2b hx hb dX10_put_28 rfl ?_
  refine lv_topi (fun z12 ez12 => ?_)
  refine va_bast (D := (dC, dI)) hx hb hK hP hD hS 1 1 rfl rfl (vpi (by decide +kernel)) dX10_put_29 (fun H13 locs hP hD hS => ?_)
  have hP : va_P (dC, dI) vwCl [(x_tape, .inr (10, [.ref x_bytes, .int 14, .int 0, .int 0, .int 0, .int 0])), (x_bytes, .inl (kA 1, 400, .inl (upd f9 (14 : Int32).toNatClampNeg (vp_nar .byte z12))))] H13 := hP
  have hD : va_D A [(x_tape, .inr (10, [.ref x_bytes, .int 14, .int 0, .int 0, .int 0, .int 0])), (x_bytes, .inl (kA 1, 400, .inl (upd f9 (14 : Int32).toNatClampNeg (vp_nar .byte z12))))] := hD
  generalize (upd f9 (14 : Int32).toNatClampNeg (vp_nar .byte z12)) = f14 at hP hD
  refine lv_aload_n hx hb dX10_put_30 rfl (lv_at hl 1 rfl) ?_
  refine lv_dup hx hb dX10_put_31 rfl ?_
  refine va_get (D := (dC, dI)) (ci := 10) (v := .int 14) (C := RX10) (T := TX10) (N := 6) hx hb hts uX10 hown hK hP 0 rfl rfl 1 (by decide) (hts _ lk_146) (fun _ h9 => h9) rfl dX10_put_32 ?_
  refine lv_iconst (v := 1) hx hb dX10_put_35 (by decide) ?_
  refine lv_iadd hx hb dX10_put_36 ?_
  refine lv_toc (y := 15) (by decide) ?_
  refine va_put (D := (dC, dI)) (ci := 10) (v := .int 15) (ty := .int) (C := RX10) (T := TX10) (N := 6) hx hb hts uX10 tyX10 tyX10_ok nmX10 hown hK hP hD hS 0 rfl rfl 1 (by decide) (hts _ lk_146) (fun _ h9 => h9) rfl (by decide +kernel) rfl rfl (Nat.le_of_ble_eq_true rfl) dX10_put_37 (fun H15 locs hP hD hS => ?_)
  have hP : va_P (dC, dI) vwCl [(x_tape, .inr (10, [.ref x_bytes, .int 15, .int 0, .int 0, .int 0, .int 0])), (x_bytes, .inl (kA 1, 400, .inl f14))] H15 := hP
  have hD : va_D A [(x_tape, .inr (10, [.ref x_bytes, .int 15, .int 0, .int 0, .int 0, .int 0])), (x_bytes, .inl (kA 1, 400, .inl f14))] := hD
  refine lv_iinc (v := 0) (lv' := [(2, .int 0), (0, .ref x_tape), (1, .int p0)]) hx hb dX10_put_40 hl (k := 0) rfl (by decide) (by decide) rfl (fun ls hl => ?_)
  refine lv_goto (tgt := 3) hx hb dX10_put_43 (by decide) ?_
  refine lv_iload_n hx hb dX10_put_3 rfl (lv_at hl 0 rfl) ?_
  refine lv_if_lt (tgt := 46) hx hb dX10_put_4 (by decide) (fun c7 => ?_) (fun c7 => ?_)
  · exact False.elim (by revert c7; decide)
  refine lv_aload_n hx hb dX10_put_7 rfl (lv_at hl 1 rfl) ?_
  refine va_get (D := (dC, dI)) (ci := 10) (v := .int 15) (C := RX10) (T := TX10) (N := 6) hx hb hts uX10 hown hK hP 0 rfl rfl 1 (by decide) (hts _ lk_146) (fun _ h9 => h9) rfl dX10_put_8 ?_
  refine lv_sipush (v := 400) hx hb dX10_put_11 (by decide) ?_
  refine lv_icmp_ge (tgt := 40) hx hb dX10_put_14 (by decide) (fun c8 => ?_) (fun c8 => ?_)
  · exact False.elim (by revert c8; decide)
  refine lv_aload_n hx hb dX10_put_17 rfl (lv_at hl 1 rfl) ?_
  refine va_get (D := (dC, dI)) (ci := 10) (v := .ref x_bytes) (C := RX10) (T := TX10) (N := 6) hx hb hts uX10 hown hK hP 0 rfl rfl 0 (by decide) (hts _ lk_145) (fun _ h9 => h9) rfl dX10_put_18 ?_
  refine lv_aload_n hx hb dX10_put_21 rfl (lv_at hl 1 rfl) ?_
  refine va_get (D := (dC, dI)) (ci := 10) (v := .int 15) (C := RX10) (T := TX10) (N := 6) hx hb hts uX10 hown hK hP 0 rfl rfl 1 (by decide) (hts _ lk_146) (fun _ h9 => h9) rfl dX10_put_22 ?_
  refine lv_iload_n hx hb dX10_put_25 rfl (lv_at hl 2 rfl) ?_
  refine lv_iload_n hx hb dX10_put_26 rfl (lv_at hl 0 rfl) ?_
  refine lv_iushr hx hb dX10_put_27 rfl ?_
  refine lv_topi (fun z16 ez16 => ?_)
  refine lv_i2b hx hb dX10_put_28 rfl ?_
  refine lv_topi (fun z17 ez17 => ?_)
  refine va_bast (D := (dC, dI)) hx hb hK hP hD hS 1 1 rfl rfl (vpi (by decide +kernel)) dX10_put_29 (fun H18 locs hP hD hS => ?_)
  have hP : va_P (dC, dI) vwCl [(x_tape, .inr (10, [.ref x_bytes, .int 15, .int 0, .int 0, .int 0, .int 0])), (x_bytes, .inl (kA 1, 400, .inl (upd f14 (15 : Int32).toNatClampNeg (vp_nar .byte z17))))] H18 := hP
  have hD : va_D A [(x_tape, .inr (10, [.ref x_bytes, .int 15, .int 0, .int 0, .int 0, .int 0])), (x_bytes, .inl (kA 1, 400, .inl (upd f14 (15 : Int32).toNatClampNeg (vp_nar .byte z17))))] := hD
  generalize (upd f14 (15 : Int32).toNatClampNeg (vp_nar .byte z17)) = f19 at hP hD
  refine lv_aload_n hx hb dX10_put_30 rfl (lv_at hl 1 rfl) ?_
  refine lv_dup hx hb dX10_put_31 rfl ?_
  refine va_get (D := (dC, dI)) (ci := 10) (v := .int 15) (C := RX10) (T := TX10) (N := 6) hx hb hts uX10 hown hK hP 0 rfl rfl 1 (by decide) (hts _ lk_146) (fun _ h9 => h9) rfl dX10_put_32 ?_
  refine lv_iconst (v := 1) hx hb dX10_put_35 (by decide) ?_
  refine lv_iadd hx hb dX10_put_36 ?_
  refine lv_toc (y := 16) (by decide) ?_
  refine va_put (D := (dC, dI)) (ci := 10) (v := .int 16) (ty := .int) (C := RX10) (T := TX10) (N := 6) hx hb hts uX10 tyX10 tyX10_ok nmX10 hown hK hP hD hS 0 rfl rfl 1 (by decide) (hts _ lk_146) (fun _ h9 => h9) rfl (by decide +kernel) rfl rfl (Nat.le_of_ble_eq_true rfl) dX10_put_37 (fun H20 locs hP hD hS => ?_)
  have hP : va_P (dC, dI) vwCl [(x_tape, .inr (10, [.ref x_bytes, .int 16, .int 0, .int 0, .int 0, .int 0])), (x_bytes, .inl (kA 1, 400, .inl f19))] H20 := hP
  have hD : va_D A [(x_tape, .inr (10, [.ref x_bytes, .int 16, .int 0, .int 0, .int 0, .int 0])), (x_bytes, .inl (kA 1, 400, .inl f19))] := hD
  refine lv_iinc (v := (-8)) (lv' := [(2, .int (-8)), (0, .ref x_tape), (1, .int p0)]) hx hb dX10_put_40 hl (k := 0) rfl (by decide) (by decide) rfl (fun ls hl => ?_)
  refine lv_goto (tgt := 3) hx hb dX10_put_43 (by decide) ?_
  refine lv_iload_n hx hb dX10_put_3 rfl (lv_at hl 0 rfl) ?_
  refine lv_if_lt (tgt := 46) hx hb dX10_put_4 (by decide) (fun c9 => ?_) (fun c9 => ?_)
  rotate_left
  · exact False.elim (by revert c9; decide)
  refine W.widen (k := 0) (n := 0) (Nat.le_of_ble_eq_true rfl) (Nat.le_of_ble_eq_true rfl) ?_
  have hP9 := hP.sub (ws' := [(x_tape, .inr (10, [.ref x_bytes, .int 16, .int 0, .int 0, .int 0, .int 0])), (x_bytes, .inl (kA 1, 400, .inl f19))]) [0, 1] rfl
  have hD9 := hD.sub (ws' := [(x_tape, .inr (10, [.ref x_bytes, .int 16, .int 0, .int 0, .int 0, .int 0])), (x_bytes, .inl (kA 1, 400, .inl f19))]) [0, 1] (by decide) rfl
  exact rM_v hx hb hr hlocks hP9 hD9 hS ⟨f19, rfl⟩ dX10_put_46

set_option maxHeartbeats 4000000 in
set_option maxRecDepth 100000 in
theorem c_X10_put_16 (l : Launch) (dC : Nat → ClassId) (dI : Nat → Nat → Nat) (kA : Nat → ClassId) (sz : Nat) (x_tape : Nat) (x_bytes : Nat) (f0 : Nat → Int32) (p0 : Int32)  : Met l yX10_put (wsU yX10_put cX10_put 3 none) ({ frames := 0, cells := 0, slots := 0, locals := 0 }) (va_Pc [.ref x_tape, .int p0] (PW dC dI kA [(x_tape, .inr (10, [.ref x_bytes, .int 16, .int 0, .int 0, .int 0, .int 0])), (x_bytes, .inl (kA 1, 400, .inl f0))] sz)) (QU dC dI none (fun w => ∃ (f19 : Nat → Int32), w = [(x_tape, .inr (10, [.ref x_bytes, .int 20, .int 0, .int 0, .int 0, .int 0])), (x_bytes, .inl (kA 1, 400, .inl f19))]) (va_A [(x_tape, .inr (10, [.ref x_bytes, .int 16, .int 0, .int 0, .int 0, .int 0])), (x_bytes, .inl (kA 1, 400, .inl f0))] sz)) 0 0 (va_A [(x_tape, .inr (10, [.ref x_bytes, .int 16, .int 0, .int 0, .int 0, .int 0])), (x_bytes, .inl (kA 1, 400, .inl f0))] sz) := by
  refine met_M (own := RX10) (by decide) rfl (Nat.le_of_ble_eq_true rfl) ?_
  intro p e s m below meth c ls A hx hb hr hts hown hlocks hml hin hK hN hA hP hD hS hl
  have hl : lv_has ls 3 [(0, .ref x_tape), (1, .int p0)] := hl
  have hP : va_P (dC, dI) vwCl [(x_tape, .inr (10, [.ref x_bytes, .int 16, .int 0, .int 0, .int 0, .int 0])), (x_bytes, .inl (kA 1, 400, .inl f0))] s.heap := hP
  have hD : va_D A [(x_tape, .inr (10, [.ref x_bytes, .int 16, .int 0, .int 0, .int 0, .int 0])), (x_bytes, .inl (kA 1, 400, .inl f0))] := hD
  refine lv_bipush (v := 24) hx hb dX10_put_0 (by decide) ?_
  refine lv_istore_n (lv' := [(2, .int 24), (0, .ref x_tape), (1, .int p0)]) hx hb dX10_put_2 rfl hl (by decide) rfl (fun ls hl => ?_)
  refine lv_iload_n hx hb dX10_put_3 rfl (lv_at hl 0 rfl) ?_
  refine lv_if_lt (tgt := 46) hx hb dX10_put_4 (by decide) (fun c1 => ?_) (fun c1 => ?_)
  · exact False.elim (by revert c1; decide)
  refine lv_aload_n hx hb dX10_put_7 rfl (lv_at hl 1 rfl) ?_
  refine va_get (D := (dC, dI)) (ci := 10) (v := .int 16) (C := RX10) (T := TX10) (N := 6) hx hb hts uX10 hown hK hP 0 rfl rfl 1 (by decide) (hts _ lk_146) (fun _ h9 => h9) rfl dX10_put_8 ?_
  refine lv_sipush (v := 400) hx hb dX10_put_11 (by decide) ?_
  refine lv_icmp_ge (tgt := 40) hx hb dX10_put_14 (by decide) (fun c2 => ?_) (fun c2 => ?_)
  · exact False.elim (by revert c2; decide)
  refine lv_aload_n hx hb dX10_put_17 rfl (lv_at hl 1 rfl) ?_
  refine va_get (D := (dC, dI)) (ci := 10) (v := .ref x_bytes) (C := RX10) (T := TX10) (N := 6) hx hb hts uX10 hown hK hP 0 rfl rfl 0 (by decide) (hts _ lk_145) (fun _ h9 => h9) rfl dX10_put_18 ?_
  refine lv_aload_n hx hb dX10_put_21 rfl (lv_at hl 1 rfl) ?_
  refine va_get (D := (dC, dI)) (ci := 10) (v := .int 16) (C := RX10) (T := TX10) (N := 6) hx hb hts uX10 hown hK hP 0 rfl rfl 1 (by decide) (hts _ lk_146) (fun _ h9 => h9) rfl dX10_put_22 ?_
  refine lv_iload_n hx hb dX10_put_25 rfl (lv_at hl 2 rfl) ?_
  refine lv_iload_n hx hb dX10_put_26 rfl (lv_at hl 0 rfl) ?_
  refine lv_iushr hx hb dX10_put_27 rfl ?_
  refine lv_topi (fun z1 ez1 => ?_)
  refine lv_i2b hx hb dX10_put_28 rfl ?_
  refine lv_topi (fun z2 ez2 => ?_)
  refine va_bast (D := (dC, dI)) hx hb hK hP hD hS 1 1 rfl rfl (vpi (by decide +kernel)) dX10_put_29 (fun H3 locs hP hD hS => ?_)
  have hP : va_P (dC, dI) vwCl [(x_tape, .inr (10, [.ref x_bytes, .int 16, .int 0, .int 0, .int 0, .int 0])), (x_bytes, .inl (kA 1, 400, .inl (upd f0 (16 : Int32).toNatClampNeg (vp_nar .byte z2))))] H3 := hP
  have hD : va_D A [(x_tape, .inr (10, [.ref x_bytes, .int 16, .int 0, .int 0, .int 0, .int 0])), (x_bytes, .inl (kA 1, 400, .inl (upd f0 (16 : Int32).toNatClampNeg (vp_nar .byte z2))))] := hD
  generalize (upd f0 (16 : Int32).toNatClampNeg (vp_nar .byte z2)) = f4 at hP hD
  refine lv_aload_n hx hb dX10_put_30 rfl (lv_at hl 1 rfl) ?_
  refine lv_dup hx hb dX10_put_31 rfl ?_
  refine va_get (D := (dC, dI)) (ci := 10) (v := .int 16) (C := RX10) (T := TX10) (N := 6) hx hb hts uX10 hown hK hP 0 rfl rfl 1 (by decide) (hts _ lk_146) (fun _ h9 => h9) rfl dX10_put_32 ?_
  refine lv_iconst (v := 1) hx hb dX10_put_35 (by decide) ?_
  refine lv_iadd hx hb dX10_put_36 ?_
  refine lv_toc (y := 17) (by decide) ?_
  refine va_put (D := (dC, dI)) (ci := 10) (v := .int 17) (ty := .int) (C := RX10) (T := TX10) (N := 6) hx hb hts uX10 tyX10 tyX10_ok nmX10 hown hK hP hD hS 0 rfl rfl 1 (by decide) (hts _ lk_146) (fun _ h9 => h9) rfl (by decide +kernel) rfl rfl (Nat.le_of_ble_eq_true rfl) dX10_put_37 (fun H5 locs hP hD hS => ?_)
  have hP : va_P (dC, dI) vwCl [(x_tape, .inr (10, [.ref x_bytes, .int 17, .int 0, .int 0, .int 0, .int 0])), (x_bytes, .inl (kA 1, 400, .inl f4))] H5 := hP
  have hD : va_D A [(x_tape, .inr (10, [.ref x_bytes, .int 17, .int 0, .int 0, .int 0, .int 0])), (x_bytes, .inl (kA 1, 400, .inl f4))] := hD
  refine lv_iinc (v := 16) (lv' := [(2, .int 16), (0, .ref x_tape), (1, .int p0)]) hx hb dX10_put_40 hl (k := 0) rfl (by decide) (by decide) rfl (fun ls hl => ?_)
  refine lv_goto (tgt := 3) hx hb dX10_put_43 (by decide) ?_
  refine lv_iload_n hx hb dX10_put_3 rfl (lv_at hl 0 rfl) ?_
  refine lv_if_lt (tgt := 46) hx hb dX10_put_4 (by decide) (fun c3 => ?_) (fun c3 => ?_)
  · exact False.elim (by revert c3; decide)
  refine lv_aload_n hx hb dX10_put_7 rfl (lv_at hl 1 rfl) ?_
  refine va_get (D := (dC, dI)) (ci := 10) (v := .int 17) (C := RX10) (T := TX10) (N := 6) hx hb hts uX10 hown hK hP 0 rfl rfl 1 (by decide) (hts _ lk_146) (fun _ h9 => h9) rfl dX10_put_8 ?_
  refine lv_sipush (v := 400) hx hb dX10_put_11 (by decide) ?_
  refine lv_icmp_ge (tgt := 40) hx hb dX10_put_14 (by decide) (fun c4 => ?_) (fun c4 => ?_)
  · exact False.elim (by revert c4; decide)
  refine lv_aload_n hx hb dX10_put_17 rfl (lv_at hl 1 rfl) ?_
  refine va_get (D := (dC, dI)) (ci := 10) (v := .ref x_bytes) (C := RX10) (T := TX10) (N := 6) hx hb hts uX10 hown hK hP 0 rfl rfl 0 (by decide) (hts _ lk_145) (fun _ h9 => h9) rfl dX10_put_18 ?_
  refine lv_aload_n hx hb dX10_put_21 rfl (lv_at hl 1 rfl) ?_
  refine va_get (D := (dC, dI)) (ci := 10) (v := .int 17) (C := RX10) (T := TX10) (N := 6) hx hb hts uX10 hown hK hP 0 rfl rfl 1 (by decide) (hts _ lk_146) (fun _ h9 => h9) rfl dX10_put_22 ?_
  refine lv_iload_n hx hb dX10_put_25 rfl (lv_at hl 2 rfl) ?_
  refine lv_iload_n hx hb dX10_put_26 rfl (lv_at hl 0 rfl) ?_
  refine lv_iushr hx hb dX10_put_27 rfl ?_
  refine lv_topi (fun z6 ez6 => ?_)
  refine lv_i2b hx hb dX10_put_28 rfl ?_
  refine lv_topi (fun z7 ez7 => ?_)
  refine va_bast (D := (dC, dI)) hx hb hK hP hD hS 1 1 rfl rfl (vpi (by decide +kernel)) dX10_put_29 (fun H8 locs hP hD hS => ?_)
  have hP : va_P (dC, dI) vwCl [(x_tape, .inr (10, [.ref x_bytes, .int 17, .int 0, .int 0, .int 0, .int 0])), (x_bytes, .inl (kA 1, 400, .inl (upd f4 (17 : Int32).toNatClampNeg (vp_nar .byte z7))))] H8 := hP
  have hD : va_D A [(x_tape, .inr (10, [.ref x_bytes, .int 17, .int 0, .int 0, .int 0, .int 0])), (x_bytes, .inl (kA 1, 400, .inl (upd f4 (17 : Int32).toNatClampNeg (vp_nar .byte z7))))] := hD
  generalize (upd f4 (17 : Int32).toNatClampNeg (vp_nar .byte z7)) = f9 at hP hD
  refine lv_aload_n hx hb dX10_put_30 rfl (lv_at hl 1 rfl) ?_
  refine lv_dup hx hb dX10_put_31 rfl ?_
  refine va_get (D := (dC, dI)) (ci := 10) (v := .int 17) (C := RX10) (T := TX10) (N := 6) hx hb hts uX10 hown hK hP 0 rfl rfl 1 (by decide) (hts _ lk_146) (fun _ h9 => h9) rfl dX10_put_32 ?_
  refine lv_iconst (v := 1) hx hb dX10_put_35 (by decide) ?_
  refine lv_iadd hx hb dX10_put_36 ?_
  refine lv_toc (y := 18) (by decide) ?_
  refine va_put (D := (dC, dI)) (ci := 10) (v := .int 18) (ty := .int) (C := RX10) (T := TX10) (N := 6) hx hb hts uX10 tyX10 tyX10_ok nmX10 hown hK hP hD hS 0 rfl rfl 1 (by decide) (hts _ lk_146) (fun _ h9 => h9) rfl (by decide +kernel) rfl rfl (Nat.le_of_ble_eq_true rfl) dX10_put_37 (fun H10 locs hP hD hS => ?_)
  have hP : va_P (dC, dI) vwCl [(x_tape, .inr (10, [.ref x_bytes, .int 18, .int 0, .int 0, .int 0, .int 0])), (x_bytes, .inl (kA 1, 400, .inl f9))] H10 := hP
  have hD : va_D A [(x_tape, .inr (10, [.ref x_bytes, .int 18, .int 0, .int 0, .int 0, .int 0])), (x_bytes, .inl (kA 1, 400, .inl f9))] := hD
  refine lv_iinc (v := 8) (lv' := [(2, .int 8), (0, .ref x_tape), (1, .int p0)]) hx hb dX10_put_40 hl (k := 0) rfl (by decide) (by decide) rfl (fun ls hl => ?_)
  refine lv_goto (tgt := 3) hx hb dX10_put_43 (by decide) ?_
  refine lv_iload_n hx hb dX10_put_3 rfl (lv_at hl 0 rfl) ?_
  refine lv_if_lt (tgt := 46) hx hb dX10_put_4 (by decide) (fun c5 => ?_) (fun c5 => ?_)
  · exact False.elim (by revert c5; decide)
  refine lv_aload_n hx hb dX10_put_7 rfl (lv_at hl 1 rfl) ?_
  refine va_get (D := (dC, dI)) (ci := 10) (v := .int 18) (C := RX10) (T := TX10) (N := 6) hx hb hts uX10 hown hK hP 0 rfl rfl 1 (by decide) (hts _ lk_146) (fun _ h9 => h9) rfl dX10_put_8 ?_
  refine lv_sipush (v := 400) hx hb dX10_put_11 (by decide) ?_
  refine lv_icmp_ge (tgt := 40) hx hb dX10_put_14 (by decide) (fun c6 => ?_) (fun c6 => ?_)
  · exact False.elim (by revert c6; decide)
  refine lv_aload_n hx hb dX10_put_17 rfl (lv_at hl 1 rfl) ?_
  refine va_get (D := (dC, dI)) (ci := 10) (v := .ref x_bytes) (C := RX10) (T := TX10) (N := 6) hx hb hts uX10 hown hK hP 0 rfl rfl 0 (by decide) (hts _ lk_145) (fun _ h9 => h9) rfl dX10_put_18 ?_
  refine lv_aload_n hx hb dX10_put_21 rfl (lv_at hl 1 rfl) ?_
  refine va_get (D := (dC, dI)) (ci := 10) (v := .int 18) (C := RX10) (T := TX10) (N := 6) hx hb hts uX10 hown hK hP 0 rfl rfl 1 (by decide) (hts _ lk_146) (fun _ h9 => h9) rfl dX10_put_22 ?_
  refine lv_iload_n hx hb dX10_put_25 rfl (lv_at hl 2 rfl) ?_
  refine lv_iload_n hx hb dX10_put_26 rfl (lv_at hl 0 rfl) ?_
  refine lv_iushr hx hb dX10_put_27 rfl ?_
  refine lv_topi (fun z11 ez11 => ?_)
  refine lv_i2b hx hb dX10_put_28 rfl ?_
  refine lv_topi (fun z12 ez12 => ?_)
  refine va_bast (D := (dC, dI)) hx hb hK hP hD hS 1 1 rfl rfl (vpi (by decide +kernel)) dX10_put_29 (fun H13 locs hP hD hS => ?_)
  have hP : va_P (dC, dI) vwCl [(x_tape, .inr (10, [.ref x_bytes, .int 18, .int 0, .int 0, .int 0, .int 0])), (x_bytes, .inl (kA 1, 400, .inl (upd f9 (18 : Int32).toNatClampNeg (vp_nar .byte z12))))] H13 := hP
  have hD : va_D A [(x_tape, .inr (10, [.ref x_bytes, .int 18, .int 0, .int 0, .int 0, .int 0])), (x_bytes, .inl (kA 1, 400, .inl (upd f9 (18 : Int32).toNatClampNeg (vp_nar .byte z12))))] := hD
  generalize (upd f9 (18 : Int32).toNatClampNeg (vp_nar .byte z12)) = f14 at hP hD
  refine lv_aload_n hx hb dX10_put_30 rfl (lv_at hl 1 rfl) ?_
  refine lv_dup hx hb dX10_put_31 rfl ?_
  refine va_get (D := (dC, dI)) (ci := 10) (v := .int 18) (C := RX10) (T := TX10) (N := 6) hx hb hts uX10 hown hK hP 0 rfl rfl 1 (by decide) (hts _ lk_146) (fun _ h9 => h9) rfl dX10_put_32 ?_
  refine lv_iconst (v := 1) hx hb dX10_put_35 (by decide) ?_
  refine lv_iadd hx hb dX10_put_36 ?_
  refine lv_toc (y := 19) (by decide) ?_
  refine va_put (D := (dC, dI)) (ci := 10) (v := .int 19) (ty := .int) (C := RX10) (T := TX10) (N := 6) hx hb hts uX10 tyX10 tyX10_ok nmX10 hown hK hP hD hS 0 rfl rfl 1 (by decide) (hts _ lk_146) (fun _ h9 => h9) rfl (by decide +kernel) rfl rfl (Nat.le_of_ble_eq_true rfl) dX10_put_37 (fun H15 locs hP hD hS => ?_)
  have hP : va_P (dC, dI) vwCl [(x_tape, .inr (10, [.ref x_bytes, .int 19, .int 0, .int 0, .int 0, .int 0])), (x_bytes, .inl (kA 1, 400, .inl f14))] H15 := hP
  have hD : va_D A [(x_tape, .inr (10, [.ref x_bytes, .int 19, .int 0, .int 0, .int 0, .int 0])), (x_bytes, .inl (kA 1, 400, .inl f14))] := hD
  refine lv_iinc (v := 0) (lv' := [(2, .int 0), (0, .ref x_tape), (1, .int p0)]) hx hb dX10_put_40 hl (k := 0) rfl (by decide) (by decide) rfl (fun ls hl => ?_)
  refine lv_goto (tgt := 3) hx hb dX10_put_43 (by decide) ?_
  refine lv_iload_n hx hb dX10_put_3 rfl (lv_at hl 0 rfl) ?_
  refine lv_if_lt (tgt := 46) hx hb dX10_put_4 (by decide) (fun c7 => ?_) (fun c7 => ?_)
  · exact False.elim (by revert c7; decide)
  refine lv_aload_n hx hb dX10_put_7 rfl (lv_at hl 1 rfl) ?_
  refine va_get (D := (dC, dI)) (ci := 10) (v := .int 19) (C := RX10) (T := TX10) (N := 6) hx hb hts uX10 hown hK hP 0 rfl rfl 1 (by decide) (hts _ lk_146) (fun _ h9 => h9) rfl dX10_put_8 ?_
  refine lv_sipush (v := 400) hx hb dX10_put_11 (by decide) ?_
  refine lv_icmp_ge (tgt := 40) hx hb dX10_put_14 (by decide) (fun c8 => ?_) (fun c8 => ?_)
  · exact False.elim (by revert c8; decide)
  refine lv_aload_n hx hb dX10_put_17 rfl (lv_at hl 1 rfl) ?_
  refine va_get (D := (dC, dI)) (ci := 10) (v := .ref x_bytes) (C := RX10) (T := TX10) (N := 6) hx hb hts uX10 hown hK hP 0 rfl rfl 0 (by decide) (hts _ lk_145) (fun _ h9 => h9) rfl dX10_put_18 ?_
  refine lv_aload_n hx hb dX10_put_21 rfl (lv_at hl 1 rfl) ?_
  refine va_get (D := (dC, dI)) (ci := 10) (v := .int 19) (C := RX10) (T := TX10) (N := 6) hx hb hts uX10 hown hK hP 0 rfl rfl 1 (by decide) (hts _ lk_146) (fun _ h9 => h9) rfl dX10_put_22 ?_
  refine lv_iload_n hx hb dX10_put_25 rfl (lv_at hl 2 rfl) ?_
  refine lv_iload_n hx hb dX10_put_26 rfl (lv_at hl 0 rfl) ?_
  refine lv_iushr hx hb dX10_put_27 rfl ?_
  refine lv_topi (fun z16 ez16 => ?_)
  refine lv_i2b hx hb dX10_put_28 rfl ?_
  refine lv_topi (fun z17 ez17 => ?_)
  refine va_bast (D := (dC, dI)) hx hb hK hP hD hS 1 1 rfl rfl (vpi (by decide +kernel)) dX10_put_29 (fun H18 locs hP hD hS => ?_)
  have hP : va_P (dC, dI) vwCl [(x_tape, .inr (10, [.ref x_bytes, .int 19, .int 0, .int 0, .int 0, .int 0])), (x_bytes, .inl (kA 1, 400, .inl (upd f14 (19 : Int32).toNatClampNeg (vp_nar .byte z17))))] H18 := hP
  have hD : va_D A [(x_tape, .inr (10, [.ref x_bytes, .int 19, .int 0, .int 0, .int 0, .int 0])), (x_bytes, .inl (kA 1, 400, .inl (upd f14 (19 : Int32).toNatClampNeg (vp_nar .byte z17))))] := hD
  generalize (upd f14 (19 : Int32).toNatClampNeg (vp_nar .byte z17)) = f19 at hP hD
  refine lv_aload_n hx hb dX10_put_30 rfl (lv_at hl 1 rfl) ?_
  refine lv_dup hx hb dX10_put_31 rfl ?_
  refine va_get (D := (dC, dI)) (ci := 10) (v := .int 19) (C := RX10) (T := TX10) (N := 6) hx hb hts uX10 hown hK hP 0 rfl rfl 1 (by decide) (hts _ lk_146) (fun _ h9 => h9) rfl dX10_put_32 ?_
  refine lv_iconst (v := 1) hx hb dX10_put_35 (by decide) ?_
  refine lv_iadd hx hb dX10_put_36 ?_
  refine lv_toc (y := 20) (by decide) ?_
  refine va_put (D := (dC, dI)) (ci := 10) (v := .int 20) (ty := .int) (C := RX10) (T := TX10) (N := 6) hx hb hts uX10 tyX10 tyX10_ok nmX10 hown hK hP hD hS 0 rfl rfl 1 (by decide) (hts _ lk_146) (fun _ h9 => h9) rfl (by decide +kernel) rfl rfl (Nat.le_of_ble_eq_true rfl) dX10_put_37 (fun H20 locs hP hD hS => ?_)
  have hP : va_P (dC, dI) vwCl [(x_tape, .inr (10, [.ref x_bytes, .int 20, .int 0, .int 0, .int 0, .int 0])), (x_bytes, .inl (kA 1, 400, .inl f19))] H20 := hP
  have hD : va_D A [(x_tape, .inr (10, [.ref x_bytes, .int 20, .int 0, .int 0, .int 0, .int 0])), (x_bytes, .inl (kA 1, 400, .inl f19))] := hD
  refine lv_iinc (v := (-8)) (lv' := [(2, .int (-8)), (0, .ref x_tape), (1, .int p0)]) hx hb dX10_put_40 hl (k := 0) rfl (by decide) (by decide) rfl (fun ls hl => ?_)
  refine lv_goto (tgt := 3) hx hb dX10_put_43 (by decide) ?_
  refine lv_iload_n hx hb dX10_put_3 rfl (lv_at hl 0 rfl) ?_
  refine lv_if_lt (tgt := 46) hx hb dX10_put_4 (by decide) (fun c9 => ?_) (fun c9 => ?_)
  rotate_left
  · exact False.elim (by revert c9; decide)
  refine W.widen (k := 0) (n := 0) (Nat.le_of_ble_eq_true rfl) (Nat.le_of_ble_eq_true rfl) ?_
  have hP9 := hP.sub (ws' := [(x_tape, .inr (10, [.ref x_bytes, .int 20, .int 0, .int 0, .int 0, .int 0])), (x_bytes, .inl (kA 1, 400, .inl f19))]) [0, 1] rfl
  have hD9 := hD.sub (ws' := [(x_tape, .inr (10, [.ref x_bytes, .int 20, .int 0, .int 0, .int 0, .int 0])), (x_bytes, .inl (kA 1, 400, .inl f19))]) [0, 1] (by decide) rfl
  exact rM_v hx hb hr hlocks hP9 hD9 hS ⟨f19, rfl⟩ dX10_put_46

set_option maxHeartbeats 4000000 in
set_option maxRecDepth 100000 in
theorem c_X11_feed (l : Launch) (dC : Nat → ClassId) (dI : Nat → Nat → Nat) (kA : Nat → ClassId) (sz : Nat) (x : Nat) (x_tape : Nat) (x_houseReader : Nat) (x_ruleReader : Nat) (x_rules : Nat) (x_now : Nat) (x_images : Nat) (x_past : Nat) (x_laundry : Nat) (x_orders : Nat) (x_contest : Nat) (x_asked : Nat) (x_tally : Nat) (x_draft : Nat) (x_bytes : Nat) (p0 : Int32) (p1 : Int32) (p2 : Int32) (p3 : Int32) (p4 : Int32)  : Met l yX11_feed (wsU yX11_feed cX11_feed 6 (some .int)) ({ frames := 1, cells := 0, slots := 0, locals := 22 }) (va_Pc [.ref x, .int p0, .int p1, .int p2, .int p3, .int p4] (PW dC dI kA [(x, .inr (11, [.ref x_tape, .ref x_houseReader, .ref x_ruleReader, .ref x_rules, .ref x_now, .ref x_images, .ref x_past, .ref x_laundry, .ref x_orders, .ref x_contest, .ref x_asked, .ref x_tally, .int 0, .ref x_draft])), (x_tape, .inr (10, [.ref x_bytes, .int 0, .int 0, .int 0, .int 0, .int 0])), (x_bytes, .inl (kA 1, 400, .inl (fun _ => 0)))] sz)) (QU dC dI (some (.int 20)) (fun w => w = []) (va_A [(x, .inr (11, [.ref x_tape, .ref x_houseReader, .ref x_ruleReader, .ref x_rules, .ref x_now, .ref x_images, .ref x_past, .ref x_laundry, .ref x_orders, .ref x_contest, .ref x_asked, .ref x_tally, .int 0, .ref x_draft])), (x_tape, .inr (10, [.ref x_bytes, .int 0, .int 0, .int 0, .int 0, .int 0])), (x_bytes, .inl (kA 1, 400, .inl (fun _ => 0)))] sz)) 0 0 (va_A [(x, .inr (11, [.ref x_tape, .ref x_houseReader, .ref x_ruleReader, .ref x_rules, .ref x_now, .ref x_images, .ref x_past, .ref x_laundry, .ref x_orders, .ref x_contest, .ref x_asked, .ref x_tally, .int 0, .ref x_draft])), (x_tape, .inr (10, [.ref x_bytes, .int 0, .int 0, .int 0, .int 0, .int 0])), (x_bytes, .inl (kA 1, 400, .inl (fun _ => 0)))] sz) := by
  refine met_M (own := RX11) (by decide) rfl (Nat.le_of_ble_eq_true rfl) ?_
  intro p e s m below meth c ls A hx hb hr hts hown hlocks hml hin hK hN hA hP hD hS hl
  have hl : lv_has ls 6 [(0, .ref x), (1, .int p0), (2, .int p1), (3, .int p2), (4, .int p3), (5, .int p4)] := hl
  have hP : va_P (dC, dI) vwCl [(x, .inr (11, [.ref x_tape, .ref x_houseReader, .ref x_ruleReader, .ref x_rules, .ref x_now, .ref x_images, .ref x_past, .ref x_laundry, .ref x_orders, .ref x_contest, .ref x_asked, .ref x_tally, .int 0, .ref x_draft])), (x_tape, .inr (10, [.ref x_bytes, .int 0, .int 0, .int 0, .int 0, .int 0])), (x_bytes, .inl (kA 1, 400, .inl (fun _ => 0)))] s.heap := hP
  have hD : va_D A [(x, .inr (11, [.ref x_tape, .ref x_houseReader, .ref x_ruleReader, .ref x_rules, .ref x_now, .ref x_images, .ref x_past, .ref x_laundry, .ref x_orders, .ref x_contest, .ref x_asked, .ref x_tally, .int 0, .ref x_draft])), (x_tape, .inr (10, [.ref x_bytes, .int 0, .int 0, .int 0, .int 0, .int 0])), (x_bytes, .inl (kA 1, 400, .inl (fun _ => 0)))] := hD
  refine lv_aload_n hx hb dX11_feed_0 rfl (lv_at hl 0 rfl) ?_
  refine va_get (D := (dC, dI)) (ci := 11) (v := .ref x_tape) (C := RX11) (T := TX11) (N := 14) hx hb hts uX11 hown hK hP 0 rfl rfl 0 (by decide) (hts _ lk_443) (fun _ h9 => h9) rfl dX11_feed_1 ?_
  have hPc := hP.sub (ws' := [(x_tape, .inr (10, [.ref x_bytes, .int 0, .int 0, .int 0, .int 0, .int 0]))]) [1] rfl
  have hDc := hD.sub (ws' := [(x_tape, .inr (10, [.ref x_bytes, .int 0, .int 0, .int 0, .int 0, .int 0]))]) [1] (by decide) rfl
  refine cP (W.runV (As := []) (rest := []) ⟨hx, hb, hml, hown, hts⟩ (c_X10_hasRoom l dC dI kA s.heap.size x_tape x_bytes ) (cwV 0 hts (gV lk_490 lk_491 lk_492 lk_111 lk_493) rfl rfl rfl (by decide +kernel) ⟨Nat.le_of_ble_eq_true rfl, Nat.le_of_ble_eq_true rfl⟩) (pw_v hPc hDc hK hN 0 10 rfl rfl) rfl rfl hl.1 rfl (lv_room (Nat.le_of_ble_eq_true rfl)) dX11_feed_4 ⟨Nat.le_of_ble_eq_true rfl, Nat.le_of_ble_eq_true rfl⟩) ?_
  refine W.eq (g2 := F0 m 7 ls [.int 1]) rfl ?_
  refine lv_if_ne (tgt := 12) hx hb dX11_feed_7 (by decide) (fun c1 => ?_) (fun c1 => ?_)
  rotate_left
  · exact False.elim (by revert c1; decide)
  refine lv_aload_n hx hb dX11_feed_12 rfl (lv_at hl 0 rfl) ?_
  refine va_get (D := (dC, dI)) (ci := 11) (v := .ref x_tape) (C := RX11) (T := TX11) (N := 14) hx hb hts uX11 hown hK hP 0 rfl rfl 0 (by decide) (hts _ lk_443) (fun _ h9 => h9) rfl dX11_feed_13 ?_
  refine lv_iload_n hx hb dX11_feed_16 rfl (lv_at hl 1 rfl) ?_
  have hPc := hP.sub (ws' := [(x_tape, .inr (10, [.ref x_bytes, .int 0, .int 0, .int 0, .int 0, .int 0])), (x_bytes, .inl (kA 1, 400, .inl (fun _ => 0)))]) [1, 2] rfl
  have hDc := hD.sub (ws' := [(x_tape, .inr (10, [.ref x_bytes, .int 0, .int 0, .int 0, .int 0, .int 0])), (x_bytes, .inl (kA 1, 400, .inl (fun _ => 0)))]) [1, 2] (by decide) rfl
  refine cM (wc := [(x_tape, .inr (10, [.ref x_bytes, .int 0, .int 0, .int 0, .int 0, .int 0])), (x_bytes, .inl (kA 1, 400, .inl (fun _ => 0)))]) (wr := [(x, .inr (11, [.ref x_tape, .ref x_houseReader, .ref x_ruleReader, .ref x_rules, .ref x_now, .ref x_images, .ref x_past, .ref x_laundry, .ref x_orders, .ref x_contest, .ref x_asked, .ref x_tally, .int 0, .ref x_draft]))]) [1, 2] [0] hP hD hS hA rfl rfl (by decide) (by decide) (va_runV (As := [.int p0]) (rest := []) ⟨hx, hb, hml, hown, hts⟩ (c_X10_put_0 l dC dI kA s.heap.size x_tape x_bytes (fun _ => 0) p0 ) (cwV 1 hts (gV lk_494 lk_495 lk_496 lk_111 lk_497) rfl rfl rfl (by decide +kernel) ⟨Nat.le_of_ble_eq_true rfl, Nat.le_of_ble_eq_true rfl⟩) (pw_v hPc hDc hK hN 0 10 rfl rfl) rfl rfl hl.1 rfl (lv_room (Nat.le_of_ble_eq_true rfl)) dX11_feed_17 ⟨Nat.le_of_ble_eq_true rfl, Nat.le_of_ble_eq_true rfl⟩) (fun w1 H1 locs hw hP hD hS => ?_)
  obtain ⟨f2, rfl⟩ := hw
  have hP : va_P (dC, dI) vwCl [(x, .inr (11, [.ref x_tape, .ref x_houseReader, .ref x_ruleReader, .ref x_rules, .ref x_now, .ref x_images, .ref x_past, .ref x_laundry, .ref x_orders, .ref x_contest, .ref x_asked, .ref x_tally, .int 0, .ref x_draft])), (x_tape, .inr (10, [.ref x_bytes, .int 4, .int 0, .int 0, .int 0, .int 0])), (x_bytes, .inl (kA 1, 400, .inl f2))] H1 := hP
  have hD : va_D A [(x, .inr (11, [.ref x_tape, .ref x_houseReader, .ref x_ruleReader, .ref x_rules, .ref x_now, .ref x_images, .ref x_past, .ref x_laundry, .ref x_orders, .ref x_contest, .ref x_asked, .ref x_tally, .int 0, .ref x_draft])), (x_tape, .inr (10, [.ref x_bytes, .int 4, .int 0, .int 0, .int 0, .int 0])), (x_bytes, .inl (kA 1, 400, .inl f2))] := hD
  refine W.eq (g2 := F0 m 20 ls []) rfl ?_
  refine lv_aload_n hx hb dX11_feed_20 rfl (lv_at hl 0 rfl) ?_
  refine va_get (D := (dC, dI)) (ci := 11) (v := .ref x_tape) (C := RX11) (T := TX11) (N := 14) hx hb hts uX11 hown hK hP 0 rfl rfl 0 (by decide) (hts _ lk_443) (fun _ h9 => h9) rfl dX11_feed_21 ?_
  refine lv_iload_n hx hb dX11_feed_24 rfl (lv_at hl 2 rfl) ?_
  have hPc := hP.sub (ws' := [(x_tape, .inr (10, [.ref x_bytes, .int 4, .int 0, .int 0, .int 0, .int 0])), (x_bytes, .inl (kA 1, 400, .inl f2))]) [1, 2] rfl
  have hDc := hD.sub (ws' := [(x_tape, .inr (10, [.ref x_bytes, .int 4, .int 0, .int 0, .int 0, .int 0])), (x_bytes, .inl (kA 1, 400, .inl f2))]) [1, 2] (by decide) rfl
  refine cM (wc := [(x_tape, .inr (10, [.ref x_bytes, .int 4, .int 0, .int 0, .int 0, .int 0])), (x_bytes, .inl (kA 1, 400, .inl f2))]) (wr := [(x, .inr (11, [.ref x_tape, .ref x_houseReader, .ref x_ruleReader, .ref x_rules, .ref x_now, .ref x_images, .ref x_past, .ref x_laundry, .ref x_orders, .ref x_contest, .ref x_asked, .ref x_tally, .int 0, .ref x_draft]))]) [1, 2] [0] hP hD hS hA rfl rfl (by decide) (by decide) (va_runV (As := [.int p1]) (rest := []) ⟨hx, hb, hml, hown, hts⟩ (c_X10_put_4 l dC dI kA H1.size x_tape x_bytes f2 p1 ) (cwV 1 hts (gV lk_494 lk_495 lk_496 lk_111 lk_497) rfl rfl rfl (by decide +kernel) ⟨Nat.le_of_ble_eq_true rfl, Nat.le_of_ble_eq_true rfl⟩) (pw_v hPc hDc hK hN 0 10 rfl rfl) rfl rfl hl.1 rfl (lv_room (Nat.le_of_ble_eq_true rfl)) dX11_feed_25 ⟨Nat.le_of_ble_eq_true rfl, Nat.le_of_ble_eq_true rfl⟩) (fun w1 H3 locs hw hP hD hS => ?_)
  obtain ⟨f4, rfl⟩ := hw
  have hP : va_P (dC, dI) vwCl [(x, .inr (11, [.ref x_tape, .ref x_houseReader, .ref x_ruleReader, .ref x_rules, .ref x_now, .ref x_images, .ref x_past, .ref x_laundry, .ref x_orders, .ref x_contest, .ref x_asked, .ref x_tally, .int 0, .ref x_draft])), (x_tape, .inr (10, [.ref x_bytes, .int 8, .int 0, .int 0, .int 0, .int 0])), (x_bytes, .inl (kA 1, 400, .inl f4))] H3 := hP
  have hD : va_D A [(x, .inr (11, [.ref x_tape, .ref x_houseReader, .ref x_ruleReader, .ref x_rules, .ref x_now, .ref x_images, .ref x_past, .ref x_laundry, .ref x_orders, .ref x_contest, .ref x_asked, .ref x_tally, .int 0, .ref x_draft])), (x_tape, .inr (10, [.ref x_bytes, .int 8, .int 0, .int 0, .int 0, .int 0])), (x_bytes, .inl (kA 1, 400, .inl f4))] := hD
  refine W.eq (g2 := F0 m 28 ls []) rfl ?_
  refine lv_aload_n hx hb dX11_feed_28 rfl (lv_at hl 0 rfl) ?_
  refine va_get (D := (dC, dI)) (ci := 11) (v := .ref x_tape) (C := RX11) (T := TX11) (N := 14) hx hb hts uX11 hown hK hP 0 rfl rfl 0 (by decide) (hts _ lk_443) (fun _ h9 => h9) rfl dX11_feed_29 ?_
  refine lv_iload_n hx hb dX11_feed_32 rfl (lv_at hl 3 rfl) ?_
  have hPc := hP.sub (ws' := [(x_tape, .inr (10, [.ref x_bytes, .int 8, .int 0, .int 0, .int 0, .int 0])), (x_bytes, .inl (kA 1, 400, .inl f4))]) [1, 2] rfl
  have hDc := hD.sub (ws' := [(x_tape, .inr (10, [.ref x_bytes, .int 8, .int 0, .int 0, .int 0, .int 0])), (x_bytes, .inl (kA 1, 400, .inl f4))]) [1, 2] (by decide) rfl
  refine cM (wc := [(x_tape, .inr (10, [.ref x_bytes, .int 8, .int 0, .int 0, .int 0, .int 0])), (x_bytes, .inl (kA 1, 400, .inl f4))]) (wr := [(x, .inr (11, [.ref x_tape, .ref x_houseReader, .ref x_ruleReader, .ref x_rules, .ref x_now, .ref x_images, .ref x_past, .ref x_laundry, .ref x_orders, .ref x_contest, .ref x_asked, .ref x_tally, .int 0, .ref x_draft]))]) [1, 2] [0] hP hD hS hA rfl rfl (by decide) (by decide) (va_runV (As := [.int p2]) (rest := []) ⟨hx, hb, hml, hown, hts⟩ (c_X10_put_8 l dC dI kA H3.size x_tape x_bytes f4 p2 ) (cwV 1 hts (gV lk_494 lk_495 lk_496 lk_111 lk_497) rfl rfl rfl (by decide +kernel) ⟨Nat.le_of_ble_eq_true rfl, Nat.le_of_ble_eq_true rfl⟩) (pw_v hPc hDc hK hN 0 10 rfl rfl) rfl rfl hl.1 rfl (lv_room (Nat.le_of_ble_eq_true rfl)) dX11_feed_33 ⟨Nat.le_of_ble_eq_true rfl, Nat.le_of_ble_eq_true rfl⟩) (fun w1 H5 locs hw hP hD hS => ?_)
  obtain ⟨f6, rfl⟩ := hw
  have hP : va_P (dC, dI) vwCl [(x, .inr (11, [.ref x_tape, .ref x_houseReader, .ref x_ruleReader, .ref x_rules, .ref x_now, .ref x_images, .ref x_past, .ref x_laundry, .ref x_orders, .ref x_contest, .ref x_asked, .ref x_tally, .int 0, .ref x_draft])), (x_tape, .inr (10, [.ref x_bytes, .int 12, .int 0, .int 0, .int 0, .int 0])), (x_bytes, .inl (kA 1, 400, .inl f6))] H5 := hP
  have hD : va_D A [(x, .inr (11, [.ref x_tape, .ref x_houseReader, .ref x_ruleReader, .ref x_rules, .ref x_now, .ref x_images, .ref x_past, .ref x_laundry, .ref x_orders, .ref x_contest, .ref x_asked, .ref x_tally, .int 0, .ref x_draft])), (x_tape, .inr (10, [.ref x_bytes, .int 12, .int 0, .int 0, .int 0, .int 0])), (x_bytes, .inl (kA 1, 400, .inl f6))] := hD
  refine W.eq (g2 := F0 m 36 ls []) rfl ?_
  refine lv_aload_n hx hb dX11_feed_36 rfl (lv_at hl 0 rfl) ?_
  refine va_get (D := (dC, dI)) (ci := 11) (v := .ref x_tape) (C := RX11) (T := TX11) (N := 14) hx hb hts uX11 hown hK hP 0 rfl rfl 0 (by decide) (hts _ lk_443) (fun _ h9 => h9) rfl dX11_feed_37 ?_
  refine lv_iload hx hb dX11_feed_40 (lv_at hl 4 rfl) ?_
  have hPc := hP.sub (ws' := [(x_tape, .inr (10, [.ref x_bytes, .int 12, .int 0, .int 0, .int 0, .int 0])), (x_bytes, .inl (kA 1, 400, .inl f6))]) [1, 2] rfl
  have hDc := hD.sub (ws' := [(x_tape, .inr (10, [.ref x_bytes, .int 12, .int 0, .int 0, .int 0, .int 0])), (x_bytes, .inl (kA 1, 400, .inl f6))]) [1, 2] (by decide) rfl
  refine cM (wc := [(x_tape, .inr (10, [.ref x_bytes, .int 12, .int 0, .int 0, .int 0, .int 0])), (x_bytes, .inl (kA 1, 400, .inl f6))]) (wr := [(x, .inr (11, [.ref x_tape, .ref x_houseReader, .ref x_ruleReader, .ref x_rules, .ref x_now, .ref x_images, .ref x_past, .ref x_laundry, .ref x_orders, .ref x_contest, .ref x_asked, .ref x_tally, .int 0, .ref x_draft]))]) [1, 2] [0] hP hD hS hA rfl rfl (by decide) (by decide) (va_runV (As := [.int p3]) (rest := []) ⟨hx, hb, hml, hown, hts⟩ (c_X10_put_12 l dC dI kA H5.size x_tape x_bytes f6 p3 ) (cwV 1 hts (gV lk_494 lk_495 lk_496 lk_111 lk_497) rfl rfl rfl (by decide +kernel) ⟨Nat.le_of_ble_eq_true rfl, Nat.le_of_ble_eq_true rfl⟩) (pw_v hPc hDc hK hN 0 10 rfl rfl) rfl rfl hl.1 rfl (lv_room (Nat.le_of_ble_eq_true rfl)) dX11_feed_42 ⟨Nat.le_of_ble_eq_true rfl, Nat.le_of_ble_eq_true rfl⟩) (fun w1 H7 locs hw hP hD hS => ?_)
  obtain ⟨f8, rfl⟩ := hw
  have hP : va_P (dC, dI) vwCl [(x, .inr (11, [.ref x_tape, .ref x_houseReader, .ref x_ruleReader, .ref x_rules, .ref x_now, .ref x_images, .ref x_past, .ref x_laundry, .ref x_orders, .ref x_contest, .ref x_asked, .ref x_tally, .int 0, .ref x_draft])), (x_tape, .inr (10, [.ref x_bytes, .int 16, .int 0, .int 0, .int 0, .int 0])), (x_bytes, .inl (kA 1, 400, .inl f8))] H7 := hP
  have hD : va_D A [(x, .inr (11, [.ref x_tape, .ref x_houseReader, .ref x_ruleReader, .ref x_rules, .ref x_now, .ref x_images, .ref x_past, .ref x_laundry, .ref x_orders, .ref x_contest, .ref x_asked, .ref x_tally, .int 0, .ref x_draft])), (x_tape, .inr (10, [.ref x_bytes, .int 16, .int 0, .int 0, .int 0, .int 0])), (x_bytes, .inl (kA 1, 400, .inl f8))] := hD
  refine W.eq (g2 := F0 m 45 ls []) rfl ?_
  refine lv_aload_n hx hb dX11_feed_45 rfl (lv_at hl 0 rfl) ?_
  refine va_get (D := (dC, dI)) (ci := 11) (v := .ref x_tape) (C := RX11) (T := TX11) (N := 14) hx hb hts uX11 hown hK hP 0 rfl rfl 0 (by decide) (hts _ lk_443) (fun _ h9 => h9) rfl dX11_feed_46 ?_
  refine lv_iload hx hb dX11_feed_49 (lv_at hl 5 rfl) ?_
  have hPc := hP.sub (ws' := [(x_tape, .inr (10, [.ref x_bytes, .int 16, .int 0, .int 0, .int 0, .int 0])), (x_bytes, .inl (kA 1, 400, .inl f8))]) [1, 2] rfl
  have hDc := hD.sub (ws' := [(x_tape, .inr (10, [.ref x_bytes, .int 16, .int 0, .int 0, .int 0, .int 0])), (x_bytes, .inl (kA 1, 400, .inl f8))]) [1, 2] (by decide) rfl
  refine cM (wc := [(x_tape, .inr (10, [.ref x_bytes, .int 16, .int 0, .int 0, .int 0, .int 0])), (x_bytes, .inl (kA 1, 400, .inl f8))]) (wr := [(x, .inr (11, [.ref x_tape, .ref x_houseReader, .ref x_ruleReader, .ref x_rules, .ref x_now, .ref x_images, .ref x_past, .ref x_laundry, .ref x_orders, .ref x_contest, .ref x_asked, .ref x_tally, .int 0, .ref x_draft]))]) [1, 2] [0] hP hD hS hA rfl rfl (by decide) (by decide) (va_runV (As := [.int p4]) (rest := []) ⟨hx, hb, hml, hown, hts⟩ (c_X10_put_16 l dC dI kA H7.size x_tape x_bytes f8 p4 ) (cwV 1 hts (gV lk_494 lk_495 lk_496 lk_111 lk_497) rfl rfl rfl (by decide +kernel) ⟨Nat.le_of_ble_eq_true rfl, Nat.le_of_ble_eq_true rfl⟩) (pw_v hPc hDc hK hN 0 10 rfl rfl) rfl rfl hl.1 rfl (lv_room (Nat.le_of_ble_eq_true rfl)) dX11_feed_51 ⟨Nat.le_of_ble_eq_true rfl, Nat.le_of_ble_eq_true rfl⟩) (fun w1 H9 locs hw hP hD hS => ?_)
  obtain ⟨f10, rfl⟩ := hw
  have hP : va_P (dC, dI) vwCl [(x, .inr (11, [.ref x_tape, .ref x_houseReader, .ref x_ruleReader, .ref x_rules, .ref x_now, .ref x_images, .ref x_past, .ref x_laundry, .ref x_orders, .ref x_contest, .ref x_asked, .ref x_tally, .int 0, .ref x_draft])), (x_tape, .inr (10, [.ref x_bytes, .int 20, .int 0, .int 0, .int 0, .int 0])), (x_bytes, .inl (kA 1, 400, .inl f10))] H9 := hP
  have hD : va_D A [(x, .inr (11, [.ref x_tape, .ref x_houseReader, .ref x_ruleReader, .ref x_rules, .ref x_now, .ref x_images, .ref x_past, .ref x_laundry, .ref x_orders, .ref x_contest, .ref x_asked, .ref x_tally, .int 0, .ref x_draft])), (x_tape, .inr (10, [.ref x_bytes, .int 20, .int 0, .int 0, .int 0, .int 0])), (x_bytes, .inl (kA 1, 400, .inl f10))] := hD
  refine W.eq (g2 := F0 m 54 ls []) rfl ?_
  refine lv_aload_n hx hb dX11_feed_54 rfl (lv_at hl 0 rfl) ?_
  refine va_get (D := (dC, dI)) (ci := 11) (v := .ref x_tape) (C := RX11) (T := TX11) (N := 14) hx hb hts uX11 hown hK hP 0 rfl rfl 0 (by decide) (hts _ lk_443) (fun _ h9 => h9) rfl dX11_feed_55 ?_
  refine va_get (D := (dC, dI)) (ci := 10) (v := .int 20) (C := RX10) (T := TX10) (N := 6) hx hb hts uX10 hown hK hP 1 rfl rfl 1 (by decide) (hts _ lk_147) (fun _ h9 => h9) rfl dX11_feed_58 ?_
  refine W.widen (k := 0) (n := 0) (Nat.le_of_ble_eq_true rfl) (Nat.le_of_ble_eq_true rfl) ?_
  have hP9 := hP.sub (ws' := []) [] rfl
  have hD9 := hD.sub (ws' := []) [] (by decide) rfl
  exact rM_i hx hb hr hlocks hP9 hD9 hS rfl dX11_feed_61

set_option maxHeartbeats 4000000 in
set_option maxRecDepth 100000 in
theorem c_X11_end_0 (l : Launch) (dC : Nat → ClassId) (dI : Nat → Nat → Nat) (kA : Nat → ClassId) (sz : Nat) (x : Nat) (x_tape : Nat) (x_houseReader : Nat) (x_ruleReader : Nat) (x_rules : Nat) (x_now : Nat) (x_images : Nat) (x_past : Nat) (x_laundry : Nat) (x_orders : Nat) (x_contest : Nat) (x_asked : Nat) (x_tally : Nat) (x_draft : Nat) (x_bytes : Nat)  : Met l yX11_end (wsU yX11_end cX11_end 2 (some .int)) ({ frames := 0, cells := 0, slots := 0, locals := 0 }) (va_Pc [.ref x, .int 0] (PW dC dI kA [(x, .inr (11, [.ref x_tape, .ref x_houseReader, .ref x_ruleReader, .ref x_rules, .ref x_now, .ref x_images, .ref x_past, .ref x_laundry, .ref x_orders, .ref x_contest, .ref x_asked, .ref x_tally, .int 0, .ref x_draft])), (x_tape, .inr (10, [.ref x_bytes, .int 0, .int 0, .int 0, .int 0, .int 0]))] sz)) (QU dC dI (some (.int 0)) (fun w => w = []) (va_A [(x, .inr (11, [.ref x_tape, .ref x_houseReader, .ref x_ruleReader, .ref x_rules, .ref x_now, .ref x_images, .ref x_past, .ref x_laundry, .ref x_orders, .ref x_contest, .ref x_asked, .ref x_tally, .int 0, .ref x_draft])), (x_tape, .inr (10, [.ref x_bytes, .int 0, .int 0, .int 0, .int 0, .int 0]))] sz)) 0 0 (va_A [(x, .inr (11, [.ref x_tape, .ref x_houseReader, .ref x_ruleReader, .ref x_rules, .ref x_now, .ref x_images, .ref x_past, .ref x_laundry, .ref x_orders, .ref x_contest, .ref x_asked, .ref x_tally, .int 0, .ref x_draft])), (x_tape, .inr (10, [.ref x_bytes, .int 0, .int 0, .int 0, .int 0, .int 0]))] sz) := by
  refine met_M (own := RX11) (by decide) rfl (Nat.le_of_ble_eq_true rfl) ?_
  intro p e s m below meth c ls A hx hb hr hts hown hlocks hml hin hK hN hA hP hD hS hl
  have hl : lv_has ls 2 [(0, .ref x), (1, .int 0)] := hl
  have hP : va_P (dC, dI) vwCl [(x, .inr (11, [.ref x_tape, .ref x_houseReader, .ref x_ruleReader, .ref x_rules, .ref x_now, .ref x_images, .ref x_past, .ref x_laundry, .ref x_orders, .ref x_contest, .ref x_asked, .ref x_tally, .int 0, .ref x_draft])), (x_tape, .inr (10, [.ref x_bytes, .int 0, .int 0, .int 0, .int 0, .int 0]))] s.heap := hP
  have hD : va_D A [(x, .inr (11, [.ref x_tape, .ref x_houseReader, .ref x_ruleReader, .ref x_rules, .ref x_now, .ref x_images, .ref x_past, .ref x_laundry, .ref x_orders, .ref x_contest, .ref x_asked, .ref x_tally, .int 0, .ref x_draft])), (x_tape, .inr (10, [.ref x_bytes, .int 0, .int 0, .int 0, .int 0, .int 0]))] := hD
  refine lv_iload_n hx hb dX11_end_0 rfl (lv_at hl 1 rfl) ?_
  refine lv_if_lt (tgt := 15) hx hb dX11_end_1 (by decide) (fun c1 => ?_) (fun c1 => ?_)
  · exact False.elim (by revert c1; decide)
  refine lv_iload_n hx hb dX11_end_4 rfl (lv_at hl 1 rfl) ?_
  refine lv_aload_n hx hb dX11_end_5 rfl (lv_at hl 0 rfl) ?_
  refine va_get (D := (dC, dI)) (ci := 11) (v := .ref x_tape) (C := RX11) (T := TX11) (N := 14) hx hb hts uX11 hown hK hP 0 rfl rfl 0 (by decide) (hts _ lk_443) (fun _ h9 => h9) rfl dX11_end_6 ?_
  refine va_get (D := (dC, dI)) (ci := 10) (v := .int 0) (C := RX10) (T := TX10) (N := 6) hx hb hts uX10 hown hK hP 1 rfl rfl 1 (by decide) (hts _ lk_147) (fun _ h9 => h9) rfl dX11_end_9 ?_
  refine lv_icmp_le (tgt := 17) hx hb dX11_end_12 (by decide) (fun c2 => ?_) (fun c2 => ?_)
  rotate_left
  · exact False.elim (by revert c2; decide)
  refine lv_aload_n hx hb dX11_end_17 rfl (lv_at hl 0 rfl) ?_
  refine va_get (D := (dC, dI)) (ci := 11) (v := .ref x_tape) (C := RX11) (T := TX11) (N := 14) hx hb hts uX11 hown hK hP 0 rfl rfl 0 (by decide) (hts _ lk_443) (fun _ h9 => h9) rfl dX11_end_18 ?_
  refine lv_iload_n hx hb dX11_end_21 rfl (lv_at hl 1 rfl) ?_
  refine va_put (D := (dC, dI)) (ci := 10) (v := .int 0) (ty := .int) (C := RX10) (T := TX10) (N := 6) hx hb hts uX10 tyX10 tyX10_ok nmX10 hown hK hP hD hS 1 rfl rfl 1 (by decide) (hts _ lk_147) (fun _ h9 => h9) rfl (by decide +kernel) rfl rfl (Nat.le_of_ble_eq_true rfl) dX11_end_22 (fun H1 locs hP hD hS => ?_)
  have hP : va_P (dC, dI) vwCl [(x, .inr (11, [.ref x_tape, .ref x_houseReader, .ref x_ruleReader, .ref x_rules, .ref x_now, .ref x_images, .ref x_past, .ref x_laundry, .ref x_orders, .ref x_contest, .ref x_asked, .ref x_tally, .int 0, .ref x_draft])), (x_tape, .inr (10, [.ref x_bytes, .int 0, .int 0, .int 0, .int 0, .int 0]))] H1 := hP
  have hD : va_D A [(x, .inr (11, [.ref x_tape, .ref x_houseReader, .ref x_ruleReader, .ref x_rules, .ref x_now, .ref x_images, .ref x_past, .ref x_laundry, .ref x_orders, .ref x_contest, .ref x_asked, .ref x_tally, .int 0, .ref x_draft])), (x_tape, .inr (10, [.ref x_bytes, .int 0, .int 0, .int 0, .int 0, .int 0]))] := hD
  refine lv_iload_n hx hb dX11_end_25 rfl (lv_at hl 1 rfl) ?_
  refine W.widen (k := 0) (n := 0) (Nat.le_of_ble_eq_true rfl) (Nat.le_of_ble_eq_true rfl) ?_
  have hP9 := hP.sub (ws' := []) [] rfl
  have hD9 := hD.sub (ws' := []) [] (by decide) rfl
  exact rM_i hx hb hr hlocks hP9 hD9 hS rfl dX11_end_26

set_option maxHeartbeats 4000000 in
set_option maxRecDepth 100000 in
theorem c_X11_end_n (l : Launch) (dC : Nat → ClassId) (dI : Nat → Nat → Nat) (kA : Nat → ClassId) (sz : Nat) (x : Nat) (x_tape : Nat) (x_houseReader : Nat) (x_ruleReader : Nat) (x_rules : Nat) (x_now : Nat) (x_images : Nat) (x_past : Nat) (x_laundry : Nat) (x_orders : Nat) (x_contest : Nat) (x_asked : Nat) (x_tally : Nat) (x_draft : Nat) (x_bytes : Nat) (p0 : Int32) (h1 : p0 < 0 ∨ 0 < p0) : Met l yX11_end (wsU yX11_end cX11_end 2 (some .int)) ({ frames := 0, cells := 0, slots := 0, locals := 0 }) (va_Pc [.ref x, .int p0] (PW dC dI kA [(x, .inr (11, [.ref x_tape, .ref x_houseReader, .ref x_ruleReader, .ref x_rules, .ref x_now, .ref x_images, .ref x_past, .ref x_laundry, .ref x_orders, .ref x_contest, .ref x_asked, .ref x_tally, .int 0, .ref x_draft])), (x_tape, .inr (10, [.ref x_bytes, .int 0, .int 0, .int 0, .int 0, .int 0]))] sz)) (QP (some (.int (-1)))) 0 0 (fun _ => False) := by
  refine met_P (own := RX11) (by decide) rfl (Nat.le_of_ble_eq_true rfl) ?_
  intro p e s m below meth c ls hx hb hr hts hown hlocks hml hK hN hP hD hl
  have hl : lv_has ls 2 [(0, .ref x), (1, .int p0)] := hl
  have hP : va_P (dC, dI) vwCl [(x, .inr (11, [.ref x_tape, .ref x_houseReader, .ref x_ruleReader, .ref x_rules, .ref x_now, .ref x_images, .ref x_past, .ref x_laundry, .ref x_orders, .ref x_contest, .ref x_asked, .ref x_tally, .int 0, .ref x_draft])), (x_tape, .inr (10, [.ref x_bytes, .int 0, .int 0, .int 0, .int 0, .int 0]))] s.heap := hP
  refine lv_iload_n hx hb dX11_end_0 rfl (lv_at hl 1 rfl) ?_
  refine lv_if_lt (tgt := 15) hx hb dX11_end_1 (by decide) (fun c1 => ?_) (fun c1 => ?_)
  · skip
    refine lv_iconst (v := (-1)) hx hb dX11_end_15 (by decide) ?_
    exact rP_i hx hb hr hlocks dX11_end_16
  · skip
    refine lv_iload_n hx hb dX11_end_4 rfl (lv_at hl 1 rfl) ?_
    refine lv_aload_n hx hb dX11_end_5 rfl (lv_at hl 0 rfl) ?_
    refine va_get (D := (dC, dI)) (ci := 11) (v := .ref x_tape) (C := RX11) (T := TX11) (N := 14) hx hb hts uX11 hown hK hP 0 rfl rfl 0 (by decide) (hts _ lk_443) (fun _ h9 => h9) rfl dX11_end_6 ?_
    refine va_get (D := (dC, dI)) (ci := 10) (v := .int 0) (C := RX10) (T := TX10) (N := 6) hx hb hts uX10 hown hK hP 1 rfl rfl 1 (by decide) (hts _ lk_147) (fun _ h9 => h9) rfl dX11_end_9 ?_
    refine lv_icmp_le (tgt := 17) hx hb dX11_end_12 (by decide) (fun c2 => ?_) (fun c2 => ?_)
    · exact absurd h1 (not_or.mpr ⟨c1, Int32.not_lt.mpr c2⟩)
    refine lv_iconst (v := (-1)) hx hb dX11_end_15 (by decide) ?_
    exact rP_i hx hb hr hlocks dX11_end_16

set_option maxHeartbeats 4000000 in
set_option maxRecDepth 100000 in
theorem c_X11_force_m (l : Launch) (dC : Nat → ClassId) (dI : Nat → Nat → Nat) (kA : Nat → ClassId) (sz : Nat) (x : Nat) (x_tape : Nat) (x_houseReader : Nat) (x_ruleReader : Nat) (x_rules : Nat) (x_now : Nat) (x_images : Nat) (x_past : Nat) (x_laundry : Nat) (x_orders : Nat) (x_contest : Nat) (x_asked : Nat) (x_tally : Nat) (x_draft : Nat) (n_house : Nat) (n_linen : Nat) (n_noteWeeks : Nat) (n_noteBeds : Nat) (n_noteSheets : Nat)  : Met l yX11_force (wsU yX11_force cX11_force 3 (some .int)) ({ frames := 0, cells := 0, slots := 0, locals := 0 }) (va_Pc [.ref x, .int (-1)] (PW dC dI kA [(x, .inr (11, [.ref x_tape, .ref x_houseReader, .ref x_ruleReader, .ref x_rules, .ref x_now, .ref x_images, .ref x_past, .ref x_laundry, .ref x_orders, .ref x_contest, .ref x_asked, .ref x_tally, .int 0, .ref x_draft])), (x_now, .inr (3, [.ref n_house, .ref n_linen, .ref n_noteWeeks, .ref n_noteBeds, .ref n_noteSheets, .int 0, .int (-1), .int 0, .int 0]))] sz)) (QU dC dI (some (.int (-1))) (fun w => w = []) (va_A [(x, .inr (11, [.ref x_tape, .ref x_houseReader, .ref x_ruleReader, .ref x_rules, .ref x_now, .ref x_images, .ref x_past, .ref x_laundry, .ref x_orders, .ref x_contest, .ref x_asked, .ref x_tally, .int 0, .ref x_draft])), (x_now, .inr (3, [.ref n_house, .ref n_linen, .ref n_noteWeeks, .ref n_noteBeds, .ref n_noteSheets, .int 0, .int (-1), .int 0, .int 0]))] sz)) 0 0 (va_A [(x, .inr (11, [.ref x_tape, .ref x_houseReader, .ref x_ruleReader, .ref x_rules, .ref x_now, .ref x_images, .ref x_past, .ref x_laundry, .ref x_orders, .ref x_contest, .ref x_asked, .ref x_tally, .int 0, .ref x_draft])), (x_now, .inr (3, [.ref n_house, .ref n_linen, .ref n_noteWeeks, .ref n_noteBeds, .ref n_noteSheets, .int 0, .int (-1), .int 0, .int 0]))] sz) := by
  refine met_M (own := RX11) (by decide) rfl (Nat.le_of_ble_eq_true rfl) ?_
  intro p e s m below meth c ls A hx hb hr hts hown hlocks hml hin hK hN hA hP hD hS hl
  have hl : lv_has ls 3 [(0, .ref x), (1, .int (-1))] := hl
  have hP : va_P (dC, dI) vwCl [(x, .inr (11, [.ref x_tape, .ref x_houseReader, .ref x_ruleReader, .ref x_rules, .ref x_now, .ref x_images, .ref x_past, .ref x_laundry, .ref x_orders, .ref x_contest, .ref x_asked, .ref x_tally, .int 0, .ref x_draft])), (x_now, .inr (3, [.ref n_house, .ref n_linen, .ref n_noteWeeks, .ref n_noteBeds, .ref n_noteSheets, .int 0, .int (-1), .int 0, .int 0]))] s.heap := hP
  have hD : va_D A [(x, .inr (11, [.ref x_tape, .ref x_houseReader, .ref x_ruleReader, .ref x_rules, .ref x_now, .ref x_images, .ref x_past, .ref x_laundry, .ref x_orders, .ref x_contest, .ref x_asked, .ref x_tally, .int 0, .ref x_draft])), (x_now, .inr (3, [.ref n_house, .ref n_linen, .ref n_noteWeeks, .ref n_noteBeds, .ref n_noteSheets, .int 0, .int (-1), .int 0, .int 0]))] := hD
  refine lv_iload_n hx hb dX11_force_0 rfl (lv_at hl 1 rfl) ?_
  refine lv_iconst (v := (-1)) hx hb dX11_force_1 (by decide) ?_
  refine lv_icmp_lt (tgt := 13) hx hb dX11_force_2 (by decide) (fun c1 => ?_) (fun c1 => ?_)
  · exact False.elim (by revert c1; decide)
  refine lv_iload_n hx hb dX11_force_5 rfl (lv_at hl 1 rfl) ?_
  refine lv_aload_n hx hb dX11_force_6 rfl (lv_at hl 0 rfl) ?_
  refine va_get (D := (dC, dI)) (ci := 11) (v := .int 0) (C := RX11) (T := TX11) (N := 14) hx hb hts uX11 hown hK hP 0 rfl rfl 12 (by decide) (hts _ lk_455) (fun _ h9 => h9) rfl dX11_force_7 ?_
  refine lv_icmp_lt (tgt := 16) hx hb dX11_force_10 (by decide) (fun c2 => ?_) (fun c2 => ?_)
  rotate_left
  · exact False.elim (by revert c2; decide)
  refine lv_aload_n hx hb dX11_force_16 rfl (lv_at hl 0 rfl) ?_
  refine va_get (D := (dC, dI)) (ci := 11) (v := .ref x_now) (C := RX11) (T := TX11) (N := 14) hx hb hts uX11 hown hK hP 0 rfl rfl 4 (by decide) (hts _ lk_447) (fun _ h9 => h9) rfl dX11_force_17 ?_
  refine va_get (D := (dC, dI)) (ci := 3) (v := .int (-1)) (C := RX3) (T := TX3) (N := 9) hx hb hts uX3 hown hK hP 1 rfl rfl 6 (by decide) (hts _ lk_325) (fun _ h9 => h9) rfl dX11_force_20 ?_
  refine lv_istore_n (lv' := [(2, .int (-1)), (0, .ref x), (1, .int (-1))]) hx hb dX11_force_23 rfl hl (by decide) rfl (fun ls hl => ?_)
  refine lv_aload_n hx hb dX11_force_24 rfl (lv_at hl 1 rfl) ?_
  refine va_get (D := (dC, dI)) (ci := 11) (v := .ref x_now) (C := RX11) (T := TX11) (N := 14) hx hb hts uX11 hown hK hP 0 rfl rfl 4 (by decide) (hts _ lk_447) (fun _ h9 => h9) rfl dX11_force_25 ?_
  refine lv_iload_n hx hb dX11_force_28 rfl (lv_at hl 2 rfl) ?_
  refine va_put (D := (dC, dI)) (ci := 3) (v := .int (-1)) (ty := .int) (C := RX3) (T := TX3) (N := 9) hx hb hts uX3 tyX3 tyX3_ok nmX3 hown hK hP hD hS 1 rfl rfl 6 (by decide) (hts _ lk_325) (fun _ h9 => h9) rfl (by decide +kernel) rfl rfl (Nat.le_of_ble_eq_true rfl) dX11_force_29 (fun H1 locs hP hD hS => ?_)
  have hP : va_P (dC, dI) vwCl [(x, .inr (11, [.ref x_tape, .ref x_houseReader, .ref x_ruleReader, .ref x_rules, .ref x_now, .ref x_images, .ref x_past, .ref x_laundry, .ref x_orders, .ref x_contest, .ref x_asked, .ref x_tally, .int 0, .ref x_draft])), (x_now, .inr (3, [.ref n_house, .ref n_linen, .ref n_noteWeeks, .ref n_noteBeds, .ref n_noteSheets, .int 0, .int (-1), .int 0, .int 0]))] H1 := hP
  have hD : va_D A [(x, .inr (11, [.ref x_tape, .ref x_houseReader, .ref x_ruleReader, .ref x_rules, .ref x_now, .ref x_images, .ref x_past, .ref x_laundry, .ref x_orders, .ref x_contest, .ref x_asked, .ref x_tally, .int 0, .ref x_draft])), (x_now, .inr (3, [.ref n_house, .ref n_linen, .ref n_noteWeeks, .ref n_noteBeds, .ref n_noteSheets, .int 0, .int (-1), .int 0, .int 0]))] := hD
  refine lv_iload_n hx hb dX11_force_32 rfl (lv_at hl 0 rfl) ?_
  refine W.widen (k := 0) (n := 0) (Nat.le_of_ble_eq_true rfl) (Nat.le_of_ble_eq_true rfl) ?_
  have hP9 := hP.sub (ws' := []) [] rfl
  have hD9 := hD.sub (ws' := []) [] (by decide) rfl
  exact rM_i hx hb hr hlocks hP9 hD9 hS rfl dX11_force_33

set_option maxHeartbeats 4000000 in
set_option maxRecDepth 100000 in
theorem c_X11_force_n (l : Launch) (dC : Nat → ClassId) (dI : Nat → Nat → Nat) (kA : Nat → ClassId) (sz : Nat) (x : Nat) (x_tape : Nat) (x_houseReader : Nat) (x_ruleReader : Nat) (x_rules : Nat) (x_now : Nat) (x_images : Nat) (x_past : Nat) (x_laundry : Nat) (x_orders : Nat) (x_contest : Nat) (x_asked : Nat) (x_tally : Nat) (x_draft : Nat) (p0 : Int32) (h1 : ¬ p0 = -1) : Met l yX11_force (wsU yX11_force cX11_force 3 (some .int)) ({ frames := 0, cells := 0, slots := 0, locals := 0 }) (va_Pc [.ref x, .int p0] (PW dC dI kA [(x, .inr (11, [.ref x_tape, .ref x_houseReader, .ref x_ruleReader, .ref x_rules, .ref x_now, .ref x_images, .ref x_past, .ref x_laundry, .ref x_orders, .ref x_contest, .ref x_asked, .ref x_tally, .int 0, .ref x_draft]))] sz)) (QP (some (.int (-2)))) 0 0 (fun _ => False) := by
  refine met_P (own := RX11) (by decide) rfl (Nat.le_of_ble_eq_true rfl) ?_
  intro p e s m below meth c ls hx hb hr hts hown hlocks hml hK hN hP hD hl
  have hl : lv_has ls 3 [(0, .ref x), (1, .int p0)] := hl
  have hP : va_P (dC, dI) vwCl [(x, .inr (11, [.ref x_tape, .ref x_houseReader, .ref x_ruleReader, .ref x_rules, .ref x_now, .ref x_images, .ref x_past, .ref x_laundry, .ref x_orders, .ref x_contest, .ref x_asked, .ref x_tally, .int 0, .ref x_draft]))] s.heap := hP
  refine lv_iload_n hx hb dX11_force_0 rfl (lv_at hl 1 rfl) ?_
  refine lv_iconst (v := (-1)) hx hb dX11_force_1 (by decide) ?_
  refine lv_icmp_lt (tgt := 13) hx hb dX11_force_2 (by decide) (fun c1 => ?_) (fun c1 => ?_)
  · skip
    refine lv_bipush (v := (-2)) hx hb dX11_force_13 (by decide) ?_
    exact rP_i hx hb hr hlocks dX11_force_15
  · skip
    refine lv_iload_n hx hb dX11_force_5 rfl (lv_at hl 1 rfl) ?_
    refine lv_aload_n hx hb dX11_force_6 rfl (lv_at hl 0 rfl) ?_
    refine va_get (D := (dC, dI)) (ci := 11) (v := .int 0) (C := RX11) (T := TX11) (N := 14) hx hb hts uX11 hown hK hP 0 rfl rfl 12 (by decide) (hts _ lk_455) (fun _ h9 => h9) rfl dX11_force_7 ?_
    refine lv_icmp_lt (tgt := 16) hx hb dX11_force_10 (by decide) (fun c2 => ?_) (fun c2 => ?_)
    · exact False.elim (fx3 c1 h1 c2)
    refine lv_bipush (v := (-2)) hx hb dX11_force_13 (by decide) ?_
    exact rP_i hx hb hr hlocks dX11_force_15

set_option maxHeartbeats 4000000 in
set_option maxRecDepth 100000 in
theorem c_X5_letBits (l : Launch) (dC : Nat → ClassId) (dI : Nat → Nat → Nat) (kA : Nat → ClassId) (sz : Nat) (n_linen : Nat) (n_house : Nat) (nl_on : Nat) (nl_grade : Nat) (nl_worn : Nat) (nl_was : Nat) (nh_grades : Nat) (nh_wants : Nat) (nh_mixWeeks : Nat) (nh_mixOnes : Nat) (nh_mixOthers : Nat)  : Met l yX5_letBits (wsU yX5_letBits cX5_letBits 4 (some .int)) ({ frames := 0, cells := 0, slots := 0, locals := 0 }) (va_Pc [.ref n_linen, .ref n_house] (PW dC dI kA [(n_linen, .inr (5, [.ref nl_on, .ref nl_grade, .ref nl_worn, .ref nl_was, .int 0])), (n_house, .inr (1, [.int 0, .int 0, .int 0, .int 0, .int 0, .ref nh_grades, .ref nh_wants, .ref nh_mixWeeks, .ref nh_mixOnes, .ref nh_mixOthers]))] sz)) (QP (some (.int 0))) 0 0 (fun _ => False) := by
  refine met_P (own := RX5) (by decide) rfl (Nat.le_of_ble_eq_true rfl) ?_
  intro p e s m below meth c ls hx hb hr hts hown hlocks hml hK hN hP hD hl
  have hl : lv_has ls 4 [(0, .ref n_linen), (1, .ref n_house)] := hl
  have hP : va_P (dC, dI) vwCl [(n_linen, .inr (5, [.ref nl_on, .ref nl_grade, .ref nl_worn, .ref nl_was, .int 0])), (n_house, .inr (1, [.int 0, .int 0, .int 0, .int 0, .int 0, .ref nh_grades, .ref nh_wants, .ref nh_mixWeeks, .ref nh_mixOnes, .ref nh_mixOthers]))] s.heap := hP
  refine lv_iconst (v := 0) hx hb dX5_letBits_0 (by decide) ?_
  refine lv_istore_n (lv' := [(2, .int 0), (0, .ref n_linen), (1, .ref n_house)]) hx hb dX5_letBits_1 rfl hl (by decide) rfl (fun ls hl => ?_)
  refine lv_iconst (v := 0) hx hb dX5_letBits_2 (by decide) ?_
  refine lv_istore_n (lv' := [(3, .int 0), (2, .int 0), (0, .ref n_linen), (1, .ref n_house)]) hx hb dX5_letBits_3 rfl hl (by decide) rfl (fun ls hl => ?_)
  refine lv_iload_n hx hb dX5_letBits_4 rfl (lv_at hl 0 rfl) ?_
  refine lv_aload_n hx hb dX5_letBits_5 rfl (lv_at hl 3 rfl) ?_
  refine va_get (D := (dC, dI)) (ci := 1) (v := .int 0) (C := RX1) (T := TX1) (N := 10) hx hb hts uX1 hown hK hP 1 rfl rfl 3 (by decide) (hts _ lk_228) (fun _ h9 => h9) rfl dX5_letBits_6 ?_
  refine lv_icmp_ge (tgt := 33) hx hb dX5_letBits_9 (by decide) (fun c1 => ?_) (fun c1 => ?_)
  rotate_left
  · exact False.elim (by revert c1; decide)
  refine lv_iload_n hx hb dX5_letBits_33 rfl (lv_at hl 1 rfl) ?_
  exact rP_i hx hb hr hlocks dX5_letBits_34

set_option maxHeartbeats 4000000 in
set_option maxRecDepth 100000 in
theorem c_X5_homeBits (l : Launch) (dC : Nat → ClassId) (dI : Nat → Nat → Nat) (kA : Nat → ClassId) (sz : Nat) (n_linen : Nat) (nl_on : Nat) (nl_grade : Nat) (nl_worn : Nat) (nl_was : Nat)  : Met l yX5_homeBits (wsU yX5_homeBits cX5_homeBits 4 (some .int)) ({ frames := 0, cells := 0, slots := 0, locals := 0 }) (va_Pc [.ref n_linen, .int 0] (PW dC dI kA [(n_linen, .inr (5, [.ref nl_on, .ref nl_grade, .ref nl_worn, .ref nl_was, .int 0]))] sz)) (QP (some (.int 0))) 0 0 (fun _ => False) := by
  refine met_P (own := RX5) (by decide) rfl (Nat.le_of_ble_eq_true rfl) ?_
  intro p e s m below meth c ls hx hb hr hts hown hlocks hml hK hN hP hD hl
  have hl : lv_has ls 4 [(0, .ref n_linen), (1, .int 0)] := hl
  have hP : va_P (dC, dI) vwCl [(n_linen, .inr (5, [.ref nl_on, .ref nl_grade, .ref nl_worn, .ref nl_was, .int 0]))] s.heap := hP
  refine lv_iconst (v := 0) hx hb dX5_homeBits_0 (by decide) ?_
  refine lv_istore_n (lv' := [(2, .int 0), (0, .ref n_linen), (1, .int 0)]) hx hb dX5_homeBits_1 rfl hl (by decide) rfl (fun ls hl => ?_)
  refine lv_iconst (v := 0) hx hb dX5_homeBits_2 (by decide) ?_
  refine lv_istore_n (lv' := [(3, .int 0), (2, .int 0), (0, .ref n_linen), (1, .int 0)]) hx hb dX5_homeBits_3 rfl hl (by decide) rfl (fun ls hl => ?_)
  refine lv_iload_n hx hb dX5_homeBits_4 rfl (lv_at hl 0 rfl) ?_
  refine lv_iload_n hx hb dX5_homeBits_5 rfl (lv_at hl 3 rfl) ?_
  refine lv_icmp_ge (tgt := 31) hx hb dX5_homeBits_6 (by decide) (fun c1 => ?_) (fun c1 => ?_)
  rotate_left
  · exact False.elim (by revert c1; decide)
  refine lv_iload_n hx hb dX5_homeBits_31 rfl (lv_at hl 1 rfl) ?_
  exact rP_i hx hb hr hlocks dX5_homeBits_32

set_option maxHeartbeats 4000000 in
set_option maxRecDepth 100000 in
theorem c_X5_allWas (l : Launch) (dC : Nat → ClassId) (dI : Nat → Nat → Nat) (kA : Nat → ClassId) (sz : Nat) (n_linen : Nat) (nl_on : Nat) (nl_grade : Nat) (nl_worn : Nat) (nl_was : Nat)  : Met l yX5_allWas (wsU yX5_allWas cX5_allWas 4 (some .int)) ({ frames := 0, cells := 0, slots := 0, locals := 0 }) (va_Pc [.ref n_linen, .int 0] (PW dC dI kA [(n_linen, .inr (5, [.ref nl_on, .ref nl_grade, .ref nl_worn, .ref nl_was, .int 0]))] sz)) (QP (some (.int 0))) 0 0 (fun _ => False) := by
  refine met_P (own := RX5) (by decide) rfl (Nat.le_of_ble_eq_true rfl) ?_
  intro p e s m below meth c ls hx hb hr hts hown hlocks hml hK hN hP hD hl
  have hl : lv_has ls 4 [(0, .ref n_linen), (1, .int 0)] := hl
  have hP : va_P (dC, dI) vwCl [(n_linen, .inr (5, [.ref nl_on, .ref nl_grade, .ref nl_worn, .ref nl_was, .int 0]))] s.heap := hP
  refine lv_iconst (v := 0) hx hb dX5_allWas_0 (by decide) ?_
  refine lv_istore_n (lv' := [(2, .int 0), (0, .ref n_linen), (1, .int 0)]) hx hb dX5_allWas_1 rfl hl (by decide) rfl (fun ls hl => ?_)
  refine lv_iconst (v := 0) hx hb dX5_allWas_2 (by decide) ?_
  refine lv_istore_n (lv' := [(3, .int 0), (2, .int 0), (0, .ref n_linen), (1, .int 0)]) hx hb dX5_allWas_3 rfl hl (by decide) rfl (fun ls hl => ?_)
  refine lv_iload_n hx hb dX5_allWas_4 rfl (lv_at hl 0 rfl) ?_
  refine lv_iload_n hx hb dX5_allWas_5 rfl (lv_at hl 3 rfl) ?_
  refine lv_icmp_ge (tgt := 24) hx hb dX5_allWas_6 (by decide) (fun c1 => ?_) (fun c1 => ?_)
  rotate_left
  · exact False.elim (by revert c1; decide)
  refine lv_iload_n hx hb dX5_allWas_24 rfl (lv_at hl 1 rfl) ?_
  exact rP_i hx hb hr hlocks dX5_allWas_25

set_option maxHeartbeats 4000000 in
set_option maxRecDepth 100000 in
theorem c_X11_count_0 (l : Launch) (dC : Nat → ClassId) (dI : Nat → Nat → Nat) (kA : Nat → ClassId) (sz : Nat) (x : Nat) (x_tape : Nat) (x_houseReader : Nat) (x_ruleReader : Nat) (x_rules : Nat) (x_now : Nat) (x_images : Nat) (x_past : Nat) (x_laundry : Nat) (x_orders : Nat) (x_contest : Nat) (x_asked : Nat) (x_tally : Nat) (x_draft : Nat) (n_house : Nat) (n_linen : Nat) (n_noteWeeks : Nat) (n_noteBeds : Nat) (n_noteSheets : Nat) (nh_grades : Nat) (nh_wants : Nat) (nh_mixWeeks : Nat) (nh_mixOnes : Nat) (nh_mixOthers : Nat)  : Met l yX11_count (wsU yX11_count cX11_count 2 (some .int)) ({ frames := 0, cells := 0, slots := 0, locals := 0 }) (va_Pc [.ref x, .int 0] (PW dC dI kA [(x, .inr (11, [.ref x_tape, .ref x_houseReader, .ref x_ruleReader, .ref x_rules, .ref x_now, .ref x_images, .ref x_past, .ref x_laundry, .ref x_orders, .ref x_contest, .ref x_asked, .ref x_tally, .int 0, .ref x_draft])), (x_now, .inr (3, [.ref n_house, .ref n_linen, .ref n_noteWeeks, .ref n_noteBeds, .ref n_noteSheets, .int 0, .int (-1), .int 0, .int 0])), (n_house, .inr (1, [.int 0, .int 0, .int 0, .int 0, .int 0, .ref nh_grades, .ref nh_wants, .ref nh_mixWeeks, .ref nh_mixOnes, .ref nh_mixOthers]))] sz)) (QP (some (.int 0))) 0 0 (fun _ => False) := by
  refine met_P (own := RX11) (by decide) rfl (Nat.le_of_ble_eq_true rfl) ?_
  intro p e s m below meth c ls hx hb hr hts hown hlocks hml hK hN hP hD hl
  have hl : lv_has ls 2 [(0, .ref x), (1, .int 0)] := hl
  have hP : va_P (dC, dI) vwCl [(x, .inr (11, [.ref x_tape, .ref x_houseReader, .ref x_ruleReader, .ref x_rules, .ref x_now, .ref x_images, .ref x_past, .ref x_laundry, .ref x_orders, .ref x_contest, .ref x_asked, .ref x_tally, .int 0, .ref x_draft])), (x_now, .inr (3, [.ref n_house, .ref n_linen, .ref n_noteWeeks, .ref n_noteBeds, .ref n_noteSheets, .int 0, .int (-1), .int 0, .int 0])), (n_house, .inr (1, [.int 0, .int 0, .int 0, .int 0, .int 0, .ref nh_grades, .ref nh_wants, .ref nh_mixWeeks, .ref nh_mixOnes, .ref nh_mixOthers]))] s.heap := hP
  refine lv_iload_n hx hb dX11_count_0 rfl (lv_at hl 1 rfl) ?_
  refine lv_tableIn (tgt := 72) hx hb dX11_count_1 (by decide) (by decide) rfl (by decide) ?_
  refine lv_aload_n hx hb dX11_count_72 rfl (lv_at hl 0 rfl) ?_
  refine va_get (D := (dC, dI)) (ci := 11) (v := .ref x_now) (C := RX11) (T := TX11) (N := 14) hx hb hts uX11 hown hK hP 0 rfl rfl 4 (by decide) (hts _ lk_447) (fun _ h9 => h9) rfl dX11_count_73 ?_
  refine va_get (D := (dC, dI)) (ci := 3) (v := .ref n_house) (C := RX3) (T := TX3) (N := 9) hx hb hts uX3 hown hK hP 1 rfl rfl 0 (by decide) (hts _ lk_313) (fun _ h9 => h9) rfl dX11_count_76 ?_
  refine va_get (D := (dC, dI)) (ci := 1) (v := .int 0) (C := RX1) (T := TX1) (N := 10) hx hb hts uX1 hown hK hP 2 rfl rfl 1 (by decide) (hts _ lk_218) (fun _ h9 => h9) rfl dX11_count_79 ?_
  exact rP_i hx hb hr hlocks dX11_count_82

set_option maxHeartbeats 4000000 in
set_option maxRecDepth 100000 in
theorem c_X11_count_1 (l : Launch) (dC : Nat → ClassId) (dI : Nat → Nat → Nat) (kA : Nat → ClassId) (sz : Nat) (x : Nat) (x_tape : Nat) (x_houseReader : Nat) (x_ruleReader : Nat) (x_rules : Nat) (x_now : Nat) (x_images : Nat) (x_past : Nat) (x_laundry : Nat) (x_orders : Nat) (x_contest : Nat) (x_asked : Nat) (x_tally : Nat) (x_draft : Nat) (n_house : Nat) (n_linen : Nat) (n_noteWeeks : Nat) (n_noteBeds : Nat) (n_noteSheets : Nat) (nh_grades : Nat) (nh_wants : Nat) (nh_mixWeeks : Nat) (nh_mixOnes : Nat) (nh_mixOthers : Nat)  : Met l yX11_count (wsU yX11_count cX11_count 2 (some .int)) ({ frames := 0, cells := 0, slots := 0, locals := 0 }) (va_Pc [.ref x, .int 1] (PW dC dI kA [(x, .inr (11, [.ref x_tape, .ref x_houseReader, .ref x_ruleReader, .ref x_rules, .ref x_now, .ref x_images, .ref x_past, .ref x_laundry, .ref x_orders, .ref x_contest, .ref x_asked, .ref x_tally, .int 0, .ref x_draft])), (x_now, .inr (3, [.ref n_house, .ref n_linen, .ref n_noteWeeks, .ref n_noteBeds, .ref n_noteSheets, .int 0, .int (-1), .int 0, .int 0])), (n_house, .inr (1, [.int 0, .int 0, .int 0, .int 0, .int 0, .ref nh_grades, .ref nh_wants, .ref nh_mixWeeks, .ref nh_mixOnes, .ref nh_mixOthers]))] sz)) (QP (some (.int 0))) 0 0 (fun _ => False) := by
  refine met_P (own := RX11) (by decide) rfl (Nat.le_of_ble_eq_true rfl) ?_
  intro p e s m below meth c ls hx hb hr hts hown hlocks hml hK hN hP hD hl
  have hl : lv_has ls 2 [(0, .ref x), (1, .int 1)] := hl
  have hP : va_P (dC, dI) vwCl [(x, .inr (11, [.ref x_tape, .ref x_houseReader, .ref x_ruleReader, .ref x_rules, .ref x_now, .ref x_images, .ref x_past, .ref x_laundry, .ref x_orders, .ref x_contest, .ref x_asked, .ref x_tally, .int 0, .ref x_draft])), (x_now, .inr (3, [.ref n_house, .ref n_linen, .ref n_noteWeeks, .ref n_noteBeds, .ref n_noteSheets, .int 0, .int (-1), .int 0, .int 0])), (n_house, .inr (1, [.int 0, .int 0, .int 0, .int 0, .int 0, .ref nh_grades, .ref nh_wants, .ref nh_mixWeeks, .ref nh_mixOnes, .ref nh_mixOthers]))] s.heap := hP
  refine lv_iload_n hx hb dX11_count_0 rfl (lv_at hl 1 rfl) ?_
  refine lv_tableIn (tgt := 83) hx hb dX11_count_1 (by decide) (by decide) rfl (by decide) ?_
  refine lv_aload_n hx hb dX11_count_83 rfl (lv_at hl 0 rfl) ?_
  refine va_get (D := (dC, dI)) (ci := 11) (v := .ref x_now) (C := RX11) (T := TX11) (N := 14) hx hb hts uX11 hown hK hP 0 rfl rfl 4 (by decide) (hts _ lk_447) (fun _ h9 => h9) rfl dX11_count_84 ?_
  refine va_get (D := (dC, dI)) (ci := 3) (v := .ref n_house) (C := RX3) (T := TX3) (N := 9) hx hb hts uX3 hown hK hP 1 rfl rfl 0 (by decide) (hts _ lk_313) (fun _ h9 => h9) rfl dX11_count_87 ?_
  refine va_get (D := (dC, dI)) (ci := 1) (v := .int 0) (C := RX1) (T := TX1) (N := 10) hx hb hts uX1 hown hK hP 2 rfl rfl 2 (by decide) (hts _ lk_222) (fun _ h9 => h9) rfl dX11_count_90 ?_
  exact rP_i hx hb hr hlocks dX11_count_93

set_option maxHeartbeats 4000000 in
set_option maxRecDepth 100000 in
theorem c_X11_count_2 (l : Launch) (dC : Nat → ClassId) (dI : Nat → Nat → Nat) (kA : Nat → ClassId) (sz : Nat) (x : Nat) (x_tape : Nat) (x_houseReader : Nat) (x_ruleReader : Nat) (x_rules : Nat) (x_now : Nat) (x_images : Nat) (x_past : Nat) (x_laundry : Nat) (x_orders : Nat) (x_contest : Nat) (x_asked : Nat) (x_tally : Nat) (x_draft : Nat) (n_house : Nat) (n_linen : Nat) (n_noteWeeks : Nat) (n_noteBeds : Nat) (n_noteSheets : Nat) (nh_grades : Nat) (nh_wants : Nat) (nh_mixWeeks : Nat) (nh_mixOnes : Nat) (nh_mixOthers : Nat)  : Met l yX11_count (wsU yX11_count cX11_count 2 (some .int)) ({ frames := 0, cells := 0, slots := 0, locals := 0 }) (va_Pc [.ref x, .int 2] (PW dC dI kA [(x, .inr (11, [.ref x_tape, .ref x_houseReader, .ref x_ruleReader, .ref x_rules, .ref x_now, .ref x_images, .ref x_past, .ref x_laundry, .ref x_orders, .ref x_contest, .ref x_asked, .ref x_tally, .int 0, .ref x_draft])), (x_now, .inr (3, [.ref n_house, .ref n_linen, .ref n_noteWeeks, .ref n_noteBeds, .ref n_noteSheets, .int 0, .int (-1), .int 0, .int 0])), (n_house, .inr (1, [.int 0, .int 0, .int 0, .int 0, .int 0, .ref nh_grades, .ref nh_wants, .ref nh_mixWeeks, .ref nh_mixOnes, .ref nh_mixOthers]))] sz)) (QP (some (.int 0))) 0 0 (fun _ => False) := by
  refine met_P (own := RX11) (by decide) rfl (Nat.le_of_ble_eq_true rfl) ?_
  intro p e s m below meth c ls hx hb hr hts hown hlocks hml hK hN hP hD hl
  have hl : lv_has ls 2 [(0, .ref x), (1, .int 2)] := hl
  have hP : va_P (dC, dI) vwCl [(x, .inr (11, [.ref x_tape, .ref x_houseReader, .ref x_ruleReader, .ref x_rules, .ref x_now, .ref x_images, .ref x_past, .ref x_laundry, .ref x_orders, .ref x_contest, .ref x_asked, .ref x_tally, .int 0, .ref x_draft])), (x_now, .inr (3, [.ref n_house, .ref n_linen, .ref n_noteWeeks, .ref n_noteBeds, .ref n_noteSheets, .int 0, .int (-1), .int 0, .int 0])), (n_house, .inr (1, [.int 0, .int 0, .int 0, .int 0, .int 0, .ref nh_grades, .ref nh_wants, .ref nh_mixWeeks, .ref nh_mixOnes, .ref nh_mixOthers]))] s.heap := hP
  refine lv_iload_n hx hb dX11_count_0 rfl (lv_at hl 1 rfl) ?_
  refine lv_tableIn (tgt := 94) hx hb dX11_count_1 (by decide) (by decide) rfl (by decide) ?_
  refine lv_aload_n hx hb dX11_count_94 rfl (lv_at hl 0 rfl) ?_
  refine va_get (D := (dC, dI)) (ci := 11) (v := .ref x_now) (C := RX11) (T := TX11) (N := 14) hx hb hts uX11 hown hK hP 0 rfl rfl 4 (by decide) (hts _ lk_447) (fun _ h9 => h9) rfl dX11_count_95 ?_
  refine va_get (D := (dC, dI)) (ci := 3) (v := .ref n_house) (C := RX3) (T := TX3) (N := 9) hx hb hts uX3 hown hK hP 1 rfl rfl 0 (by decide) (hts _ lk_313) (fun _ h9 => h9) rfl dX11_count_98 ?_
  refine va_get (D := (dC, dI)) (ci := 1) (v := .int 0) (C := RX1) (T := TX1) (N := 10) hx hb hts uX1 hown hK hP 2 rfl rfl 3 (by decide) (hts _ lk_227) (fun _ h9 => h9) rfl dX11_count_101 ?_
  exact rP_i hx hb hr hlocks dX11_count_104

set_option maxHeartbeats 4000000 in
set_option maxRecDepth 100000 in
theorem c_X11_count_3 (l : Launch) (dC : Nat → ClassId) (dI : Nat → Nat → Nat) (kA : Nat → ClassId) (sz : Nat) (x : Nat) (x_tape : Nat) (x_houseReader : Nat) (x_ruleReader : Nat) (x_rules : Nat) (x_now : Nat) (x_images : Nat) (x_past : Nat) (x_laundry : Nat) (x_orders : Nat) (x_contest : Nat) (x_asked : Nat) (x_tally : Nat) (x_draft : Nat) (n_house : Nat) (n_linen : Nat) (n_noteWeeks : Nat) (n_noteBeds : Nat) (n_noteSheets : Nat) (nh_grades : Nat) (nh_wants : Nat) (nh_mixWeeks : Nat) (nh_mixOnes : Nat) (nh_mixOthers : Nat)  : Met l yX11_count (wsU yX11_count cX11_count 2 (some .int)) ({ frames := 0, cells := 0, slots := 0, locals := 0 }) (va_Pc [.ref x, .int 3] (PW dC dI kA [(x, .inr (11, [.ref x_tape, .ref x_houseReader, .ref x_ruleReader, .ref x_rules, .ref x_now, .ref x_images, .ref x_past, .ref x_laundry, .ref x_orders, .ref x_contest, .ref x_asked, .ref x_tally, .int 0, .ref x_draft])), (x_now, .inr (3, [.ref n_house, .ref n_linen, .ref n_noteWeeks, .ref n_noteBeds, .ref n_noteSheets, .int 0, .int (-1), .int 0, .int 0])), (n_house, .inr (1, [.int 0, .int 0, .int 0, .int 0, .int 0, .ref nh_grades, .ref nh_wants, .ref nh_mixWeeks, .ref nh_mixOnes, .ref nh_mixOthers]))] sz)) (QP (some (.int 0))) 0 0 (fun _ => False) := by
  refine met_P (own := RX11) (by decide) rfl (Nat.le_of_ble_eq_true rfl) ?_
  intro p e s m below meth c ls hx hb hr hts hown hlocks hml hK hN hP hD hl
  have hl : lv_has ls 2 [(0, .ref x), (1, .int 3)] := hl
  have hP : va_P (dC, dI) vwCl [(x, .inr (11, [.ref x_tape, .ref x_houseReader, .ref x_ruleReader, .ref x_rules, .ref x_now, .ref x_images, .ref x_past, .ref x_laundry, .ref x_orders, .ref x_contest, .ref x_asked, .ref x_tally, .int 0, .ref x_draft])), (x_now, .inr (3, [.ref n_house, .ref n_linen, .ref n_noteWeeks, .ref n_noteBeds, .ref n_noteSheets, .int 0, .int (-1), .int 0, .int 0])), (n_house, .inr (1, [.int 0, .int 0, .int 0, .int 0, .int 0, .ref nh_grades, .ref nh_wants, .ref nh_mixWeeks, .ref nh_mixOnes, .ref nh_mixOthers]))] s.heap := hP
  refine lv_iload_n hx hb dX11_count_0 rfl (lv_at hl 1 rfl) ?_
  refine lv_tableIn (tgt := 105) hx hb dX11_count_1 (by decide) (by decide) rfl (by decide) ?_
  refine lv_aload_n hx hb dX11_count_105 rfl (lv_at hl 0 rfl) ?_
  refine va_get (D := (dC, dI)) (ci := 11) (v := .ref x_now) (C := RX11) (T := TX11) (N := 14) hx hb hts uX11 hown hK hP 0 rfl rfl 4 (by decide) (hts _ lk_447) (fun _ h9 => h9) rfl dX11_count_106 ?_
  refine va_get (D := (dC, dI)) (ci := 3) (v := .ref n_house) (C := RX3) (T := TX3) (N := 9) hx hb hts uX3 hown hK hP 1 rfl rfl 0 (by decide) (hts _ lk_313) (fun _ h9 => h9) rfl dX11_count_109 ?_
  refine va_get (D := (dC, dI)) (ci := 1) (v := .int 0) (C := RX1) (T := TX1) (N := 10) hx hb hts uX1 hown hK hP 2 rfl rfl 4 (by decide) (hts _ lk_232) (fun _ h9 => h9) rfl dX11_count_112 ?_
  exact rP_i hx hb hr hlocks dX11_count_115

set_option maxHeartbeats 4000000 in
set_option maxRecDepth 100000 in
theorem c_X11_count_4 (l : Launch) (dC : Nat → ClassId) (dI : Nat → Nat → Nat) (kA : Nat → ClassId) (sz : Nat) (x : Nat) (x_tape : Nat) (x_houseReader : Nat) (x_ruleReader : Nat) (x_rules : Nat) (x_now : Nat) (x_images : Nat) (x_past : Nat) (x_laundry : Nat) (x_orders : Nat) (x_contest : Nat) (x_asked : Nat) (x_tally : Nat) (x_draft : Nat)  : Met l yX11_count (wsU yX11_count cX11_count 2 (some .int)) ({ frames := 0, cells := 0, slots := 0, locals := 0 }) (va_Pc [.ref x, .int 4] (PW dC dI kA [(x, .inr (11, [.ref x_tape, .ref x_houseReader, .ref x_ruleReader, .ref x_rules, .ref x_now, .ref x_images, .ref x_past, .ref x_laundry, .ref x_orders, .ref x_contest, .ref x_asked, .ref x_tally, .int 0, .ref x_draft]))] sz)) (QP (some (.int 0))) 0 0 (fun _ => False) := by
  refine met_P (own := RX11) (by decide) rfl (Nat.le_of_ble_eq_true rfl) ?_
  intro p e s m below meth c ls hx hb hr hts hown hlocks hml hK hN hP hD hl
  have hl : lv_has ls 2 [(0, .ref x), (1, .int 4)] := hl
  have hP : va_P (dC, dI) vwCl [(x, .inr (11, [.ref x_tape, .ref x_houseReader, .ref x_ruleReader, .ref x_rules, .ref x_now, .ref x_images, .ref x_past, .ref x_laundry, .ref x_orders, .ref x_contest, .ref x_asked, .ref x_tally, .int 0, .ref x_draft]))] s.heap := hP
  refine lv_iload_n hx hb dX11_count_0 rfl (lv_at hl 1 rfl) ?_
  refine lv_tableIn (tgt := 116) hx hb dX11_count_1 (by decide) (by decide) rfl (by decide) ?_
  refine lv_aload_n hx hb dX11_count_116 rfl (lv_at hl 0 rfl) ?_
  refine va_get (D := (dC, dI)) (ci := 11) (v := .int 0) (C := RX11) (T := TX11) (N := 14) hx hb hts uX11 hown hK hP 0 rfl rfl 12 (by decide) (hts _ lk_455) (fun _ h9 => h9) rfl dX11_count_117 ?_
  exact rP_i hx hb hr hlocks dX11_count_120

set_option maxHeartbeats 4000000 in
set_option maxRecDepth 100000 in
theorem c_X11_count_5 (l : Launch) (dC : Nat → ClassId) (dI : Nat → Nat → Nat) (kA : Nat → ClassId) (sz : Nat) (x : Nat) (x_tape : Nat) (x_houseReader : Nat) (x_ruleReader : Nat) (x_rules : Nat) (x_now : Nat) (x_images : Nat) (x_past : Nat) (x_laundry : Nat) (x_orders : Nat) (x_contest : Nat) (x_asked : Nat) (x_tally : Nat) (x_draft : Nat) (n_house : Nat) (n_linen : Nat) (n_noteWeeks : Nat) (n_noteBeds : Nat) (n_noteSheets : Nat)  : Met l yX11_count (wsU yX11_count cX11_count 2 (some .int)) ({ frames := 0, cells := 0, slots := 0, locals := 0 }) (va_Pc [.ref x, .int 5] (PW dC dI kA [(x, .inr (11, [.ref x_tape, .ref x_houseReader, .ref x_ruleReader, .ref x_rules, .ref x_now, .ref x_images, .ref x_past, .ref x_laundry, .ref x_orders, .ref x_contest, .ref x_asked, .ref x_tally, .int 0, .ref x_draft])), (x_now, .inr (3, [.ref n_house, .ref n_linen, .ref n_noteWeeks, .ref n_noteBeds, .ref n_noteSheets, .int 0, .int (-1), .int 0, .int 0]))] sz)) (QP (some (.int (-1)))) 0 0 (fun _ => False) := by
  refine met_P (own := RX11) (by decide) rfl (Nat.le_of_ble_eq_true rfl) ?_
  intro p e s m below meth c ls hx hb hr hts hown hlocks hml hK hN hP hD hl
  have hl : lv_has ls 2 [(0, .ref x), (1, .int 5)] := hl
  have hP : va_P (dC, dI) vwCl [(x, .inr (11, [.ref x_tape, .ref x_houseReader, .ref x_ruleReader, .ref x_rules, .ref x_now, .ref x_images, .ref x_past, .ref x_laundry, .ref x_orders, .ref x_contest, .ref x_asked, .ref x_tally, .int 0, .ref x_draft])), (x_now, .inr (3, [.ref n_house, .ref n_linen, .ref n_noteWeeks, .ref n_noteBeds, .ref n_noteSheets, .int 0, .int (-1), .int 0, .int 0]))] s.heap := hP
  refine lv_iload_n hx hb dX11_count_0 rfl (lv_at hl 1 rfl) ?_
  refine lv_tableIn (tgt := 121) hx hb dX11_count_1 (by decide) (by decide) rfl (by decide) ?_
  refine lv_aload_n hx hb dX11_count_121 rfl (lv_at hl 0 rfl) ?_
  refine va_get (D := (dC, dI)) (ci := 11) (v := .ref x_now) (C := RX11) (T := TX11) (N := 14) hx hb hts uX11 hown hK hP 0 rfl rfl 4 (by decide) (hts _ lk_447) (fun _ h9 => h9) rfl dX11_count_122 ?_
  refine va_get (D := (dC, dI)) (ci := 3) (v := .int (-1)) (C := RX3) (T := TX3) (N := 9) hx hb hts uX3 hown hK hP 1 rfl rfl 6 (by decide) (hts _ lk_325) (fun _ h9 => h9) rfl dX11_count_125 ?_
  exact rP_i hx hb hr hlocks dX11_count_128

set_option maxHeartbeats 4000000 in
set_option maxRecDepth 100000 in
theorem c_X11_count_6 (l : Launch) (dC : Nat → ClassId) (dI : Nat → Nat → Nat) (kA : Nat → ClassId) (sz : Nat) (x : Nat) (x_tape : Nat) (x_houseReader : Nat) (x_ruleReader : Nat) (x_rules : Nat) (x_now : Nat) (x_images : Nat) (x_past : Nat) (x_laundry : Nat) (x_orders : Nat) (x_contest : Nat) (x_asked : Nat) (x_tally : Nat) (x_draft : Nat) (n_house : Nat) (n_linen : Nat) (n_noteWeeks : Nat) (n_noteBeds : Nat) (n_noteSheets : Nat) (nl_on : Nat) (nl_grade : Nat) (nl_worn : Nat) (nl_was : Nat)  : Met l yX11_count (wsU yX11_count cX11_count 2 (some .int)) ({ frames := 0, cells := 0, slots := 0, locals := 0 }) (va_Pc [.ref x, .int 6] (PW dC dI kA [(x, .inr (11, [.ref x_tape, .ref x_houseReader, .ref x_ruleReader, .ref x_rules, .ref x_now, .ref x_images, .ref x_past, .ref x_laundry, .ref x_orders, .ref x_contest, .ref x_asked, .ref x_tally, .int 0, .ref x_draft])), (x_now, .inr (3, [.ref n_house, .ref n_linen, .ref n_noteWeeks, .ref n_noteBeds, .ref n_noteSheets, .int 0, .int (-1), .int 0, .int 0])), (n_linen, .inr (5, [.ref nl_on, .ref nl_grade, .ref nl_worn, .ref nl_was, .int 0]))] sz)) (QP (some (.int 0))) 0 0 (fun _ => False) := by
  refine met_P (own := RX11) (by decide) rfl (Nat.le_of_ble_eq_true rfl) ?_
  intro p e s m below meth c ls hx hb hr hts hown hlocks hml hK hN hP hD hl
  have hl : lv_has ls 2 [(0, .ref x), (1, .int 6)] := hl
  have hP : va_P (dC, dI) vwCl [(x, .inr (11, [.ref x_tape, .ref x_houseReader, .ref x_ruleReader, .ref x_rules, .ref x_now, .ref x_images, .ref x_past, .ref x_laundry, .ref x_orders, .ref x_contest, .ref x_asked, .ref x_tally, .int 0, .ref x_draft])), (x_now, .inr (3, [.ref n_house, .ref n_linen, .ref n_noteWeeks, .ref n_noteBeds, .ref n_noteSheets, .int 0, .int (-1), .int 0, .int 0])), (n_linen, .inr (5, [.ref nl_on, .ref nl_grade, .ref nl_worn, .ref nl_was, .int 0]))] s.heap := hP
  refine lv_iload_n hx hb dX11_count_0 rfl (lv_at hl 1 rfl) ?_
  refine lv_tableIn (tgt := 129) hx hb dX11_count_1 (by decide) (by decide) rfl (by decide) ?_
  refine lv_aload_n hx hb dX11_count_129 rfl (lv_at hl 0 rfl) ?_
  refine va_get (D := (dC, dI)) (ci := 11) (v := .ref x_now) (C := RX11) (T := TX11) (N := 14) hx hb hts uX11 hown hK hP 0 rfl rfl 4 (by decide) (hts _ lk_447) (fun _ h9 => h9) rfl dX11_count_130 ?_
  refine va_get (D := (dC, dI)) (ci := 3) (v := .ref n_linen) (C := RX3) (T := TX3) (N := 9) hx hb hts uX3 hown hK hP 1 rfl rfl 1 (by decide) (hts _ lk_315) (fun _ h9 => h9) rfl dX11_count_133 ?_
  refine va_get (D := (dC, dI)) (ci := 5) (v := .int 0) (C := RX5) (T := TX5) (N := 5) hx hb hts uX5 hown hK hP 2 rfl rfl 4 (by decide) (hts _ lk_300) (fun _ h9 => h9) rfl dX11_count_136 ?_
  exact rP_i hx hb hr hlocks dX11_count_139

set_option maxHeartbeats 4000000 in
set_option maxRecDepth 100000 in
theorem c_X11_count_7 (l : Launch) (dC : Nat → ClassId) (dI : Nat → Nat → Nat) (kA : Nat → ClassId) (sz : Nat) (x : Nat) (x_tape : Nat) (x_houseReader : Nat) (x_ruleReader : Nat) (x_rules : Nat) (x_now : Nat) (x_images : Nat) (x_past : Nat) (x_laundry : Nat) (x_orders : Nat) (x_contest : Nat) (x_asked : Nat) (x_tally : Nat) (x_draft : Nat) (n_house : Nat) (n_linen : Nat) (n_noteWeeks : Nat) (n_noteBeds : Nat) (n_noteSheets : Nat) (nh_grades : Nat) (nh_wants : Nat) (nh_mixWeeks : Nat) (nh_mixOnes : Nat) (nh_mixOthers : Nat) (nl_on : Nat) (nl_grade : Nat) (nl_worn : Nat) (nl_was : Nat)  : Met l yX11_count (wsU yX11_count cX11_count 2 (some .int)) ({ frames := 1, cells := 0, slots := 0, locals := 23 }) (va_Pc [.ref x, .int 7] (PW dC dI kA [(x, .inr (11, [.ref x_tape, .ref x_houseReader, .ref x_ruleReader, .ref x_rules, .ref x_now, .ref x_images, .ref x_past, .ref x_laundry, .ref x_orders, .ref x_contest, .ref x_asked, .ref x_tally, .int 0, .ref x_draft])), (x_now, .inr (3, [.ref n_house, .ref n_linen, .ref n_noteWeeks, .ref n_noteBeds, .ref n_noteSheets, .int 0, .int (-1), .int 0, .int 0])), (n_house, .inr (1, [.int 0, .int 0, .int 0, .int 0, .int 0, .ref nh_grades, .ref nh_wants, .ref nh_mixWeeks, .ref nh_mixOnes, .ref nh_mixOthers])), (n_linen, .inr (5, [.ref nl_on, .ref nl_grade, .ref nl_worn, .ref nl_was, .int 0]))] sz)) (QP (some (.int 0))) 0 0 (fun _ => False) := by
  refine met_P (own := RX11) (by decide) rfl (Nat.le_of_ble_eq_true rfl) ?_
  intro p e s m below meth c ls hx hb hr hts hown hlocks hml hK hN hP hD hl
  have hl : lv_has ls 2 [(0, .ref x), (1, .int 7)] := hl
  have hP : va_P (dC, dI) vwCl [(x, .inr (11, [.ref x_tape, .ref x_houseReader, .ref x_ruleReader, .ref x_rules, .ref x_now, .ref x_images, .ref x_past, .ref x_laundry, .ref x_orders, .ref x_contest, .ref x_asked, .ref x_tally, .int 0, .ref x_draft])), (x_now, .inr (3, [.ref n_house, .ref n_linen, .ref n_noteWeeks, .ref n_noteBeds, .ref n_noteSheets, .int 0, .int (-1), .int 0, .int 0])), (n_house, .inr (1, [.int 0, .int 0, .int 0, .int 0, .int 0, .ref nh_grades, .ref nh_wants, .ref nh_mixWeeks, .ref nh_mixOnes, .ref nh_mixOthers])), (n_linen, .inr (5, [.ref nl_on, .ref nl_grade, .ref nl_worn, .ref nl_was, .int 0]))] s.heap := hP
  refine lv_iload_n hx hb dX11_count_0 rfl (lv_at hl 1 rfl) ?_
  refine lv_tableIn (tgt := 140) hx hb dX11_count_1 (by decide) (by decide) rfl (by decide) ?_
  refine lv_aload_n hx hb dX11_count_140 rfl (lv_at hl 0 rfl) ?_
  refine va_get (D := (dC, dI)) (ci := 11) (v := .ref x_now) (C := RX11) (T := TX11) (N := 14) hx hb hts uX11 hown hK hP 0 rfl rfl 4 (by decide) (hts _ lk_447) (fun _ h9 => h9) rfl dX11_count_141 ?_
  refine va_get (D := (dC, dI)) (ci := 3) (v := .ref n_linen) (C := RX3) (T := TX3) (N := 9) hx hb hts uX3 hown hK hP 1 rfl rfl 1 (by decide) (hts _ lk_315) (fun _ h9 => h9) rfl dX11_count_144 ?_
  refine lv_aload_n hx hb dX11_count_147 rfl (lv_at hl 0 rfl) ?_
  refine va_get (D := (dC, dI)) (ci := 11) (v := .ref x_now) (C := RX11) (T := TX11) (N := 14) hx hb hts uX11 hown hK hP 0 rfl rfl 4 (by decide) (hts _ lk_447) (fun _ h9 => h9) rfl dX11_count_148 ?_
  refine va_get (D := (dC, dI)) (ci := 3) (v := .ref n_house) (C := RX3) (T := TX3) (N := 9) hx hb hts uX3 hown hK hP 1 rfl rfl 0 (by decide) (hts _ lk_313) (fun _ h9 => h9) rfl dX11_count_151 ?_
  have hPc := hP.sub (ws' := [(n_linen, .inr (5, [.ref nl_on, .ref nl_grade, .ref nl_worn, .ref nl_was, .int 0])), (n_house, .inr (1, [.int 0, .int 0, .int 0, .int 0, .int 0, .ref nh_grades, .ref nh_wants, .ref nh_mixWeeks, .ref nh_mixOnes, .ref nh_mixOthers]))]) [3, 2] rfl
  have hDc := hD.sub (ws' := [(n_linen, .inr (5, [.ref nl_on, .ref nl_grade, .ref nl_worn, .ref nl_was, .int 0])), (n_house, .inr (1, [.int 0, .int 0, .int 0, .int 0, .int 0, .ref nh_grades, .ref nh_wants, .ref nh_mixWeeks, .ref nh_mixOnes, .ref nh_mixOthers]))]) [3, 2] (by decide) rfl
  refine cP (W.runV (As := [.ref n_house]) (rest := []) ⟨hx, hb, hml, hown, hts⟩ (c_X5_letBits l dC dI kA s.heap.size n_linen n_house nl_on nl_grade nl_worn nl_was nh_grades nh_wants nh_mixWeeks nh_mixOnes nh_mixOthers ) (cwV 1 hts (gV lk_744 lk_745 lk_746 lk_116 lk_747) rfl rfl rfl (by decide +kernel) ⟨Nat.le_of_ble_eq_true rfl, Nat.le_of_ble_eq_true rfl⟩) (pw_v hPc hDc hK hN 0 5 rfl rfl) rfl rfl hl.1 rfl (lv_room (Nat.le_of_ble_eq_true rfl)) dX11_count_154 ⟨Nat.le_of_ble_eq_true rfl, Nat.le_of_ble_eq_true rfl⟩) ?_
  refine W.eq (g2 := F0 m 157 ls [.int 0]) rfl ?_
  exact rP_i hx hb hr hlocks dX11_count_157

set_option maxHeartbeats 4000000 in
set_option maxRecDepth 100000 in
theorem c_X11_count_8 (l : Launch) (dC : Nat → ClassId) (dI : Nat → Nat → Nat) (kA : Nat → ClassId) (sz : Nat) (x : Nat) (x_tape : Nat) (x_houseReader : Nat) (x_ruleReader : Nat) (x_rules : Nat) (x_now : Nat) (x_images : Nat) (x_past : Nat) (x_laundry : Nat) (x_orders : Nat) (x_contest : Nat) (x_asked : Nat) (x_tally : Nat) (x_draft : Nat) (n_house : Nat) (n_linen : Nat) (n_noteWeeks : Nat) (n_noteBeds : Nat) (n_noteSheets : Nat) (nh_grades : Nat) (nh_wants : Nat) (nh_mixWeeks : Nat) (nh_mixOnes : Nat) (nh_mixOthers : Nat) (nl_on : Nat) (nl_grade : Nat) (nl_worn : Nat) (nl_was : Nat)  : Met l yX11_count (wsU yX11_count cX11_count 2 (some .int)) ({ frames := 1, cells := 0, slots := 0, locals := 23 }) (va_Pc [.ref x, .int 8] (PW dC dI kA [(x, .inr (11, [.ref x_tape, .ref x_houseReader, .ref x_ruleReader, .ref x_rules, .ref x_now, .ref x_images, .ref x_past, .ref x_laundry, .ref x_orders, .ref x_contest, .ref x_asked, .ref x_tally, .int 0, .ref x_draft])), (x_now, .inr (3, [.ref n_house, .ref n_linen, .ref n_noteWeeks, .ref n_noteBeds, .ref n_noteSheets, .int 0, .int (-1), .int 0, .int 0])), (n_house, .inr (1, [.int 0, .int 0, .int 0, .int 0, .int 0, .ref nh_grades, .ref nh_wants, .ref nh_mixWeeks, .ref nh_mixOnes, .ref nh_mixOthers])), (n_linen, .inr (5, [.ref nl_on, .ref nl_grade, .ref nl_worn, .ref nl_was, .int 0]))] sz)) (QP (some (.int 0))) 0 0 (fun _ => False) := by
  refine met_P (own := RX11) (by decide) rfl (Nat.le_of_ble_eq_true rfl) ?_
  intro p e s m below meth c ls hx hb hr hts hown hlocks hml hK hN hP hD hl
  have hl : lv_has ls 2 [(0, .ref x), (1, .int 8)] := hl
  have hP : va_P (dC, dI) vwCl [(x, .inr (11, [.ref x_tape, .ref x_houseReader, .ref x_ruleReader, .ref x_rules, .ref x_now, .ref x_images, .ref x_past, .ref x_laundry, .ref x_orders, .ref x_contest, .ref x_asked, .ref x_tally, .int 0, .ref x_draft])), (x_now, .inr (3, [.ref n_house, .ref n_linen, .ref n_noteWeeks, .ref n_noteBeds, .ref n_noteSheets, .int 0, .int (-1), .int 0, .int 0])), (n_house, .inr (1, [.int 0, .int 0, .int 0, .int 0, .int 0, .ref nh_grades, .ref nh_wants, .ref nh_mixWeeks, .ref nh_mixOnes, .ref nh_mixOthers])), (n_linen, .inr (5, [.ref nl_on, .ref nl_grade, .ref nl_worn, .ref nl_was, .int 0]))] s.heap := hP
  refine lv_iload_n hx hb dX11_count_0 rfl (lv_at hl 1 rfl) ?_
  refine lv_tableIn (tgt := 158) hx hb dX11_count_1 (by decide) (by decide) rfl (by decide) ?_
  refine lv_aload_n hx hb dX11_count_158 rfl (lv_at hl 0 rfl) ?_
  refine va_get (D := (dC, dI)) (ci := 11) (v := .ref x_now) (C := RX11) (T := TX11) (N := 14) hx hb hts uX11 hown hK hP 0 rfl rfl 4 (by decide) (hts _ lk_447) (fun _ h9 => h9) rfl dX11_count_159 ?_
  refine va_get (D := (dC, dI)) (ci := 3) (v := .ref n_linen) (C := RX3) (T := TX3) (N := 9) hx hb hts uX3 hown hK hP 1 rfl rfl 1 (by decide) (hts _ lk_315) (fun _ h9 => h9) rfl dX11_count_162 ?_
  refine lv_aload_n hx hb dX11_count_165 rfl (lv_at hl 0 rfl) ?_
  refine va_get (D := (dC, dI)) (ci := 11) (v := .ref x_now) (C := RX11) (T := TX11) (N := 14) hx hb hts uX11 hown hK hP 0 rfl rfl 4 (by decide) (hts _ lk_447) (fun _ h9 => h9) rfl dX11_count_166 ?_
  refine va_get (D := (dC, dI)) (ci := 3) (v := .ref n_house) (C := RX3) (T := TX3) (N := 9) hx hb hts uX3 hown hK hP 1 rfl rfl 0 (by decide) (hts _ lk_313) (fun _ h9 => h9) rfl dX11_count_169 ?_
  refine va_get (D := (dC, dI)) (ci := 1) (v := .int 0) (C := RX1) (T := TX1) (N := 10) hx hb hts uX1 hown hK hP 2 rfl rfl 3 (by decide) (hts _ lk_227) (fun _ h9 => h9) rfl dX11_count_172 ?_
  have hPc := hP.sub (ws' := [(n_linen, .inr (5, [.ref nl_on, .ref nl_grade, .ref nl_worn, .ref nl_was, .int 0]))]) [3] rfl
  have hDc := hD.sub (ws' := [(n_linen, .inr (5, [.ref nl_on, .ref nl_grade, .ref nl_worn, .ref nl_was, .int 0]))]) [3] (by decide) rfl
  refine cP (W.runV (As := [.int 0]) (rest := []) ⟨hx, hb, hml, hown, hts⟩ (c_X5_homeBits l dC dI kA s.heap.size n_linen nl_on nl_grade nl_worn nl_was ) (cwV 1 hts (gV lk_749 lk_750 lk_751 lk_116 lk_752) rfl rfl rfl (by decide +kernel) ⟨Nat.le_of_ble_eq_true rfl, Nat.le_of_ble_eq_true rfl⟩) (pw_v hPc hDc hK hN 0 5 rfl rfl) rfl rfl hl.1 rfl (lv_room (Nat.le_of_ble_eq_true rfl)) dX11_count_175 ⟨Nat.le_of_ble_eq_true rfl, Nat.le_of_ble_eq_true rfl⟩) ?_
  refine W.eq (g2 := F0 m 178 ls [.int 0]) rfl ?_
  exact rP_i hx hb hr hlocks dX11_count_178

set_option maxHeartbeats 4000000 in
set_option maxRecDepth 100000 in
theorem c_X11_count_9 (l : Launch) (dC : Nat → ClassId) (dI : Nat → Nat → Nat) (kA : Nat → ClassId) (sz : Nat) (x : Nat) (x_tape : Nat) (x_houseReader : Nat) (x_ruleReader : Nat) (x_rules : Nat) (x_now : Nat) (x_images : Nat) (x_past : Nat) (x_laundry : Nat) (x_orders : Nat) (x_contest : Nat) (x_asked : Nat) (x_tally : Nat) (x_draft : Nat) (n_house : Nat) (n_linen : Nat) (n_noteWeeks : Nat) (n_noteBeds : Nat) (n_noteSheets : Nat) (nh_grades : Nat) (nh_wants : Nat) (nh_mixWeeks : Nat) (nh_mixOnes : Nat) (nh_mixOthers : Nat) (nl_on : Nat) (nl_grade : Nat) (nl_worn : Nat) (nl_was : Nat)  : Met l yX11_count (wsU yX11_count cX11_count 2 (some .int)) ({ frames := 1, cells := 0, slots := 0, locals := 23 }) (va_Pc [.ref x, .int 9] (PW dC dI kA [(x, .inr (11, [.ref x_tape, .ref x_houseReader, .ref x_ruleReader, .ref x_rules, .ref x_now, .ref x_images, .ref x_past, .ref x_laundry, .ref x_orders, .ref x_contest, .ref x_asked, .ref x_tally, .int 0, .ref x_draft])), (x_now, .inr (3, [.ref n_house, .ref n_linen, .ref n_noteWeeks, .ref n_noteBeds, .ref n_noteSheets, .int 0, .int (-1), .int 0, .int 0])), (n_house, .inr (1, [.int 0, .int 0, .int 0, .int 0, .int 0, .ref nh_grades, .ref nh_wants, .ref nh_mixWeeks, .ref nh_mixOnes, .ref nh_mixOthers])), (n_linen, .inr (5, [.ref nl_on, .ref nl_grade, .ref nl_worn, .ref nl_was, .int 0]))] sz)) (QP (some (.int 0))) 0 0 (fun _ => False) := by
  refine met_P (own := RX11) (by decide) rfl (Nat.le_of_ble_eq_true rfl) ?_
  intro p e s m below meth c ls hx hb hr hts hown hlocks hml hK hN hP hD hl
  have hl : lv_has ls 2 [(0, .ref x), (1, .int 9)] := hl
  have hP : va_P (dC, dI) vwCl [(x, .inr (11, [.ref x_tape, .ref x_houseReader, .ref x_ruleReader, .ref x_rules, .ref x_now, .ref x_images, .ref x_past, .ref x_laundry, .ref x_orders, .ref x_contest, .ref x_asked, .ref x_tally, .int 0, .ref x_draft])), (x_now, .inr (3, [.ref n_house, .ref n_linen, .ref n_noteWeeks, .ref n_noteBeds, .ref n_noteSheets, .int 0, .int (-1), .int 0, .int 0])), (n_house, .inr (1, [.int 0, .int 0, .int 0, .int 0, .int 0, .ref nh_grades, .ref nh_wants, .ref nh_mixWeeks, .ref nh_mixOnes, .ref nh_mixOthers])), (n_linen, .inr (5, [.ref nl_on, .ref nl_grade, .ref nl_worn, .ref nl_was, .int 0]))] s.heap := hP
  refine lv_iload_n hx hb dX11_count_0 rfl (lv_at hl 1 rfl) ?_
  refine lv_tableIn (tgt := 179) hx hb dX11_count_1 (by decide) (by decide) rfl (by decide) ?_
  refine lv_aload_n hx hb dX11_count_179 rfl (lv_at hl 0 rfl) ?_
  refine va_get (D := (dC, dI)) (ci := 11) (v := .ref x_now) (C := RX11) (T := TX11) (N := 14) hx hb hts uX11 hown hK hP 0 rfl rfl 4 (by decide) (hts _ lk_447) (fun _ h9 => h9) rfl dX11_count_180 ?_
  refine va_get (D := (dC, dI)) (ci := 3) (v := .ref n_linen) (C := RX3) (T := TX3) (N := 9) hx hb hts uX3 hown hK hP 1 rfl rfl 1 (by decide) (hts _ lk_315) (fun _ h9 => h9) rfl dX11_count_183 ?_
  refine lv_aload_n hx hb dX11_count_186 rfl (lv_at hl 0 rfl) ?_
  refine va_get (D := (dC, dI)) (ci := 11) (v := .ref x_now) (C := RX11) (T := TX11) (N := 14) hx hb hts uX11 hown hK hP 0 rfl rfl 4 (by decide) (hts _ lk_447) (fun _ h9 => h9) rfl dX11_count_187 ?_
  refine va_get (D := (dC, dI)) (ci := 3) (v := .ref n_house) (C := RX3) (T := TX3) (N := 9) hx hb hts uX3 hown hK hP 1 rfl rfl 0 (by decide) (hts _ lk_313) (fun _ h9 => h9) rfl dX11_count_190 ?_
  refine va_get (D := (dC, dI)) (ci := 1) (v := .int 0) (C := RX1) (T := TX1) (N := 10) hx hb hts uX1 hown hK hP 2 rfl rfl 3 (by decide) (hts _ lk_227) (fun _ h9 => h9) rfl dX11_count_193 ?_
  have hPc := hP.sub (ws' := [(n_linen, .inr (5, [.ref nl_on, .ref nl_grade, .ref nl_worn, .ref nl_was, .int 0]))]) [3] rfl
  have hDc := hD.sub (ws' := [(n_linen, .inr (5, [.ref nl_on, .ref nl_grade, .ref nl_worn, .ref nl_was, .int 0]))]) [3] (by decide) rfl
  refine cP (W.runV (As := [.int 0]) (rest := []) ⟨hx, hb, hml, hown, hts⟩ (c_X5_allWas l dC dI kA s.heap.size n_linen nl_on nl_grade nl_worn nl_was ) (cwV 1 hts (gV lk_753 lk_754 lk_755 lk_116 lk_756) rfl rfl rfl (by decide +kernel) ⟨Nat.le_of_ble_eq_true rfl, Nat.le_of_ble_eq_true rfl⟩) (pw_v hPc hDc hK hN 0 5 rfl rfl) rfl rfl hl.1 rfl (lv_room (Nat.le_of_ble_eq_true rfl)) dX11_count_196 ⟨Nat.le_of_ble_eq_true rfl, Nat.le_of_ble_eq_true rfl⟩) ?_
  refine W.eq (g2 := F0 m 199 ls [.int 0]) rfl ?_
  exact rP_i hx hb hr hlocks dX11_count_199

set_option maxHeartbeats 4000000 in
set_option maxRecDepth 100000 in
theorem c_X11_count_10 (l : Launch) (dC : Nat → ClassId) (dI : Nat → Nat → Nat) (kA : Nat → ClassId) (sz : Nat) (x : Nat) (x_tape : Nat) (x_houseReader : Nat) (x_ruleReader : Nat) (x_rules : Nat) (x_now : Nat) (x_images : Nat) (x_past : Nat) (x_laundry : Nat) (x_orders : Nat) (x_contest : Nat) (x_asked : Nat) (x_tally : Nat) (x_draft : Nat) (n_house : Nat) (n_linen : Nat) (n_noteWeeks : Nat) (n_noteBeds : Nat) (n_noteSheets : Nat)  : Met l yX11_count (wsU yX11_count cX11_count 2 (some .int)) ({ frames := 0, cells := 0, slots := 0, locals := 0 }) (va_Pc [.ref x, .int 10] (PW dC dI kA [(x, .inr (11, [.ref x_tape, .ref x_houseReader, .ref x_ruleReader, .ref x_rules, .ref x_now, .ref x_images, .ref x_past, .ref x_laundry, .ref x_orders, .ref x_contest, .ref x_asked, .ref x_tally, .int 0, .ref x_draft])), (x_now, .inr (3, [.ref n_house, .ref n_linen, .ref n_noteWeeks, .ref n_noteBeds, .ref n_noteSheets, .int 0, .int (-1), .int 0, .int 0]))] sz)) (QP (some (.int 0))) 0 0 (fun _ => False) := by
  refine met_P (own := RX11) (by decide) rfl (Nat.le_of_ble_eq_true rfl) ?_
  intro p e s m below meth c ls hx hb hr hts hown hlocks hml hK hN hP hD hl
  have hl : lv_has ls 2 [(0, .ref x), (1, .int 10)] := hl
  have hP : va_P (dC, dI) vwCl [(x, .inr (11, [.ref x_tape, .ref x_houseReader, .ref x_ruleReader, .ref x_rules, .ref x_now, .ref x_images, .ref x_past, .ref x_laundry, .ref x_orders, .ref x_contest, .ref x_asked, .ref x_tally, .int 0, .ref x_draft])), (x_now, .inr (3, [.ref n_house, .ref n_linen, .ref n_noteWeeks, .ref n_noteBeds, .ref n_noteSheets, .int 0, .int (-1), .int 0, .int 0]))] s.heap := hP
  refine lv_iload_n hx hb dX11_count_0 rfl (lv_at hl 1 rfl) ?_
  refine lv_tableIn (tgt := 200) hx hb dX11_count_1 (by decide) (by decide) rfl (by decide) ?_
  refine lv_aload_n hx hb dX11_count_200 rfl (lv_at hl 0 rfl) ?_
  refine va_get (D := (dC, dI)) (ci := 11) (v := .ref x_now) (C := RX11) (T := TX11) (N := 14) hx hb hts uX11 hown hK hP 0 rfl rfl 4 (by decide) (hts _ lk_447) (fun _ h9 => h9) rfl dX11_count_201 ?_
  refine va_get (D := (dC, dI)) (ci := 3) (v := .int 0) (C := RX3) (T := TX3) (N := 9) hx hb hts uX3 hown hK hP 1 rfl rfl 5 (by decide) (hts _ lk_323) (fun _ h9 => h9) rfl dX11_count_204 ?_
  exact rP_i hx hb hr hlocks dX11_count_207

set_option maxHeartbeats 4000000 in
set_option maxRecDepth 100000 in
theorem c_X11_count_11 (l : Launch) (dC : Nat → ClassId) (dI : Nat → Nat → Nat) (kA : Nat → ClassId) (sz : Nat) (x : Nat) (x_tape : Nat) (x_houseReader : Nat) (x_ruleReader : Nat) (x_rules : Nat) (x_now : Nat) (x_images : Nat) (x_past : Nat) (x_laundry : Nat) (x_orders : Nat) (x_contest : Nat) (x_asked : Nat) (x_tally : Nat) (x_draft : Nat) (p_kept : Nat)  : Met l yX11_count (wsU yX11_count cX11_count 2 (some .int)) ({ frames := 0, cells := 0, slots := 0, locals := 0 }) (va_Pc [.ref x, .int 11] (PW dC dI kA [(x, .inr (11, [.ref x_tape, .ref x_houseReader, .ref x_ruleReader, .ref x_rules, .ref x_now, .ref x_images, .ref x_past, .ref x_laundry, .ref x_orders, .ref x_contest, .ref x_asked, .ref x_tally, .int 0, .ref x_draft])), (x_past, .inr (7, [.ref p_kept, .int 0, .int 0]))] sz)) (QP (some (.int 0))) 0 0 (fun _ => False) := by
  refine met_P (own := RX11) (by decide) rfl (Nat.le_of_ble_eq_true rfl) ?_
  intro p e s m below meth c ls hx hb hr hts hown hlocks hml hK hN hP hD hl
  have hl : lv_has ls 2 [(0, .ref x), (1, .int 11)] := hl
  have hP : va_P (dC, dI) vwCl [(x, .inr (11, [.ref x_tape, .ref x_houseReader, .ref x_ruleReader, .ref x_rules, .ref x_now, .ref x_images, .ref x_past, .ref x_laundry, .ref x_orders, .ref x_contest, .ref x_asked, .ref x_tally, .int 0, .ref x_draft])), (x_past, .inr (7, [.ref p_kept, .int 0, .int 0]))] s.heap := hP
  refine lv_iload_n hx hb dX11_count_0 rfl (lv_at hl 1 rfl) ?_
  refine lv_tableIn (tgt := 208) hx hb dX11_count_1 (by decide) (by decide) rfl (by decide) ?_
  refine lv_aload_n hx hb dX11_count_208 rfl (lv_at hl 0 rfl) ?_
  refine va_get (D := (dC, dI)) (ci := 11) (v := .ref x_past) (C := RX11) (T := TX11) (N := 14) hx hb hts uX11 hown hK hP 0 rfl rfl 6 (by decide) (hts _ lk_449) (fun _ h9 => h9) rfl dX11_count_209 ?_
  refine va_get (D := (dC, dI)) (ci := 7) (v := .int 0) (C := RX7) (T := TX7) (N := 3) hx hb hts uX7 hown hK hP 1 rfl rfl 2 (by decide) (hts _ lk_361) (fun _ h9 => h9) rfl dX11_count_212 ?_
  exact rP_i hx hb hr hlocks dX11_count_215

set_option maxHeartbeats 4000000 in
set_option maxRecDepth 100000 in
theorem c_X11_count_12 (l : Launch) (dC : Nat → ClassId) (dI : Nat → Nat → Nat) (kA : Nat → ClassId) (sz : Nat) (x : Nat) (x_tape : Nat) (x_houseReader : Nat) (x_ruleReader : Nat) (x_rules : Nat) (x_now : Nat) (x_images : Nat) (x_past : Nat) (x_laundry : Nat) (x_orders : Nat) (x_contest : Nat) (x_asked : Nat) (x_tally : Nat) (x_draft : Nat) (n_house : Nat) (n_linen : Nat) (n_noteWeeks : Nat) (n_noteBeds : Nat) (n_noteSheets : Nat)  : Met l yX11_count (wsU yX11_count cX11_count 2 (some .int)) ({ frames := 0, cells := 0, slots := 0, locals := 0 }) (va_Pc [.ref x, .int 12] (PW dC dI kA [(x, .inr (11, [.ref x_tape, .ref x_houseReader, .ref x_ruleReader, .ref x_rules, .ref x_now, .ref x_images, .ref x_past, .ref x_laundry, .ref x_orders, .ref x_contest, .ref x_asked, .ref x_tally, .int 0, .ref x_draft])), (x_now, .inr (3, [.ref n_house, .ref n_linen, .ref n_noteWeeks, .ref n_noteBeds, .ref n_noteSheets, .int 0, .int (-1), .int 0, .int 0]))] sz)) (QP (some (.int 0))) 0 0 (fun _ => False) := by
  refine met_P (own := RX11) (by decide) rfl (Nat.le_of_ble_eq_true rfl) ?_
  intro p e s m below meth c ls hx hb hr hts hown hlocks hml hK hN hP hD hl
  have hl : lv_has ls 2 [(0, .ref x), (1, .int 12)] := hl
  have hP : va_P (dC, dI) vwCl [(x, .inr (11, [.ref x_tape, .ref x_houseReader, .ref x_ruleReader, .ref x_rules, .ref x_now, .ref x_images, .ref x_past, .ref x_laundry, .ref x_orders, .ref x_contest, .ref x_asked, .ref x_tally, .int 0, .ref x_draft])), (x_now, .inr (3, [.ref n_house, .ref n_linen, .ref n_noteWeeks, .ref n_noteBeds, .ref n_noteSheets, .int 0, .int (-1), .int 0, .int 0]))] s.heap := hP
  refine lv_iload_n hx hb dX11_count_0 rfl (lv_at hl 1 rfl) ?_
  refine lv_tableIn (tgt := 216) hx hb dX11_count_1 (by decide) (by decide) rfl (by decide) ?_
  refine lv_aload_n hx hb dX11_count_216 rfl (lv_at hl 0 rfl) ?_
  refine va_get (D := (dC, dI)) (ci := 11) (v := .ref x_now) (C := RX11) (T := TX11) (N := 14) hx hb hts uX11 hown hK hP 0 rfl rfl 4 (by decide) (hts _ lk_447) (fun _ h9 => h9) rfl dX11_count_217 ?_
  refine va_get (D := (dC, dI)) (ci := 3) (v := .int 0) (C := RX3) (T := TX3) (N := 9) hx hb hts uX3 hown hK hP 1 rfl rfl 7 (by decide) (hts _ lk_327) (fun _ h9 => h9) rfl dX11_count_220 ?_
  exact rP_i hx hb hr hlocks dX11_count_223

set_option maxHeartbeats 4000000 in
set_option maxRecDepth 100000 in
theorem c_X11_count_13 (l : Launch) (dC : Nat → ClassId) (dI : Nat → Nat → Nat) (kA : Nat → ClassId) (sz : Nat) (x : Nat) (x_tape : Nat) (x_houseReader : Nat) (x_ruleReader : Nat) (x_rules : Nat) (x_now : Nat) (x_images : Nat) (x_past : Nat) (x_laundry : Nat) (x_orders : Nat) (x_contest : Nat) (x_asked : Nat) (x_tally : Nat) (x_draft : Nat) (x_bytes : Nat)  : Met l yX11_count (wsU yX11_count cX11_count 2 (some .int)) ({ frames := 0, cells := 0, slots := 0, locals := 0 }) (va_Pc [.ref x, .int 13] (PW dC dI kA [(x, .inr (11, [.ref x_tape, .ref x_houseReader, .ref x_ruleReader, .ref x_rules, .ref x_now, .ref x_images, .ref x_past, .ref x_laundry, .ref x_orders, .ref x_contest, .ref x_asked, .ref x_tally, .int 0, .ref x_draft])), (x_tape, .inr (10, [.ref x_bytes, .int 0, .int 0, .int 0, .int 0, .int 0]))] sz)) (QP (some (.int 0))) 0 0 (fun _ => False) := by
  refine met_P (own := RX11) (by decide) rfl (Nat.le_of_ble_eq_true rfl) ?_
  intro p e s m below meth c ls hx hb hr hts hown hlocks hml hK hN hP hD hl
  have hl : lv_has ls 2 [(0, .ref x), (1, .int 13)] := hl
  have hP : va_P (dC, dI) vwCl [(x, .inr (11, [.ref x_tape, .ref x_houseReader, .ref x_ruleReader, .ref x_rules, .ref x_now, .ref x_images, .ref x_past, .ref x_laundry, .ref x_orders, .ref x_contest, .ref x_asked, .ref x_tally, .int 0, .ref x_draft])), (x_tape, .inr (10, [.ref x_bytes, .int 0, .int 0, .int 0, .int 0, .int 0]))] s.heap := hP
  refine lv_iload_n hx hb dX11_count_0 rfl (lv_at hl 1 rfl) ?_
  refine lv_tableIn (tgt := 224) hx hb dX11_count_1 (by decide) (by decide) rfl (by decide) ?_
  refine lv_aload_n hx hb dX11_count_224 rfl (lv_at hl 0 rfl) ?_
  refine va_get (D := (dC, dI)) (ci := 11) (v := .ref x_tape) (C := RX11) (T := TX11) (N := 14) hx hb hts uX11 hown hK hP 0 rfl rfl 0 (by decide) (hts _ lk_443) (fun _ h9 => h9) rfl dX11_count_225 ?_
  refine va_get (D := (dC, dI)) (ci := 10) (v := .int 0) (C := RX10) (T := TX10) (N := 6) hx hb hts uX10 hown hK hP 1 rfl rfl 1 (by decide) (hts _ lk_147) (fun _ h9 => h9) rfl dX11_count_228 ?_
  exact rP_i hx hb hr hlocks dX11_count_231

set_option maxHeartbeats 4000000 in
set_option maxRecDepth 100000 in
theorem c_X11_note_m (l : Launch) (dC : Nat → ClassId) (dI : Nat → Nat → Nat) (kA : Nat → ClassId) (sz : Nat) (x : Nat) (x_tape : Nat) (x_houseReader : Nat) (x_ruleReader : Nat) (x_rules : Nat) (x_now : Nat) (x_images : Nat) (x_past : Nat) (x_laundry : Nat) (x_orders : Nat) (x_contest : Nat) (x_asked : Nat) (x_tally : Nat) (x_draft : Nat) (n_house : Nat) (n_linen : Nat) (n_noteWeeks : Nat) (n_noteBeds : Nat) (n_noteSheets : Nat) (p1 : Int32) (p2 : Int32)  : Met l yX11_note (wsU yX11_note cX11_note 4 (some .int)) ({ frames := 0, cells := 0, slots := 0, locals := 0 }) (va_Pc [.ref x, .int (-1), .int p1, .int p2] (PW dC dI kA [(x, .inr (11, [.ref x_tape, .ref x_houseReader, .ref x_ruleReader, .ref x_rules, .ref x_now, .ref x_images, .ref x_past, .ref x_laundry, .ref x_orders, .ref x_contest, .ref x_asked, .ref x_tally, .int 0, .ref x_draft])), (x_now, .inr (3, [.ref n_house, .ref n_linen, .ref n_noteWeeks, .ref n_noteBeds, .ref n_noteSheets, .int 0, .int (-1), .int 0, .int 0]))] sz)) (QU dC dI (some (.int 0)) (fun w => w = []) (va_A [(x, .inr (11, [.ref x_tape, .ref x_houseReader, .ref x_ruleReader, .ref x_rules, .ref x_now, .ref x_images, .ref x_past, .ref x_laundry, .ref x_orders, .ref x_contest, .ref x_asked, .ref x_tally, .int 0, .ref x_draft])), (x_now, .inr (3, [.ref n_house, .ref n_linen, .ref n_noteWeeks, .ref n_noteBeds, .ref n_noteSheets, .int 0, .int (-1), .int 0, .int 0]))] sz)) 0 0 (va_A [(x, .inr (11, [.ref x_tape, .ref x_houseReader, .ref x_ruleReader, .ref x_rules, .ref x_now, .ref x_images, .ref x_past, .ref x_laundry, .ref x_orders, .ref x_contest, .ref x_asked, .ref x_tally, .int 0, .ref x_draft])), (x_now, .inr (3, [.ref n_house, .ref n_linen, .ref n_noteWeeks, .ref n_noteBeds, .ref n_noteSheets, .int 0, .int (-1), .int 0, .int 0]))] sz) := by
  refine met_M (own := RX11) (by decide) rfl (Nat.le_of_ble_eq_true rfl) ?_
  intro p e s m below meth c ls A hx hb hr hts hown hlocks hml hin hK hN hA hP hD hS hl
  have hl : lv_has ls 4 [(0, .ref x), (1, .int (-1)), (2, .int p1), (3, .int p2)] := hl
  have hP : va_P (dC, dI) vwCl [(x, .inr (11, [.ref x_tape, .ref x_houseReader, .ref x_ruleReader, .ref x_rules, .ref x_now, .ref x_images, .ref x_past, .ref x_laundry, .ref x_orders, .ref x_contest, .ref x_asked, .ref x_tally, .int 0, .ref x_draft])), (x_now, .inr (3, [.ref n_house, .ref n_linen, .ref n_noteWeeks, .ref n_noteBeds, .ref n_noteSheets, .int 0, .int (-1), .int 0, .int 0]))] s.heap := hP
  have hD : va_D A [(x, .inr (11, [.ref x_tape, .ref x_houseReader, .ref x_ruleReader, .ref x_rules, .ref x_now, .ref x_images, .ref x_past, .ref x_laundry, .ref x_orders, .ref x_contest, .ref x_asked, .ref x_tally, .int 0, .ref x_draft])), (x_now, .inr (3, [.ref n_house, .ref n_linen, .ref n_noteWeeks, .ref n_noteBeds, .ref n_noteSheets, .int 0, .int (-1), .int 0, .int 0]))] := hD
  refine lv_iload_n hx hb dX11_note_0 rfl (lv_at hl 1 rfl) ?_
  refine lv_iconst (v := (-1)) hx hb dX11_note_1 (by decide) ?_
  refine lv_icmp_ne (tgt := 15) hx hb dX11_note_2 (by decide) (fun c1 => ?_) (fun c1 => ?_)
  · exact False.elim (by revert c1; decide)
  refine lv_aload_n hx hb dX11_note_5 rfl (lv_at hl 0 rfl) ?_
  refine va_get (D := (dC, dI)) (ci := 11) (v := .ref x_now) (C := RX11) (T := TX11) (N := 14) hx hb hts uX11 hown hK hP 0 rfl rfl 4 (by decide) (hts _ lk_447) (fun _ h9 => h9) rfl dX11_note_6 ?_
  refine lv_iconst (v := 0) hx hb dX11_note_9 (by decide) ?_
  refine va_put (D := (dC, dI)) (ci := 3) (v := .int 0) (ty := .int) (C := RX3) (T := TX3) (N := 9) hx hb hts uX3 tyX3 tyX3_ok nmX3 hown hK hP hD hS 1 rfl rfl 5 (by decide) (hts _ lk_323) (fun _ h9 => h9) rfl (by decide +kernel) rfl rfl (Nat.le_of_ble_eq_true rfl) dX11_note_10 (fun H1 locs hP hD hS => ?_)
  have hP : va_P (dC, dI) vwCl [(x, .inr (11, [.ref x_tape, .ref x_houseReader, .ref x_ruleReader, .ref x_rules, .ref x_now, .ref x_images, .ref x_past, .ref x_laundry, .ref x_orders, .ref x_contest, .ref x_asked, .ref x_tally, .int 0, .ref x_draft])), (x_now, .inr (3, [.ref n_house, .ref n_linen, .ref n_noteWeeks, .ref n_noteBeds, .ref n_noteSheets, .int 0, .int (-1), .int 0, .int 0]))] H1 := hP
  have hD : va_D A [(x, .inr (11, [.ref x_tape, .ref x_houseReader, .ref x_ruleReader, .ref x_rules, .ref x_now, .ref x_images, .ref x_past, .ref x_laundry, .ref x_orders, .ref x_contest, .ref x_asked, .ref x_tally, .int 0, .ref x_draft])), (x_now, .inr (3, [.ref n_house, .ref n_linen, .ref n_noteWeeks, .ref n_noteBeds, .ref n_noteSheets, .int 0, .int (-1), .int 0, .int 0]))] := hD
  refine lv_iconst (v := 0) hx hb dX11_note_13 (by decide) ?_
  refine W.widen (k := 0) (n := 0) (Nat.le_of_ble_eq_true rfl) (Nat.le_of_ble_eq_true rfl) ?_
  have hP9 := hP.sub (ws' := []) [] rfl
  have hD9 := hD.sub (ws' := []) [] (by decide) rfl
  exact rM_i hx hb hr hlocks hP9 hD9 hS rfl dX11_note_14

set_option maxHeartbeats 4000000 in
set_option maxRecDepth 100000 in
theorem c_X11_note_t (l : Launch) (dC : Nat → ClassId) (dI : Nat → Nat → Nat) (kA : Nat → ClassId) (sz : Nat) (x : Nat) (x_tape : Nat) (x_houseReader : Nat) (x_ruleReader : Nat) (x_rules : Nat) (x_now : Nat) (x_images : Nat) (x_past : Nat) (x_laundry : Nat) (x_orders : Nat) (x_contest : Nat) (x_asked : Nat) (x_tally : Nat) (x_draft : Nat) (n_house : Nat) (n_linen : Nat) (n_noteWeeks : Nat) (n_noteBeds : Nat) (n_noteSheets : Nat) (nh_grades : Nat) (nh_wants : Nat) (nh_mixWeeks : Nat) (nh_mixOnes : Nat) (nh_mixOthers : Nat) (p0 : Int32) (p1 : Int32) (p2 : Int32) (h0 : ¬ p0 = -1) (h1 : ¬ p0 < 0 ∧ ¬ 60 < p0) : Met l yX11_note (wsU yX11_note cX11_note 4 (some .int)) ({ frames := 1, cells := 0, slots := 0, locals := 22 }) (va_Pc [.ref x, .int p0, .int p1, .int p2] (PW dC dI kA [(x, .inr (11, [.ref x_tape, .ref x_houseReader, .ref x_ruleReader, .ref x_rules, .ref x_now, .ref x_images, .ref x_past, .ref x_laundry, .ref x_orders, .ref x_contest, .ref x_asked, .ref x_tally, .int 0, .ref x_draft])), (x_now, .inr (3, [.ref n_house, .ref n_linen, .ref n_noteWeeks, .ref n_noteBeds, .ref n_noteSheets, .int 0, .int (-1), .int 0, .int 0])), (n_house, .inr (1, [.int 0, .int 0, .int 0, .int 0, .int 0, .ref nh_grades, .ref nh_wants, .ref nh_mixWeeks, .ref nh_mixOnes, .ref nh_mixOthers]))] sz)) (QP (some (.int (-2)))) 0 0 (fun _ => False) := by
  refine met_P (own := RX11) (by decide) rfl (Nat.le_of_ble_eq_true rfl) ?_
  intro p e s m below meth c ls hx hb hr hts hown hlocks hml hK hN hP hD hl
  have hl : lv_has ls 4 [(0, .ref x), (1, .int p0), (2, .int p1), (3, .int p2)] := hl
  have hP : va_P (dC, dI) vwCl [(x, .inr (11, [.ref x_tape, .ref x_houseReader, .ref x_ruleReader, .ref x_rules, .ref x_now, .ref x_images, .ref x_past, .ref x_laundry, .ref x_orders, .ref x_contest, .ref x_asked, .ref x_tally, .int 0, .ref x_draft])), (x_now, .inr (3, [.ref n_house, .ref n_linen, .ref n_noteWeeks, .ref n_noteBeds, .ref n_noteSheets, .int 0, .int (-1), .int 0, .int 0])), (n_house, .inr (1, [.int 0, .int 0, .int 0, .int 0, .int 0, .ref nh_grades, .ref nh_wants, .ref nh_mixWeeks, .ref nh_mixOnes, .ref nh_mixOthers]))] s.heap := hP
  refine lv_iload_n hx hb dX11_note_0 rfl (lv_at hl 1 rfl) ?_
  refine lv_iconst (v := (-1)) hx hb dX11_note_1 (by decide) ?_
  refine lv_icmp_ne (tgt := 15) hx hb dX11_note_2 (by decide) (fun c1 => ?_) (fun c1 => ?_)
  rotate_left
  · exact absurd c1 h0
  refine lv_iload_n hx hb dX11_note_15 rfl (lv_at hl 1 rfl) ?_
  refine lv_iconst (v := 0) hx hb dX11_note_16 (by decide) ?_
  refine lv_bipush (v := 60) hx hb dX11_note_17 (by decide) ?_
  have hPc := hP.sub (ws' := []) [] rfl
  have hDc := hD.sub (ws' := []) [] (by decide) rfl
  refine cP (W.runS (As := [.int p0, .int 0, .int 60]) (rest := []) ⟨hx, hb, hml, hown, hts⟩ (c_X11_isWithin_t l dC dI kA s.heap.size p0 h1) (cwS 3 hts (gS lk_843 lk_844 lk_110 lk_845) rfl rfl rfl (by decide +kernel) ⟨Nat.le_of_ble_eq_true rfl, Nat.le_of_ble_eq_true rfl⟩) (pw_s hPc hDc hK hN) rfl rfl hl.1 rfl (lv_room (Nat.le_of_ble_eq_true rfl)) dX11_note_19 ⟨Nat.le_of_ble_eq_true rfl, Nat.le_of_ble_eq_true rfl⟩) ?_
  refine W.eq (g2 := F0 m 22 ls [.int 1]) rfl ?_
  refine lv_if_eq (tgt := 53) hx hb dX11_note_22 (by decide) (fun c2 => ?_) (fun c2 => ?_)
  · exact False.elim (by revert c2; decide)
  refine lv_aload_n hx hb dX11_note_25 rfl (lv_at hl 0 rfl) ?_
  refine lv_iload_n hx hb dX11_note_26 rfl (lv_at hl 2 rfl) ?_
  have hPc := hP.sub (ws' := [(x, .inr (11, [.ref x_tape, .ref x_houseReader, .ref x_ruleReader, .ref x_rules, .ref x_now, .ref x_images, .ref x_past, .ref x_laundry, .ref x_orders, .ref x_contest, .ref x_asked, .ref x_tally, .int 0, .ref x_draft])), (x_now, .inr (3, [.ref n_house, .ref n_linen, .ref n_noteWeeks, .ref n_noteBeds, .ref n_noteSheets, .int 0, .int (-1), .int 0, .int 0])), (n_house, .inr (1, [.int 0, .int 0, .int 0, .int 0, .int 0, .ref nh_grades, .ref nh_wants, .ref nh_mixWeeks, .ref nh_mixOnes, .ref nh_mixOthers]))]) [0, 1, 2] rfl
  have hDc := hD.sub (ws' := [(x, .inr (11, [.ref x_tape, .ref x_houseReader, .ref x_ruleReader, .ref x_rules, .ref x_now, .ref x_images, .ref x_past, .ref x_laundry, .ref x_orders, .ref x_contest, .ref x_asked, .ref x_tally, .int 0, .ref x_draft])), (x_now, .inr (3, [.ref n_house, .ref n_linen, .ref n_noteWeeks, .ref n_noteBeds, .ref n_noteSheets, .int 0, .int (-1), .int 0, .int 0])), (n_house, .inr (1, [.int 0, .int 0, .int 0, .int 0, .int 0, .ref nh_grades, .ref nh_wants, .ref nh_mixWeeks, .ref nh_mixOnes, .ref nh_mixOthers]))]) [0, 1, 2] (by decide) rfl
  refine cP (W.runV (As := [.int p1]) (rest := []) ⟨hx, hb, hml, hown, hts⟩ (c_X11_isLodger l dC dI kA s.heap.size x x_tape x_houseReader x_ruleReader x_rules x_now x_images x_past x_laundry x_orders x_contest x_asked x_tally x_draft n_house n_linen n_noteWeeks n_noteBeds n_noteSheets nh_grades nh_wants nh_mixWeeks nh_mixOnes nh_mixOthers p1 ) (cwV 1 hts (gV lk_724 lk_726 lk_10 lk_110 lk_727) rfl rfl rfl (by decide +kernel) ⟨Nat.le_of_ble_eq_true rfl, Nat.le_of_ble_eq_true rfl⟩) (pw_v hPc hDc hK hN 0 11 rfl rfl) rfl rfl hl.1 rfl (lv_room (Nat.le_of_ble_eq_true rfl)) dX11_note_27 ⟨Nat.le_of_ble_eq_true rfl, Nat.le_of_ble_eq_true rfl⟩) ?_
  refine W.eq (g2 := F0 m 30 ls [.int 0]) rfl ?_
  refine lv_if_eq (tgt := 53) hx hb dX11_note_30 (by decide) (fun c3 => ?_) (fun c3 => ?_)
  rotate_left
  · exact False.elim (by revert c3; decide)
  refine lv_bipush (v := (-2)) hx hb dX11_note_53 (by decide) ?_
  exact rP_i hx hb hr hlocks dX11_note_55

set_option maxHeartbeats 4000000 in
set_option maxRecDepth 100000 in
theorem c_X11_note_f (l : Launch) (dC : Nat → ClassId) (dI : Nat → Nat → Nat) (kA : Nat → ClassId) (sz : Nat) (x : Nat) (x_tape : Nat) (x_houseReader : Nat) (x_ruleReader : Nat) (x_rules : Nat) (x_now : Nat) (x_images : Nat) (x_past : Nat) (x_laundry : Nat) (x_orders : Nat) (x_contest : Nat) (x_asked : Nat) (x_tally : Nat) (x_draft : Nat) (n_house : Nat) (n_linen : Nat) (n_noteWeeks : Nat) (n_noteBeds : Nat) (n_noteSheets : Nat) (nh_grades : Nat) (nh_wants : Nat) (nh_mixWeeks : Nat) (nh_mixOnes : Nat) (nh_mixOthers : Nat) (p0 : Int32) (p1 : Int32) (p2 : Int32) (h0 : ¬ p0 = -1) (h1 : p0 < 0 ∨ 60 < p0) : Met l yX11_note (wsU yX11_note cX11_note 4 (some .int)) ({ frames := 1, cells := 0, slots := 0, locals := 22 }) (va_Pc [.ref x, .int p0, .int p1, .int p2] (PW dC dI kA [(x, .inr (11, [.ref x_tape, .ref x_houseReader, .ref x_ruleReader, .ref x_rules, .ref x_now, .ref x_images, .ref x_past, .ref x_laundry, .ref x_orders, .ref x_contest, .ref x_asked, .ref x_tally, .int 0, .ref x_draft])), (x_now, .inr (3, [.ref n_house, .ref n_linen, .ref n_noteWeeks, .ref n_noteBeds, .ref n_noteSheets, .int 0, .int (-1), .int 0, .int 0])), (n_house, .inr (1, [.int 0, .int 0, .int 0, .int 0, .int 0, .ref nh_grades, .ref nh_wants, .ref nh_mixWeeks, .ref nh_mixOnes, .ref nh_mixOthers]))] sz)) (QP (some (.int (-2)))) 0 0 (fun _ => False) := by
  refine met_P (own := RX11) (by decide) rfl (Nat.le_of_ble_eq_true rfl) ?_
  intro p e s m below meth c ls hx hb hr hts hown hlocks hml hK hN hP hD hl
  have hl : lv_has ls 4 [(0, .ref x), (1, .int p0), (2, .int p1), (3, .int p2)] := hl
  have hP : va_P (dC, dI) vwCl [(x, .inr (11, [.ref x_tape, .ref x_houseReader, .ref x_ruleReader, .ref x_rules, .ref x_now, .ref x_images, .ref x_past, .ref x_laundry, .ref x_orders, .ref x_contest, .ref x_asked, .ref x_tally, .int 0, .ref x_draft])), (x_now, .inr (3, [.ref n_house, .ref n_linen, .ref n_noteWeeks, .ref n_noteBeds, .ref n_noteSheets, .int 0, .int (-1), .int 0, .int 0])), (n_house, .inr (1, [.int 0, .int 0, .int 0, .int 0, .int 0, .ref nh_grades, .ref nh_wants, .ref nh_mixWeeks, .ref nh_mixOnes, .ref nh_mixOthers]))] s.heap := hP
  refine lv_iload_n hx hb dX11_note_0 rfl (lv_at hl 1 rfl) ?_
  refine lv_iconst (v := (-1)) hx hb dX11_note_1 (by decide) ?_
  refine lv_icmp_ne (tgt := 15) hx hb dX11_note_2 (by decide) (fun c1 => ?_) (fun c1 => ?_)
  rotate_left
  · exact absurd c1 h0
  refine lv_iload_n hx hb dX11_note_15 rfl (lv_at hl 1 rfl) ?_
  refine lv_iconst (v := 0) hx hb dX11_note_16 (by decide) ?_
  refine lv_bipush (v := 60) hx hb dX11_note_17 (by decide) ?_
  have hPc := hP.sub (ws' := []) [] rfl
  have hDc := hD.sub (ws' := []) [] (by decide) rfl
  refine cP (W.runS (As := [.int p0, .int 0, .int 60]) (rest := []) ⟨hx, hb, hml, hown, hts⟩ (c_X11_isWithin_f60 l dC dI kA s.heap.size p0 h1) (cwS 3 hts (gS lk_843 lk_844 lk_110 lk_845) rfl rfl rfl (by decide +kernel) ⟨Nat.le_of_ble_eq_true rfl, Nat.le_of_ble_eq_true rfl⟩) (pw_s hPc hDc hK hN) rfl rfl hl.1 rfl (lv_room (Nat.le_of_ble_eq_true rfl)) dX11_note_19 ⟨Nat.le_of_ble_eq_true rfl, Nat.le_of_ble_eq_true rfl⟩) ?_
  refine W.eq (g2 := F0 m 22 ls [.int 0]) rfl ?_
  refine lv_if_eq (tgt := 53) hx hb dX11_note_22 (by decide) (fun c2 => ?_) (fun c2 => ?_)
  rotate_left
  · exact False.elim (by revert c2; decide)
  refine lv_bipush (v := (-2)) hx hb dX11_note_53 (by decide) ?_
  exact rP_i hx hb hr hlocks dX11_note_55

set_option maxHeartbeats 4000000 in
set_option maxRecDepth 100000 in
theorem c_X11_seed_f (l : Launch) (dC : Nat → ClassId) (dI : Nat → Nat → Nat) (kA : Nat → ClassId) (sz : Nat) (x : Nat) (x_tape : Nat) (x_houseReader : Nat) (x_ruleReader : Nat) (x_rules : Nat) (x_now : Nat) (x_images : Nat) (x_past : Nat) (x_laundry : Nat) (x_orders : Nat) (x_contest : Nat) (x_asked : Nat) (x_tally : Nat) (x_draft : Nat) (p0 : Int32) (h1 : p0 < 0) : Met l yX11_seed (wsU yX11_seed cX11_seed 3 (some .int)) ({ frames := 0, cells := 0, slots := 0, locals := 0 }) (va_Pc [.ref x, .int p0] (PW dC dI kA [(x, .inr (11, [.ref x_tape, .ref x_houseReader, .ref x_ruleReader, .ref x_rules, .ref x_now, .ref x_images, .ref x_past, .ref x_laundry, .ref x_orders, .ref x_contest, .ref x_asked, .ref x_tally, .int 0, .ref x_draft]))] sz)) (QP (some (.int (-1)))) 0 0 (fun _ => False) := by
  refine met_P (own := RX11) (by decide) rfl (Nat.le_of_ble_eq_true rfl) ?_
  intro p e s m below meth c ls hx hb hr hts hown hlocks hml hK hN hP hD hl
  have hl : lv_has ls 3 [(0, .ref x), (1, .int p0)] := hl
  have hP : va_P (dC, dI) vwCl [(x, .inr (11, [.ref x_tape, .ref x_houseReader, .ref x_ruleReader, .ref x_rules, .ref x_now, .ref x_images, .ref x_past, .ref x_laundry, .ref x_orders, .ref x_contest, .ref x_asked, .ref x_tally, .int 0, .ref x_draft]))] s.heap := hP
  refine lv_iload_n hx hb dX11_seed_0 rfl (lv_at hl 1 rfl) ?_
  refine lv_if_ge (tgt := 6) hx hb dX11_seed_1 (by decide) (fun c1 => ?_) (fun c1 => ?_)
  · exact absurd h1 (Int32.not_lt.mpr c1)
  refine lv_iconst (v := (-1)) hx hb dX11_seed_4 (by decide) ?_
  exact rP_i hx hb hr hlocks dX11_seed_5

set_option maxHeartbeats 4000000 in
set_option maxRecDepth 100000 in
theorem c_X11_seed_t (l : Launch) (dC : Nat → ClassId) (dI : Nat → Nat → Nat) (kA : Nat → ClassId) (sz : Nat) (x : Nat) (x_tape : Nat) (x_houseReader : Nat) (x_ruleReader : Nat) (x_rules : Nat) (x_now : Nat) (x_images : Nat) (x_past : Nat) (x_laundry : Nat) (x_orders : Nat) (x_contest : Nat) (x_asked : Nat) (x_tally : Nat) (x_draft : Nat) (n_house : Nat) (n_linen : Nat) (n_noteWeeks : Nat) (n_noteBeds : Nat) (n_noteSheets : Nat) (p0 : Int32) (h1 : ¬ p0 < 0) : Met l yX11_seed (wsU yX11_seed cX11_seed 3 (some .int)) ({ frames := 0, cells := 0, slots := 0, locals := 0 }) (va_Pc [.ref x, .int p0] (PW dC dI kA [(x, .inr (11, [.ref x_tape, .ref x_houseReader, .ref x_ruleReader, .ref x_rules, .ref x_now, .ref x_images, .ref x_past, .ref x_laundry, .ref x_orders, .ref x_contest, .ref x_asked, .ref x_tally, .int 0, .ref x_draft])), (x_now, .inr (3, [.ref n_house, .ref n_linen, .ref n_noteWeeks, .ref n_noteBeds, .ref n_noteSheets, .int 0, .int (-1), .int 0, .int 0]))] sz)) (QU dC dI (some (.int 0)) (fun w => w = []) (va_A [(x, .inr (11, [.ref x_tape, .ref x_houseReader, .ref x_ruleReader, .ref x_rules, .ref x_now, .ref x_images, .ref x_past, .ref x_laundry, .ref x_orders, .ref x_contest, .ref x_asked, .ref x_tally, .int 0, .ref x_draft])), (x_now, .inr (3, [.ref n_house, .ref n_linen, .ref n_noteWeeks, .ref n_noteBeds, .ref n_noteSheets, .int 0, .int (-1), .int 0, .int 0]))] sz)) 0 0 (va_A [(x, .inr (11, [.ref x_tape, .ref x_houseReader, .ref x_ruleReader, .ref x_rules, .ref x_now, .ref x_images, .ref x_past, .ref x_laundry, .ref x_orders, .ref x_contest, .ref x_asked, .ref x_tally, .int 0, .ref x_draft])), (x_now, .inr (3, [.ref n_house, .ref n_linen, .ref n_noteWeeks, .ref n_noteBeds, .ref n_noteSheets, .int 0, .int (-1), .int 0, .int 0]))] sz) := by
  refine met_M (own := RX11) (by decide) rfl (Nat.le_of_ble_eq_true rfl) ?_
  intro p e s m below meth c ls A hx hb hr hts hown hlocks hml hin hK hN hA hP hD hS hl
  have hl : lv_has ls 3 [(0, .ref x), (1, .int p0)] := hl
  have hP : va_P (dC, dI) vwCl [(x, .inr (11, [.ref x_tape, .ref x_houseReader, .ref x_ruleReader, .ref x_rules, .ref x_now, .ref x_images, .ref x_past, .ref x_laundry, .ref x_orders, .ref x_contest, .ref x_asked, .ref x_tally, .int 0, .ref x_draft])), (x_now, .inr (3, [.ref n_house, .ref n_linen, .ref n_noteWeeks, .ref n_noteBeds, .ref n_noteSheets, .int 0, .int (-1), .int 0, .int 0]))] s.heap := hP
  have hD : va_D A [(x, .inr (11, [.ref x_tape, .ref x_houseReader, .ref x_ruleReader, .ref x_rules, .ref x_now, .ref x_images, .ref x_past, .ref x_laundry, .ref x_orders, .ref x_contest, .ref x_asked, .ref x_tally, .int 0, .ref x_draft])), (x_now, .inr (3, [.ref n_house, .ref n_linen, .ref n_noteWeeks, .ref n_noteBeds, .ref n_noteSheets, .int 0, .int (-1), .int 0, .int 0]))] := hD
  refine lv_iload_n hx hb dX11_seed_0 rfl (lv_at hl 1 rfl) ?_
  refine lv_if_ge (tgt := 6) hx hb dX11_seed_1 (by decide) (fun c1 => ?_) (fun c1 => ?_)
  rotate_left
  · exact absurd (Int32.not_lt.mp h1) c1
  refine lv_aload_n hx hb dX11_seed_6 rfl (lv_at hl 0 rfl) ?_
  refine va_get (D := (dC, dI)) (ci := 11) (v := .ref x_now) (C := RX11) (T := TX11) (N := 14) hx hb hts uX11 hown hK hP 0 rfl rfl 4 (by decide) (hts _ lk_447) (fun _ h9 => h9) rfl dX11_seed_7 ?_
  refine va_get (D := (dC, dI)) (ci := 3) (v := .int 0) (C := RX3) (T := TX3) (N := 9) hx hb hts uX3 hown hK hP 1 rfl rfl 7 (by decide) (hts _ lk_327) (fun _ h9 => h9) rfl dX11_seed_10 ?_
  refine lv_istore_n (lv' := [(2, .int 0), (0, .ref x), (1, .int p0)]) hx hb dX11_seed_13 rfl hl (by decide) rfl (fun ls hl => ?_)
  refine lv_aload_n hx hb dX11_seed_14 rfl (lv_at hl 1 rfl) ?_
  refine va_get (D := (dC, dI)) (ci := 11) (v := .ref x_now) (C := RX11) (T := TX11) (N := 14) hx hb hts uX11 hown hK hP 0 rfl rfl 4 (by decide) (hts _ lk_447) (fun _ h9 => h9) rfl dX11_seed_15 ?_
  refine lv_iload_n hx hb dX11_seed_18 rfl (lv_at hl 2 rfl) ?_
  refine va_put (D := (dC, dI)) (ci := 3) (v := .int p0) (ty := .int) (C := RX3) (T := TX3) (N := 9) hx hb hts uX3 tyX3 tyX3_ok nmX3 hown hK hP hD hS 1 rfl rfl 7 (by decide) (hts _ lk_327) (fun _ h9 => h9) rfl (by decide +kernel) rfl rfl (Nat.le_of_ble_eq_true rfl) dX11_seed_19 (fun H1 locs hP hD hS => ?_)
  have hP : va_P (dC, dI) vwCl [(x, .inr (11, [.ref x_tape, .ref x_houseReader, .ref x_ruleReader, .ref x_rules, .ref x_now, .ref x_images, .ref x_past, .ref x_laundry, .ref x_orders, .ref x_contest, .ref x_asked, .ref x_tally, .int 0, .ref x_draft])), (x_now, .inr (3, [.ref n_house, .ref n_linen, .ref n_noteWeeks, .ref n_noteBeds, .ref n_noteSheets, .int 0, .int (-1), .int p0, .int 0]))] H1 := hP
  have hD : va_D A [(x, .inr (11, [.ref x_tape, .ref x_houseReader, .ref x_ruleReader, .ref x_rules, .ref x_now, .ref x_images, .ref x_past, .ref x_laundry, .ref x_orders, .ref x_contest, .ref x_asked, .ref x_tally, .int 0, .ref x_draft])), (x_now, .inr (3, [.ref n_house, .ref n_linen, .ref n_noteWeeks, .ref n_noteBeds, .ref n_noteSheets, .int 0, .int (-1), .int p0, .int 0]))] := hD
  refine lv_iload_n hx hb dX11_seed_22 rfl (lv_at hl 0 rfl) ?_
  refine W.widen (k := 0) (n := 0) (Nat.le_of_ble_eq_true rfl) (Nat.le_of_ble_eq_true rfl) ?_
  have hP9 := hP.sub (ws' := []) [] rfl
  have hD9 := hD.sub (ws' := []) [] (by decide) rfl
  exact rM_i hx hb hr hlocks hP9 hD9 hS rfl dX11_seed_23

set_option maxHeartbeats 4000000 in
set_option maxRecDepth 100000 in
theorem c_X11_back_f (l : Launch) (dC : Nat → ClassId) (dI : Nat → Nat → Nat) (kA : Nat → ClassId) (sz : Nat) (x : Nat) (x_tape : Nat) (x_houseReader : Nat) (x_ruleReader : Nat) (x_rules : Nat) (x_now : Nat) (x_images : Nat) (x_past : Nat) (x_laundry : Nat) (x_orders : Nat) (x_contest : Nat) (x_asked : Nat) (x_tally : Nat) (x_draft : Nat) (p0 : Int32) (h1 : p0 < 0 ∨ 3 < p0) : Met l yX11_back (wsU yX11_back cX11_back 2 (some .int)) ({ frames := 1, cells := 0, slots := 0, locals := 22 }) (va_Pc [.ref x, .int p0] (PW dC dI kA [(x, .inr (11, [.ref x_tape, .ref x_houseReader, .ref x_ruleReader, .ref x_rules, .ref x_now, .ref x_images, .ref x_past, .ref x_laundry, .ref x_orders, .ref x_contest, .ref x_asked, .ref x_tally, .int 0, .ref x_draft]))] sz)) (QP (some (.int (-1)))) 0 0 (fun _ => False) := by
  refine met_P (own := RX11) (by decide) rfl (Nat.le_of_ble_eq_true rfl) ?_
  intro p e s m below meth c ls hx hb hr hts hown hlocks hml hK hN hP hD hl
  have hl : lv_has ls 2 [(0, .ref x), (1, .int p0)] := hl
  have hP : va_P (dC, dI) vwCl [(x, .inr (11, [.ref x_tape, .ref x_houseReader, .ref x_ruleReader, .ref x_rules, .ref x_now, .ref x_images, .ref x_past, .ref x_laundry, .ref x_orders, .ref x_contest, .ref x_asked, .ref x_tally, .int 0, .ref x_draft]))] s.heap := hP
  refine lv_iload_n hx hb dX11_back_0 rfl (lv_at hl 1 rfl) ?_
  refine lv_iconst (v := 0) hx hb dX11_back_1 (by decide) ?_
  refine lv_iconst (v := 3) hx hb dX11_back_2 (by decide) ?_
  have hPc := hP.sub (ws' := []) [] rfl
  have hDc := hD.sub (ws' := []) [] (by decide) rfl
  refine cP (W.runS (As := [.int p0, .int 0, .int 3]) (rest := []) ⟨hx, hb, hml, hown, hts⟩ (c_X11_isWithin_f3 l dC dI kA s.heap.size p0 h1) (cwS 3 hts (gS lk_843 lk_844 lk_110 lk_845) rfl rfl rfl (by decide +kernel) ⟨Nat.le_of_ble_eq_true rfl, Nat.le_of_ble_eq_true rfl⟩) (pw_s hPc hDc hK hN) rfl rfl hl.1 rfl (lv_room (Nat.le_of_ble_eq_true rfl)) dX11_back_3 ⟨Nat.le_of_ble_eq_true rfl, Nat.le_of_ble_eq_true rfl⟩) ?_
  refine W.eq (g2 := F0 m 6 ls [.int 0]) rfl ?_
  refine lv_if_eq (tgt := 21) hx hb dX11_back_6 (by decide) (fun c1 => ?_) (fun c1 => ?_)
  rotate_left
  · exact False.elim (by revert c1; decide)
  refine lv_iconst (v := (-1)) hx hb dX11_back_21 (by decide) ?_
  exact rP_i hx hb hr hlocks dX11_back_22

set_option maxHeartbeats 4000000 in
set_option maxRecDepth 100000 in
theorem c_X11_image_f (l : Launch) (dC : Nat → ClassId) (dI : Nat → Nat → Nat) (kA : Nat → ClassId) (sz : Nat) (x : Nat) (x_tape : Nat) (x_houseReader : Nat) (x_ruleReader : Nat) (x_rules : Nat) (x_now : Nat) (x_images : Nat) (x_past : Nat) (x_laundry : Nat) (x_orders : Nat) (x_contest : Nat) (x_asked : Nat) (x_tally : Nat) (x_draft : Nat) (p0 : Int32) (h1 : p0 < 0 ∨ 3 < p0) : Met l yX11_image (wsU yX11_image cX11_image 2 (some .int)) ({ frames := 1, cells := 0, slots := 0, locals := 22 }) (va_Pc [.ref x, .int p0] (PW dC dI kA [(x, .inr (11, [.ref x_tape, .ref x_houseReader, .ref x_ruleReader, .ref x_rules, .ref x_now, .ref x_images, .ref x_past, .ref x_laundry, .ref x_orders, .ref x_contest, .ref x_asked, .ref x_tally, .int 0, .ref x_draft]))] sz)) (QP (some (.int (-1)))) 0 0 (fun _ => False) := by
  refine met_P (own := RX11) (by decide) rfl (Nat.le_of_ble_eq_true rfl) ?_
  intro p e s m below meth c ls hx hb hr hts hown hlocks hml hK hN hP hD hl
  have hl : lv_has ls 2 [(0, .ref x), (1, .int p0)] := hl
  have hP : va_P (dC, dI) vwCl [(x, .inr (11, [.ref x_tape, .ref x_houseReader, .ref x_ruleReader, .ref x_rules, .ref x_now, .ref x_images, .ref x_past, .ref x_laundry, .ref x_orders, .ref x_contest, .ref x_asked, .ref x_tally, .int 0, .ref x_draft]))] s.heap := hP
  refine lv_iload_n hx hb dX11_image_0 rfl (lv_at hl 1 rfl) ?_
  refine lv_iconst (v := 0) hx hb dX11_image_1 (by decide) ?_
  refine lv_iconst (v := 3) hx hb dX11_image_2 (by decide) ?_
  have hPc := hP.sub (ws' := []) [] rfl
  have hDc := hD.sub (ws' := []) [] (by decide) rfl
  refine cP (W.runS (As := [.int p0, .int 0, .int 3]) (rest := []) ⟨hx, hb, hml, hown, hts⟩ (c_X11_isWithin_f3 l dC dI kA s.heap.size p0 h1) (cwS 3 hts (gS lk_843 lk_844 lk_110 lk_845) rfl rfl rfl (by decide +kernel) ⟨Nat.le_of_ble_eq_true rfl, Nat.le_of_ble_eq_true rfl⟩) (pw_s hPc hDc hK hN) rfl rfl hl.1 rfl (lv_room (Nat.le_of_ble_eq_true rfl)) dX11_image_3 ⟨Nat.le_of_ble_eq_true rfl, Nat.le_of_ble_eq_true rfl⟩) ?_
  refine W.eq (g2 := F0 m 6 ls [.int 0]) rfl ?_
  refine lv_if_ne (tgt := 11) hx hb dX11_image_6 (by decide) (fun c1 => ?_) (fun c1 => ?_)
  · exact False.elim (by revert c1; decide)
  refine lv_iconst (v := (-1)) hx hb dX11_image_9 (by decide) ?_
  exact rP_i hx hb hr hlocks dX11_image_10
