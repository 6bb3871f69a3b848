/-! Rule's constructor -/
theorem met_r8 (l : Launch) (dC : Nat → ClassId) (dI : Nat → Nat → Nat) (kA : Nat → ClassId) (ws : va_W) (sz : Nat) {a q0 r1 r2 : Nat} (ha : ws[q0]? = some (a, .inr (8, [.null, .null]))) : Met l yX8_init (wsU yX8_init cX8_init 3 none) { frames := 1, cells := 0, slots := 0, locals := 40 } (va_Pc [.ref a, .ref r1, .ref r2] (PW dC dI kA ws sz)) (QU dC dI none (fun w => w = ws.set q0 (a, .inr (8, [.ref r1, .ref r2]))) (va_A ws sz)) 0 0 (va_A ws sz) := by
  refine met_M (own := RX8) (by decide) rfl (Nat.le_of_ble_eq_true rfl) ?_
  intro p e s m below meth c ls A hx hb hr hts hown hlocks hml hin hK hN hA hP hD hS hl
  have hl : lv_has ls 3 [(0, .ref a), (1, .ref r1), (2, .ref r2)] := hl
  have hin : meth.name = "<init>" := hin
  have hlt : q0 < ws.length := (List.getElem?_eq_some_iff.mp ha).1
  refine lv_aload_n hx hb dX8_init_0 rfl (lv_at hl 0 rfl) ?_
  refine W.objInit hx hb hown (hts _ rk_o8) (hts _ rk_oi2) (hts _ rk_oc) rfl (by rw [hml]; exact hl.1) rfl dX8_init_1 (Nat.le_of_ble_eq_true rfl) (Nat.le_of_ble_eq_true rfl) ?_
  refine W.eq (g2 := F0 m 4 ls []) rfl ?_
  refine lv_aload_n hx hb dX8_init_4 rfl (lv_at hl 0 rfl) ?_
  refine lv_aload_n hx hb dX8_init_5 rfl (lv_at hl 1 rfl) ?_
  refine va_putF (D := (dC, dI)) (ci := 8) (v := .ref r1) (ty := .array .int) (C := RX8) (T := TX8) (N := 2) hx hb hts uX8 tyX8 tyX8_ok nmX8 hown hK hP hD hS q0 ha rfl 0 (by decide) (hts _ rk_f8a) (fun _ h9 => h9) rfl hin rfl (by decide +kernel) rfl rfl (Nat.le_of_ble_eq_true rfl) dX8_init_6 (fun H3 locs hP hD hS => ?_)
  have ha2 : (ws.set q0 (a, .inr (8, [.ref r1, .null])) : va_W)[q0]? = some (a, .inr (8, [.ref r1, .null])) := List.getElem?_set_self hlt
  refine lv_aload_n hx hb dX8_init_9 rfl (lv_at hl 0 rfl) ?_
  refine lv_aload_n hx hb dX8_init_10 rfl (lv_at hl 2 rfl) ?_
  refine va_putF (D := (dC, dI)) (ci := 8) (v := .ref r2) (ty := .array .int) (C := RX8) (T := TX8) (N := 2) hx hb hts uX8 tyX8 tyX8_ok nmX8 hown hK hP hD hS q0 ha2 rfl 1 (by decide) (hts _ rk_f8b) (fun _ h9 => h9) rfl hin rfl (by decide +kernel) rfl rfl (Nat.le_of_ble_eq_true rfl) dX8_init_11 (fun H3 locs hP hD hS => ?_)
  have hw : ((ws.set q0 (a, .inr (8, [.ref r1, .null]))).set q0 (a, .inr (8, [.ref r1, .ref r2])) : va_W) = ws.set q0 (a, .inr (8, [.ref r1, .ref r2])) := List.set_set ..
  exact rM_v hx hb hr hlocks hP hD hS hw dX8_init_14
