/-! the law's loop -/
theorem law_k4 (x : Int32) : x = 0 ∨ x = 1 ∨ x = 2 ∨ x = 3 ∨ ((-2147483648) ≤ x.toInt ∧ x.toInt ≤ (-1)) ∨ (4 ≤ x.toInt ∧ x.toInt ≤ 2147483647) := by
  have b : (-2147483648) ≤ x.toInt ∧ x.toInt ≤ 2147483647 := t_rng32 x
  rcases (show x.toInt = 0 ∨ x.toInt = 1 ∨ x.toInt = 2 ∨ x.toInt = 3 ∨ x.toInt ≤ -1 ∨ 4 ≤ x.toInt by omega) with h | h | h | h | h | h
  · exact Or.inl (Int32.toInt_inj.mp (h.trans (by decide)))
  · exact Or.inr (Or.inl (Int32.toInt_inj.mp (h.trans (by decide))))
  · exact Or.inr (Or.inr (Or.inl (Int32.toInt_inj.mp (h.trans (by decide)))))
  · exact Or.inr (Or.inr (Or.inr (Or.inl (Int32.toInt_inj.mp (h.trans (by decide))))))
  · exact Or.inr (Or.inr (Or.inr (Or.inr (Or.inl ⟨b.1, h⟩))))
  · exact Or.inr (Or.inr (Or.inr (Or.inr (Or.inr ⟨h, b.2⟩))))
/-- one turn, from the switch on -/
theorem law_turn {p : Program} {l : Launch} {e : Env} {s : State} {m : MethodId} {below : List Frame} {meth : Method} {c : Code} {b L : Nat} {xs : Nat → Int32} {dC : Nat → ClassId} {dI : Nat → Nat → Nat} {kA : Nat → ClassId} {A : Nat → Prop} (C0 : lw_At p s m meth c b L xs) (hc : lc_cx l p s m #[Value.ref b] c dC dI kA A s.heap) (hbA : ¬ A b) {cells slots : Nat} (hcs : cells ≤ 600000 ∧ slots ≤ 7302249) {i : Nat} (hi : i + 6 ≤ L) (hL : L ≤ 3072) {τ : Nat → Option Nat} {σ : sxV} {ρ : sxR} {φ : sxF} {ws : va_W} {H : Heap} {locs : List Loc} {ls : Array Slot} (hp : lc_hp sxPF s dC dI kA A τ s.heap sxP0 σ ρ φ ws H locs) (hl : lv_has ls 4 [(3, .int (nI i)), (2, .ref (ρ 1)), (1, .ref (ρ 0)), (0, .ref b)])
    (tail : ∀ σ' ρ' φ' w1 H1 locs1, ρ' 0 = ρ 0 → ρ' 1 = ρ 1 → lc_hp sxPF s dC dI kA A τ s.heap sxP0 σ' ρ' φ' w1 H1 locs1 → W p l e room_1 s m #[Value.ref b] below meth c H1 locs1 cells slots (lw_Z below #[Value.ref b] s) (F0 m 1190 ls []))
    (rul : W p l e room_1 s m #[Value.ref b] below meth c H locs cells slots (lw_Z below #[Value.ref b] s) (F0 m 291 ls [])) : W p l e room_1 s m #[Value.ref b] below meth c H locs cells slots (lw_Z below #[Value.ref b] s) (F0 m 27 ls []) := by
  obtain ⟨hx, hb, hr, hml, hown, hts, hX, hbl, hlocks, hgv⟩ := id C0
  have hb : c.code = cL_law := hb
  have hS := hp.2.2.2.1
  refine lv_aload_n hx hb dL_law_27 rfl (lv_at hl 3 rfl) ?_
  refine lv_iload_n hx hb dL_law_28 rfl (lv_at hl 0 rfl) ?_
  have hlt : (nI i).toInt = (i : Int) := nI_toInt (by omega)
  refine va_sld hx hb hX hbl hbA hS (vp_in_iff.mpr ⟨by rw [hlt]; omega, by rw [hlt]; omega⟩) dL_law_29 ?_
  refine lv_bipush (v := 63) hx hb dL_law_30 (by decide) ?_
  refine lv_iand hx hb dL_law_32 ?_
  obtain ⟨j, hj, ej⟩ := pk_andE (xs (nI i).toNatClampNeg) (m := 63) 6 (by decide)
  refine lv_toc ej ?_
  rcases (show j = 0 ∨ j = 1 ∨ j = 2 ∨ j = 3 ∨ j = 4 ∨ j = 5 ∨ j = 6 ∨ j = 7 ∨ j = 8 ∨ j = 9 ∨ j = 10 ∨ j = 11 ∨ j = 12 ∨ j = 13 ∨ j = 14 ∨ j = 15 ∨ j = 16 ∨ j = 17 ∨ j = 18 ∨ j = 19 ∨ j = 20 ∨ j = 21 ∨ j = 22 ∨ j = 23 ∨ j = 24 ∨ j = 25 ∨ j = 26 ∨ j = 27 ∨ j = 28 ∨ j = 29 ∨ j = 30 ∨ j = 31 ∨ j = 32 ∨ j = 33 ∨ j = 34 ∨ j = 35 ∨ 36 ≤ j by omega) with rfl | rfl | rfl | rfl | rfl | rfl | rfl | rfl | rfl | rfl | rfl | rfl | rfl | rfl | rfl | rfl | rfl | rfl | rfl | rfl | rfl | rfl | rfl | rfl | rfl | rfl | rfl | rfl | rfl | rfl | rfl | rfl | rfl | rfl | rfl | rfl | hj2

  · refine lv_tableIn (tgt := 192) hx hb dL_law_33 (by decide) (by decide) rfl (by decide) ?_
    exact law_feed C0 hc hbA hcs hi hL hp hl tail
  · refine lv_tableIn (tgt := 255) hx hb dL_law_33 (by decide) (by decide) rfl (by decide) ?_
    exact law_end C0 hc hbA hcs hi hL hp hl tail
  · refine lv_tableIn (tgt := 278) hx hb dL_law_33 (by decide) (by decide) rfl (by decide) ?_
    exact law_house C0 hc hbA hcs hi hL hp hl tail
  · refine lv_tableIn (tgt := 291) hx hb dL_law_33 (by decide) (by decide) rfl (by decide) ?_
    exact rul
  · refine lv_tableIn (tgt := 304) hx hb dL_law_33 (by decide) (by decide) rfl (by decide) ?_
    exact law_force C0 hc hbA hcs hi hL hp hl tail
  · refine lv_tableIn (tgt := 327) hx hb dL_law_33 (by decide) (by decide) rfl (by decide) ?_
    exact law_lodger C0 hc hbA hcs hi hL hp hl tail
  · refine lv_tableIn (tgt := 360) hx hb dL_law_33 (by decide) (by decide) rfl (by decide) ?_
    exact law_sheet C0 hc hbA hcs hi hL hp hl tail
  · refine lv_tableIn (tgt := 393) hx hb dL_law_33 (by decide) (by decide) rfl (by decide) ?_
    exact law_week C0 hc hbA hcs hi hL hp hl tail
  · refine lv_tableIn (tgt := 406) hx hb dL_law_33 (by decide) (by decide) rfl (by decide) ?_
    exact law_swap C0 hc hbA hcs hi hL hp hl tail
  · refine lv_tableIn (tgt := 439) hx hb dL_law_33 (by decide) (by decide) rfl (by decide) ?_
    exact law_starch C0 hc hbA hcs hi hL hp hl tail
  · refine lv_tableIn (tgt := 462) hx hb dL_law_33 (by decide) (by decide) rfl (by decide) ?_
    exact law_darn C0 hc hbA hcs hi hL hp hl tail
  · refine lv_tableIn (tgt := 485) hx hb dL_law_33 (by decide) (by decide) rfl (by decide) ?_
    exact law_undo C0 hc hbA hcs hi hL hp hl tail
  · refine lv_tableIn (tgt := 498) hx hb dL_law_33 (by decide) (by decide) rfl (by decide) ?_
    exact law_ahead C0 hc hbA hcs hi hL hp hl tail
  · refine lv_tableIn (tgt := 541) hx hb dL_law_33 (by decide) (by decide) rfl (by decide) ?_
    exact law_lets C0 hc hbA hcs hi hL hp hl tail
  · refine lv_tableIn (tgt := 574) hx hb dL_law_33 (by decide) (by decide) rfl (by decide) ?_
    exact law_ring C0 hc hbA hcs hi hL hp hl tail
  · refine lv_tableIn (tgt := 607) hx hb dL_law_33 (by decide) (by decide) rfl (by decide) ?_
    exact law_right C0 hc hbA hcs hi hL hp hl tail
  · refine lv_tableIn (tgt := 630) hx hb dL_law_33 (by decide) (by decide) rfl (by decide) ?_
    exact law_even C0 hc hbA hcs hi hL hp hl tail
  · refine lv_tableIn (tgt := 643) hx hb dL_law_33 (by decide) (by decide) rfl (by decide) ?_
    exact law_most C0 hc hbA hcs hi hL hp hl tail
  · refine lv_tableIn (tgt := 666) hx hb dL_law_33 (by decide) (by decide) rfl (by decide) ?_
    exact law_told C0 hc hbA hcs hi hL hp hl tail
  · refine lv_tableIn (tgt := 699) hx hb dL_law_33 (by decide) (by decide) rfl (by decide) ?_
    exact law_twos C0 hc hbA hcs hi hL hp hl tail
  · refine lv_tableIn (tgt := 722) hx hb dL_law_33 (by decide) (by decide) rfl (by decide) ?_
    exact law_turned C0 hc hbA hcs hi hL hp hl tail
  · refine lv_tableIn (tgt := 745) hx hb dL_law_33 (by decide) (by decide) rfl (by decide) ?_
    exact law_thin C0 hc hbA hcs hi hL hp hl tail
  · refine lv_tableIn (tgt := 758) hx hb dL_law_33 (by decide) (by decide) rfl (by decide) ?_
    exact law_home C0 hc hbA hcs hi hL hp hl tail
  · refine lv_tableIn (tgt := 771) hx hb dL_law_33 (by decide) (by decide) rfl (by decide) ?_
    exact law_carves C0 hc hbA hcs hi hL hp hl tail
  · refine lv_tableIn (tgt := 804) hx hb dL_law_33 (by decide) (by decide) rfl (by decide) ?_
    exact law_nearer C0 hc hbA hcs hi hL hp hl tail
  · refine lv_tableIn (tgt := 827) hx hb dL_law_33 (by decide) (by decide) rfl (by decide) ?_
    exact law_lock C0 hc hbA hcs hi hL hp hl tail
  · refine lv_tableIn (tgt := 860) hx hb dL_law_33 (by decide) (by decide) rfl (by decide) ?_
    exact law_pence C0 hc hbA hcs hi hL hp hl tail
  · refine lv_tableIn (tgt := 893) hx hb dL_law_33 (by decide) (by decide) rfl (by decide) ?_
    exact law_game C0 hc hbA hcs hi hL hp hl tail
  · refine lv_tableIn (tgt := 946) hx hb dL_law_33 (by decide) (by decide) rfl (by decide) ?_
    exact law_note C0 hc hbA hcs hi hL hp hl tail
  · refine lv_tableIn (tgt := 989) hx hb dL_law_33 (by decide) (by decide) rfl (by decide) ?_
    exact law_ruled C0 hc hbA hcs hi hL hp hl tail
  · refine lv_tableIn (tgt := 1012) hx hb dL_law_33 (by decide) (by decide) rfl (by decide) ?_
    exact law_look C0 hc hbA hcs hi hL hp hl tail
  · refine lv_tableIn (tgt := 1045) hx hb dL_law_33 (by decide) (by decide) rfl (by decide) ?_
    exact law_seed C0 hc hbA hcs hi hL hp hl tail
  · refine lv_tableIn (tgt := 1068) hx hb dL_law_33 (by decide) (by decide) rfl (by decide) ?_
    exact law_laundries C0 hc hbA hcs hi hL hp hl tail
  · refine lv_tableIn (tgt := 1121) hx hb dL_law_33 (by decide) (by decide) rfl (by decide) ?_
    exact law_count C0 hc hbA hcs hi hL hp hl tail
  · refine lv_tableIn (tgt := 1144) hx hb dL_law_33 (by decide) (by decide) rfl (by decide) ?_
    rcases law_k4 (xs (i + 1)) with h | h | h | h | h | h
    · exact law_image_0 C0 hc hbA hcs hi hL hp hl h tail
    · exact law_image_1 C0 hc hbA hcs hi hL hp hl h tail
    · exact law_image_2 C0 hc hbA hcs hi hL hp hl h tail
    · exact law_image_3 C0 hc hbA hcs hi hL hp hl h tail
    · exact law_image_4 C0 hc hbA hcs hi hL hp hl h tail
    · exact law_image_5 C0 hc hbA hcs hi hL hp hl h tail
  · refine lv_tableIn (tgt := 1167) hx hb dL_law_33 (by decide) (by decide) rfl (by decide) ?_
    rcases law_k4 (xs (i + 1)) with h | h | h | h | h | h
    · exact law_back_0 C0 hc hbA hcs hi hL hp hl h tail
    · exact law_back_1 C0 hc hbA hcs hi hL hp hl h tail
    · exact law_back_2 C0 hc hbA hcs hi hL hp hl h tail
    · exact law_back_3 C0 hc hbA hcs hi hL hp hl h tail
    · exact law_back_4 C0 hc hbA hcs hi hL hp hl h tail
    · exact law_back_5 C0 hc hbA hcs hi hL hp hl h tail
  · refine lv_tableOut (tgt := 1190) hx hb dL_law_33 (Or.inr (by rw [nI_toInt (by omega)]; omega)) (by decide) ?_
    exact tail _ _ _ _ _ _ rfl rfl hp
theorem law_sub6 {L : Nat} (hL : L ≤ 3072) : (Int32.ofNat L - 6).toInt = (L : Int) - 6 := by
  have e1 : (Int32.ofNat L).toInt = (L : Int) := nI_toInt (n := L) (by omega)
  have e2 : (6 : Int32).toInt = 6 := by decide
  rw [Int32.toInt_sub, e1, e2]
  exact Int.bmod_eq_of_le (by omega) (by omega)
/-- what a call of rule() of the class, and what follows it, comes to -/
def law_RUL (p : Program) (l : Launch) (e : Env) (s : State) (m : MethodId) (below : List Frame) (meth : Method) (c : Code) (b : Nat) (dC : Nat → ClassId) (dI : Nat → Nat → Nat) (kA : Nat → ClassId) (A : Nat → Prop) : Prop := ∀ (cells slots i : Nat) (τ : Nat → Option Nat) (σ : sxV) (ρ : sxR) (φ : sxF) (ws : va_W) (H : Heap) (locs : List Loc) (ls : Array Slot), cells + 3 ≤ 600000 → slots + 430 ≤ 7302249 → lc_hp sxPF s dC dI kA A τ s.heap sxP0 σ ρ φ ws H locs → lv_has ls 4 [(3, .int (nI i)), (2, .ref (ρ 1)), (1, .ref (ρ 0)), (0, .ref b)] →
  (∀ τ' σ' ρ' φ' w1 H1 locs1, ρ' 0 = ρ 0 → ρ' 1 = ρ 1 → lc_hp sxPF s dC dI kA A τ' s.heap sxP0 σ' ρ' φ' w1 H1 locs1 → W p l e room_1 s m #[Value.ref b] below meth c H1 locs1 (cells + 3) (slots + 430) (lw_Z below #[Value.ref b] s) (F0 m 1190 ls [])) → W p l e room_1 s m #[Value.ref b] below meth c H locs cells slots (lw_Z below #[Value.ref b] s) (F0 m 291 ls [])
set_option maxHeartbeats 4000000 in
set_option maxRecDepth 100000 in
theorem law_loop {p : Program} {l : Launch} {e : Env} {s : State} {m : MethodId} {below : List Frame} {meth : Method} {c : Code} {b L : Nat} {xs : Nat → Int32} {dC : Nat → ClassId} {dI : Nat → Nat → Nat} {kA : Nat → ClassId} {A : Nat → Prop} (C0 : lw_At p s m meth c b L xs) (hc : lc_cx l p s m #[Value.ref b] c dC dI kA A s.heap) (hAe : A = fun q => s.heap.size ≤ q) (hL : L ≤ 3072) (hrul : law_RUL p l e s m below meth c b dC dI kA A) : ∀ (n cells slots i : Nat) (τ : Nat → Option Nat) (σ : sxV) (ρ : sxR) (φ : sxF) (ws : va_W) (H : Heap) (locs : List Loc) (ls : Array Slot), L ≤ i + 6 * n + 5 → i ≤ 4000 → cells + 3 * n ≤ 600000 → slots + 430 * n ≤ 7302249 → lc_hp sxPF s dC dI kA A τ s.heap sxP0 σ ρ φ ws H locs → lv_has ls 4 [(3, .int (nI i)), (2, .ref (ρ 1)), (1, .ref (ρ 0)), (0, .ref b)] → W p l e room_1 s m #[Value.ref b] below meth c H locs cells slots (lw_Z below #[Value.ref b] s) (F0 m 18 ls []) := by
  obtain ⟨hx, hb, hr, hml, hown, hts, hX, hbl, hlocks, hgv⟩ := id C0
  have hb : c.code = cL_law := hb
  have hbA : ¬ A b := by rw [hAe]; exact Nat.not_le.mpr hbl
  intro n
  induction n with
  | zero =>
    intro cells slots i τ σ ρ φ ws H locs ls hf hi0 hc1 hc2 hp hl
    have hS := hp.2.2.2.1
    refine lv_iload_n hx hb dL_law_18 rfl (lv_at hl 0 rfl) ?_
    refine lv_aload_n hx hb dL_law_19 rfl (lv_at hl 3 rfl) ?_
    refine va_slen hx hb hX hbl hbA hS dL_law_20 ?_
    refine lv_bipush (v := 6) hx hb dL_law_21 (by decide) ?_
    refine lv_isub hx hb dL_law_23 ?_
    refine lv_icmp_gt (tgt := 1196) hx hb dL_law_24 (by decide) (fun c1 => ?_) (fun c1 => ?_)
    · refine lv_iconst (v := 1) hx hb dL_law_1196 (by decide) ?_
      refine va_forget (fun q hq => by have h := hS.2.2 q hq; rw [hAe] at h; exact h) ?_
      refine W.widen (k := 600000) (n := 7302249) (by omega) (by omega) ?_
      exact lw_ret hx hb hr hlocks dL_law_1197
    · exfalso
      apply c1
      rw [Int32.lt_iff_toInt_lt, law_sub6 hL, nI_toInt (by omega)]
      omega
  | succ n IH =>
    intro cells slots i τ σ ρ φ ws H locs ls hf hi0 hc1 hc2 hp hl
    have hS := hp.2.2.2.1
    refine lv_iload_n hx hb dL_law_18 rfl (lv_at hl 0 rfl) ?_
    refine lv_aload_n hx hb dL_law_19 rfl (lv_at hl 3 rfl) ?_
    refine va_slen hx hb hX hbl hbA hS dL_law_20 ?_
    refine lv_bipush (v := 6) hx hb dL_law_21 (by decide) ?_
    refine lv_isub hx hb dL_law_23 ?_
    refine lv_icmp_gt (tgt := 1196) hx hb dL_law_24 (by decide) (fun c1 => ?_) (fun c1 => ?_)
    · refine lv_iconst (v := 1) hx hb dL_law_1196 (by decide) ?_
      refine va_forget (fun q hq => by have h := hS.2.2 q hq; rw [hAe] at h; exact h) ?_
      refine W.widen (k := 600000) (n := 7302249) (by omega) (by omega) ?_
      exact lw_ret hx hb hr hlocks dL_law_1197
    · have hi : i + 6 ≤ L := by
        rw [Int32.lt_iff_toInt_lt, law_sub6 hL, nI_toInt (by omega)] at c1
        omega
      have fin : ∀ (cells slots : Nat) (τ' : Nat → Option Nat) (σ' : sxV) (ρ' : sxR) (φ' : sxF) (w1 : va_W) (H1 : Heap) (locs1 : List Loc), cells + 3 * n ≤ 600000 → slots + 430 * n ≤ 7302249 → ρ' 0 = ρ 0 → ρ' 1 = ρ 1 → lc_hp sxPF s dC dI kA A τ' s.heap sxP0 σ' ρ' φ' w1 H1 locs1 → W p l e room_1 s m #[Value.ref b] below meth c H1 locs1 cells slots (lw_Z below #[Value.ref b] s) (F0 m 1190 ls []) := by
        intro cells slots τ' σ' ρ' φ' w1 H1 locs1 g1 g2 e0 e1 hp'
        refine lv_iinc (v := nI (i + 6)) (lv' := [(3, .int (nI (i + 6))), (2, .ref (ρ 1)), (1, .ref (ρ 0)), (0, .ref b)]) hx hb dL_law_1190 hl (k := 0) rfl (nI_add i 6) (by decide) rfl (fun ls' hl' => ?_)
        refine lv_goto (tgt := 18) hx hb dL_law_1193 (by decide) ?_
        rw [← e0, ← e1] at hl'
        exact IH cells slots (i + 6) τ' σ' ρ' φ' w1 H1 locs1 ls' (by omega) (by omega) g1 g2 hp' hl'
      refine law_turn C0 hc hbA ⟨by omega, by omega⟩ hi hL hp hl (fun σ' ρ' φ' w1 H1 locs1 e0 e1 hp' => fin cells slots τ σ' ρ' φ' w1 H1 locs1 (by omega) (by omega) e0 e1 hp') ?_
      exact hrul cells slots i τ σ ρ φ ws H locs ls (by omega) (by omega) hp hl (fun τ' σ' ρ' φ' w1 H1 locs1 e0 e1 hp' => fin (cells + 3) (slots + 430) τ' σ' ρ' φ' w1 H1 locs1 (by omega) (by omega) e0 e1 hp')

