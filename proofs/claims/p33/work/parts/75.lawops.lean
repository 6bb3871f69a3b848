/-! the calls -/
theorem law_feed {p : Program} {l : Launch} {e : Env} {s : State} {m : MethodId} {below : List Frame} {meth : Method} {c : Code} {b L : Nat} {xs : Nat → Int32} {dC : Nat → ClassId} {dI : Nat → Nat → Nat} {kA : Nat → ClassId} {A : Nat → Prop} (C0 : lw_At p s m meth c b L xs) (hc : lc_cx l p s m #[Value.ref b] c dC dI kA A s.heap) (hbA : ¬ A b) {cells slots : Nat} (hcs : cells ≤ 600000 ∧ slots ≤ 7302249) {i : Nat} (hi : i + 6 ≤ L) (hL : L ≤ 3072) {τ : Nat → Option Nat} {σ : sxV} {ρ : sxR} {φ : sxF} {ws : va_W} {H : Heap} {locs : List Loc} {ls : Array Slot} (hp : lc_hp sxPF s dC dI kA A τ s.heap sxP0 σ ρ φ ws H locs) (hl : lv_has ls 4 [(3, .int (nI i)), (2, .ref (ρ 1)), (1, .ref (ρ 0)), (0, .ref b)]) (next : ∀ σ' ρ' φ' w1 H1 locs1, ρ' 0 = ρ 0 → ρ' 1 = ρ 1 → lc_hp sxPF s dC dI kA A τ s.heap sxP0 σ' ρ' φ' w1 H1 locs1 → W p l e room_1 s m #[Value.ref b] below meth c H1 locs1 cells slots (lw_Z below #[Value.ref b] s) (F0 m 1190 ls [])) : W p l e room_1 s m #[Value.ref b] below meth c H locs cells slots (lw_Z below #[Value.ref b] s) (F0 m 192 ls []) := by
  obtain ⟨hx, hb, hr, hml, hown, hts, hX, hbl, hlocks, hgv⟩ := id C0
  have hb : c.code = cL_law := hb

  obtain ⟨σ1, w1, hp1, z1, v1, v2, v3, v4, v5⟩ := law_args hp ((.negSucc 2147483647), (.ofNat 2147483647)) (xs (i + 1)) (xs (i + 2)) (xs (i + 3)) (xs (i + 4)) (xs (i + 5)) (law_full _).1 (law_full _).2
  refine lv_aload_n hx hb dL_law_192 rfl (lv_at hl 2 rfl) ?_
  refine law_ld (k := 1) hx hb hX hbl hbA hp.2.2.2.1 hl hL hi (by decide) (by decide) dL_law_193 dL_law_194 dL_law_195 dL_law_196 dL_law_197 ?_
  refine law_ld (k := 2) hx hb hX hbl hbA hp.2.2.2.1 hl hL hi (by decide) (by decide) dL_law_198 dL_law_199 dL_law_200 dL_law_201 dL_law_202 ?_
  refine law_ld (k := 3) hx hb hX hbl hbA hp.2.2.2.1 hl hL hi (by decide) (by decide) dL_law_203 dL_law_204 dL_law_205 dL_law_206 dL_law_207 ?_
  refine law_ld (k := 4) hx hb hX hbl hbA hp.2.2.2.1 hl hL hi (by decide) (by decide) dL_law_208 dL_law_209 dL_law_210 dL_law_211 dL_law_212 ?_
  refine law_ld (k := 5) hx hb hX hbl hbA hp.2.2.2.1 hl hL hi (by decide) (by decide) dL_law_213 dL_law_214 dL_law_215 dL_law_216 dL_law_217 ?_
  refine law_op (st2 := [.int (xs (i + 5)), .int (xs (i + 4)), .int (xs (i + 3)), .int (xs (i + 2)), .int (xs (i + 1)), .ref (ρ 1)]) hc hl.1 hp1 hcs sxmI49 sxmI298 (ix1 := 13) (ix2 := 17) rfl rfl w1 lawk_feed dL_law_218 dL_law_248 (by decide) (by show _ = ([sx_val σ1 ρ (2, 0, 0), sx_val σ1 ρ (0, 16, 0), sx_val σ1 ρ (0, 17, 0), sx_val σ1 ρ (0, 18, 0), sx_val σ1 ρ (0, 19, 0), sx_val σ1 ρ (0, 20, 0)] : List Value).reverse; rw [v1, v2, v3, v4, v5]; rfl) (by show _ = ([sx_val σ1 ρ (2, 1, 0), sx_val σ1 ρ (0, 16, 0), sx_val σ1 ρ (0, 17, 0), sx_val σ1 ρ (0, 18, 0), sx_val σ1 ρ (0, 19, 0), sx_val σ1 ρ (0, 20, 0)] : List Value).reverse; rw [v1, v2, v3, v4, v5]; rfl) (fun H1 locs1 hS1 v k => ?_) (fun σ2 ρ2 φ2 w2 H2 locs2 v e0 e1 hp2 => ?_)
  · refine lv_pop hx hb dL_law_221 rfl ?_
    refine lv_aload_n hx hb dL_law_222 rfl (lv_at hl 1 rfl) ?_
    refine law_ld (k := 1) hx hb hX hbl hbA hS1 hl hL hi (by decide) (by decide) dL_law_223 dL_law_224 dL_law_225 dL_law_226 dL_law_227 ?_
    refine law_ld (k := 2) hx hb hX hbl hbA hS1 hl hL hi (by decide) (by decide) dL_law_228 dL_law_229 dL_law_230 dL_law_231 dL_law_232 ?_
    refine law_ld (k := 3) hx hb hX hbl hbA hS1 hl hL hi (by decide) (by decide) dL_law_233 dL_law_234 dL_law_235 dL_law_236 dL_law_237 ?_
    refine law_ld (k := 4) hx hb hX hbl hbA hS1 hl hL hi (by decide) (by decide) dL_law_238 dL_law_239 dL_law_240 dL_law_241 dL_law_242 ?_
    refine law_ld (k := 5) hx hb hX hbl hbA hS1 hl hL hi (by decide) (by decide) dL_law_243 dL_law_244 dL_law_245 dL_law_246 dL_law_247 ?_
    exact k
  · refine lv_pop hx hb dL_law_251 rfl ?_
    refine lv_goto (tgt := 1190) hx hb dL_law_252 (by decide) ?_
    exact next σ2 ρ2 φ2 w2 H2 locs2 e0 e1 hp2
theorem law_end {p : Program} {l : Launch} {e : Env} {s : State} {m : MethodId} {below : List Frame} {meth : Method} {c : Code} {b L : Nat} {xs : Nat → Int32} {dC : Nat → ClassId} {dI : Nat → Nat → Nat} {kA : Nat → ClassId} {A : Nat → Prop} (C0 : lw_At p s m meth c b L xs) (hc : lc_cx l p s m #[Value.ref b] c dC dI kA A s.heap) (hbA : ¬ A b) {cells slots : Nat} (hcs : cells ≤ 600000 ∧ slots ≤ 7302249) {i : Nat} (hi : i + 6 ≤ L) (hL : L ≤ 3072) {τ : Nat → Option Nat} {σ : sxV} {ρ : sxR} {φ : sxF} {ws : va_W} {H : Heap} {locs : List Loc} {ls : Array Slot} (hp : lc_hp sxPF s dC dI kA A τ s.heap sxP0 σ ρ φ ws H locs) (hl : lv_has ls 4 [(3, .int (nI i)), (2, .ref (ρ 1)), (1, .ref (ρ 0)), (0, .ref b)]) (next : ∀ σ' ρ' φ' w1 H1 locs1, ρ' 0 = ρ 0 → ρ' 1 = ρ 1 → lc_hp sxPF s dC dI kA A τ s.heap sxP0 σ' ρ' φ' w1 H1 locs1 → W p l e room_1 s m #[Value.ref b] below meth c H1 locs1 cells slots (lw_Z below #[Value.ref b] s) (F0 m 1190 ls [])) : W p l e room_1 s m #[Value.ref b] below meth c H locs cells slots (lw_Z below #[Value.ref b] s) (F0 m 255 ls []) := by
  obtain ⟨hx, hb, hr, hml, hown, hts, hX, hbl, hlocks, hgv⟩ := id C0
  have hb : c.code = cL_law := hb

  obtain ⟨σ1, w1, hp1, z1, v1, v2, v3, v4, v5⟩ := law_args hp ((.negSucc 2147483647), (.ofNat 2147483647)) (xs (i + 1)) (xs (i + 2)) (xs (i + 3)) (xs (i + 4)) (xs (i + 5)) (law_full _).1 (law_full _).2
  refine lv_aload_n hx hb dL_law_255 rfl (lv_at hl 2 rfl) ?_
  refine law_ld (k := 1) hx hb hX hbl hbA hp.2.2.2.1 hl hL hi (by decide) (by decide) dL_law_256 dL_law_257 dL_law_258 dL_law_259 dL_law_260 ?_
  refine law_op (st2 := [.int (xs (i + 1)), .ref (ρ 1)]) hc hl.1 hp1 hcs sxmI41 sxmI299 (ix1 := 18) (ix2 := 22) rfl rfl w1 lawk_end dL_law_261 dL_law_271 (by decide) (by show _ = ([sx_val σ1 ρ (2, 0, 0), sx_val σ1 ρ (0, 16, 0)] : List Value).reverse; rw [v1]; rfl) (by show _ = ([sx_val σ1 ρ (2, 1, 0), sx_val σ1 ρ (0, 16, 0)] : List Value).reverse; rw [v1]; rfl) (fun H1 locs1 hS1 v k => ?_) (fun σ2 ρ2 φ2 w2 H2 locs2 v e0 e1 hp2 => ?_)
  · refine lv_pop hx hb dL_law_264 rfl ?_
    refine lv_aload_n hx hb dL_law_265 rfl (lv_at hl 1 rfl) ?_
    refine law_ld (k := 1) hx hb hX hbl hbA hS1 hl hL hi (by decide) (by decide) dL_law_266 dL_law_267 dL_law_268 dL_law_269 dL_law_270 ?_
    exact k
  · refine lv_pop hx hb dL_law_274 rfl ?_
    refine lv_goto (tgt := 1190) hx hb dL_law_275 (by decide) ?_
    exact next σ2 ρ2 φ2 w2 H2 locs2 e0 e1 hp2
theorem law_house {p : Program} {l : Launch} {e : Env} {s : State} {m : MethodId} {below : List Frame} {meth : Method} {c : Code} {b L : Nat} {xs : Nat → Int32} {dC : Nat → ClassId} {dI : Nat → Nat → Nat} {kA : Nat → ClassId} {A : Nat → Prop} (C0 : lw_At p s m meth c b L xs) (hc : lc_cx l p s m #[Value.ref b] c dC dI kA A s.heap) (hbA : ¬ A b) {cells slots : Nat} (hcs : cells ≤ 600000 ∧ slots ≤ 7302249) {i : Nat} (hi : i + 6 ≤ L) (hL : L ≤ 3072) {τ : Nat → Option Nat} {σ : sxV} {ρ : sxR} {φ : sxF} {ws : va_W} {H : Heap} {locs : List Loc} {ls : Array Slot} (hp : lc_hp sxPF s dC dI kA A τ s.heap sxP0 σ ρ φ ws H locs) (hl : lv_has ls 4 [(3, .int (nI i)), (2, .ref (ρ 1)), (1, .ref (ρ 0)), (0, .ref b)]) (next : ∀ σ' ρ' φ' w1 H1 locs1, ρ' 0 = ρ 0 → ρ' 1 = ρ 1 → lc_hp sxPF s dC dI kA A τ s.heap sxP0 σ' ρ' φ' w1 H1 locs1 → W p l e room_1 s m #[Value.ref b] below meth c H1 locs1 cells slots (lw_Z below #[Value.ref b] s) (F0 m 1190 ls [])) : W p l e room_1 s m #[Value.ref b] below meth c H locs cells slots (lw_Z below #[Value.ref b] s) (F0 m 278 ls []) := by
  obtain ⟨hx, hb, hr, hml, hown, hts, hX, hbl, hlocks, hgv⟩ := id C0
  have hb : c.code = cL_law := hb

  obtain ⟨σ1, w1, hp1, z1, v1, v2, v3, v4, v5⟩ := law_args hp ((.negSucc 2147483647), (.ofNat 2147483647)) (xs (i + 1)) (xs (i + 2)) (xs (i + 3)) (xs (i + 4)) (xs (i + 5)) (law_full _).1 (law_full _).2
  refine lv_aload_n hx hb dL_law_278 rfl (lv_at hl 2 rfl) ?_
  refine law_op (st2 := [.ref (ρ 1)]) hc hl.1 hp1 hcs sxmI101 sxmI326 (ix1 := 23) (ix2 := 27) rfl rfl w1 lawk_house dL_law_279 dL_law_284 (by decide) (by show _ = ([sx_val σ1 ρ (2, 0, 0)] : List Value).reverse; rfl) (by show _ = ([sx_val σ1 ρ (2, 1, 0)] : List Value).reverse; rfl) (fun H1 locs1 hS1 v k => ?_) (fun σ2 ρ2 φ2 w2 H2 locs2 v e0 e1 hp2 => ?_)
  · refine lv_pop hx hb dL_law_282 rfl ?_
    refine lv_aload_n hx hb dL_law_283 rfl (lv_at hl 1 rfl) ?_
    exact k
  · refine lv_pop hx hb dL_law_287 rfl ?_
    refine lv_goto (tgt := 1190) hx hb dL_law_288 (by decide) ?_
    exact next σ2 ρ2 φ2 w2 H2 locs2 e0 e1 hp2
theorem law_force {p : Program} {l : Launch} {e : Env} {s : State} {m : MethodId} {below : List Frame} {meth : Method} {c : Code} {b L : Nat} {xs : Nat → Int32} {dC : Nat → ClassId} {dI : Nat → Nat → Nat} {kA : Nat → ClassId} {A : Nat → Prop} (C0 : lw_At p s m meth c b L xs) (hc : lc_cx l p s m #[Value.ref b] c dC dI kA A s.heap) (hbA : ¬ A b) {cells slots : Nat} (hcs : cells ≤ 600000 ∧ slots ≤ 7302249) {i : Nat} (hi : i + 6 ≤ L) (hL : L ≤ 3072) {τ : Nat → Option Nat} {σ : sxV} {ρ : sxR} {φ : sxF} {ws : va_W} {H : Heap} {locs : List Loc} {ls : Array Slot} (hp : lc_hp sxPF s dC dI kA A τ s.heap sxP0 σ ρ φ ws H locs) (hl : lv_has ls 4 [(3, .int (nI i)), (2, .ref (ρ 1)), (1, .ref (ρ 0)), (0, .ref b)]) (next : ∀ σ' ρ' φ' w1 H1 locs1, ρ' 0 = ρ 0 → ρ' 1 = ρ 1 → lc_hp sxPF s dC dI kA A τ s.heap sxP0 σ' ρ' φ' w1 H1 locs1 → W p l e room_1 s m #[Value.ref b] below meth c H1 locs1 cells slots (lw_Z below #[Value.ref b] s) (F0 m 1190 ls [])) : W p l e room_1 s m #[Value.ref b] below meth c H locs cells slots (lw_Z below #[Value.ref b] s) (F0 m 304 ls []) := by
  obtain ⟨hx, hb, hr, hml, hown, hts, hX, hbl, hlocks, hgv⟩ := id C0
  have hb : c.code = cL_law := hb

  obtain ⟨σ1, w1, hp1, z1, v1, v2, v3, v4, v5⟩ := law_args hp ((.negSucc 2147483647), (.ofNat 2147483647)) (xs (i + 1)) (xs (i + 2)) (xs (i + 3)) (xs (i + 4)) (xs (i + 5)) (law_full _).1 (law_full _).2
  refine lv_aload_n hx hb dL_law_304 rfl (lv_at hl 2 rfl) ?_
  refine law_ld (k := 1) hx hb hX hbl hbA hp.2.2.2.1 hl hL hi (by decide) (by decide) dL_law_305 dL_law_306 dL_law_307 dL_law_308 dL_law_309 ?_
  refine law_op (st2 := [.int (xs (i + 1)), .ref (ρ 1)]) hc hl.1 hp1 hcs sxmI50 sxmI361 (ix1 := 32) (ix2 := 35) rfl rfl w1 lawk_force dL_law_310 dL_law_320 (by decide) (by show _ = ([sx_val σ1 ρ (2, 0, 0), sx_val σ1 ρ (0, 16, 0)] : List Value).reverse; rw [v1]; rfl) (by show _ = ([sx_val σ1 ρ (2, 1, 0), sx_val σ1 ρ (0, 16, 0)] : List Value).reverse; rw [v1]; rfl) (fun H1 locs1 hS1 v k => ?_) (fun σ2 ρ2 φ2 w2 H2 locs2 v e0 e1 hp2 => ?_)
  · refine lv_pop hx hb dL_law_313 rfl ?_
    refine lv_aload_n hx hb dL_law_314 rfl (lv_at hl 1 rfl) ?_
    refine law_ld (k := 1) hx hb hX hbl hbA hS1 hl hL hi (by decide) (by decide) dL_law_315 dL_law_316 dL_law_317 dL_law_318 dL_law_319 ?_
    exact k
  · refine lv_pop hx hb dL_law_323 rfl ?_
    refine lv_goto (tgt := 1190) hx hb dL_law_324 (by decide) ?_
    exact next σ2 ρ2 φ2 w2 H2 locs2 e0 e1 hp2
theorem law_lodger {p : Program} {l : Launch} {e : Env} {s : State} {m : MethodId} {below : List Frame} {meth : Method} {c : Code} {b L : Nat} {xs : Nat → Int32} {dC : Nat → ClassId} {dI : Nat → Nat → Nat} {kA : Nat → ClassId} {A : Nat → Prop} (C0 : lw_At p s m meth c b L xs) (hc : lc_cx l p s m #[Value.ref b] c dC dI kA A s.heap) (hbA : ¬ A b) {cells slots : Nat} (hcs : cells ≤ 600000 ∧ slots ≤ 7302249) {i : Nat} (hi : i + 6 ≤ L) (hL : L ≤ 3072) {τ : Nat → Option Nat} {σ : sxV} {ρ : sxR} {φ : sxF} {ws : va_W} {H : Heap} {locs : List Loc} {ls : Array Slot} (hp : lc_hp sxPF s dC dI kA A τ s.heap sxP0 σ ρ φ ws H locs) (hl : lv_has ls 4 [(3, .int (nI i)), (2, .ref (ρ 1)), (1, .ref (ρ 0)), (0, .ref b)]) (next : ∀ σ' ρ' φ' w1 H1 locs1, ρ' 0 = ρ 0 → ρ' 1 = ρ 1 → lc_hp sxPF s dC dI kA A τ s.heap sxP0 σ' ρ' φ' w1 H1 locs1 → W p l e room_1 s m #[Value.ref b] below meth c H1 locs1 cells slots (lw_Z below #[Value.ref b] s) (F0 m 1190 ls [])) : W p l e room_1 s m #[Value.ref b] below meth c H locs cells slots (lw_Z below #[Value.ref b] s) (F0 m 327 ls []) := by
  obtain ⟨hx, hb, hr, hml, hown, hts, hX, hbl, hlocks, hgv⟩ := id C0
  have hb : c.code = cL_law := hb

  obtain ⟨σ1, w1, hp1, z1, v1, v2, v3, v4, v5⟩ := law_args hp ((.negSucc 2147483647), (.ofNat 2147483647)) (xs (i + 1)) (xs (i + 2)) (xs (i + 3)) (xs (i + 4)) (xs (i + 5)) (law_full _).1 (law_full _).2
  refine lv_aload_n hx hb dL_law_327 rfl (lv_at hl 2 rfl) ?_
  refine law_ld (k := 1) hx hb hX hbl hbA hp.2.2.2.1 hl hL hi (by decide) (by decide) dL_law_328 dL_law_329 dL_law_330 dL_law_331 dL_law_332 ?_
  refine law_ld (k := 2) hx hb hX hbl hbA hp.2.2.2.1 hl hL hi (by decide) (by decide) dL_law_333 dL_law_334 dL_law_335 dL_law_336 dL_law_337 ?_
  refine law_op (st2 := [.int (xs (i + 2)), .int (xs (i + 1)), .ref (ρ 1)]) hc hl.1 hp1 hcs sxmI113 sxmI366 (ix1 := 36) (ix2 := 40) rfl rfl w1 lawk_lodger dL_law_338 dL_law_353 (by decide) (by show _ = ([sx_val σ1 ρ (2, 0, 0), sx_val σ1 ρ (0, 16, 0), sx_val σ1 ρ (0, 17, 0)] : List Value).reverse; rw [v1, v2]; rfl) (by show _ = ([sx_val σ1 ρ (2, 1, 0), sx_val σ1 ρ (0, 16, 0), sx_val σ1 ρ (0, 17, 0)] : List Value).reverse; rw [v1, v2]; rfl) (fun H1 locs1 hS1 v k => ?_) (fun σ2 ρ2 φ2 w2 H2 locs2 v e0 e1 hp2 => ?_)
  · refine lv_pop hx hb dL_law_341 rfl ?_
    refine lv_aload_n hx hb dL_law_342 rfl (lv_at hl 1 rfl) ?_
    refine law_ld (k := 1) hx hb hX hbl hbA hS1 hl hL hi (by decide) (by decide) dL_law_343 dL_law_344 dL_law_345 dL_law_346 dL_law_347 ?_
    refine law_ld (k := 2) hx hb hX hbl hbA hS1 hl hL hi (by decide) (by decide) dL_law_348 dL_law_349 dL_law_350 dL_law_351 dL_law_352 ?_
    exact k
  · refine lv_pop hx hb dL_law_356 rfl ?_
    refine lv_goto (tgt := 1190) hx hb dL_law_357 (by decide) ?_
    exact next σ2 ρ2 φ2 w2 H2 locs2 e0 e1 hp2
theorem law_sheet {p : Program} {l : Launch} {e : Env} {s : State} {m : MethodId} {below : List Frame} {meth : Method} {c : Code} {b L : Nat} {xs : Nat → Int32} {dC : Nat → ClassId} {dI : Nat → Nat → Nat} {kA : Nat → ClassId} {A : Nat → Prop} (C0 : lw_At p s m meth c b L xs) (hc : lc_cx l p s m #[Value.ref b] c dC dI kA A s.heap) (hbA : ¬ A b) {cells slots : Nat} (hcs : cells ≤ 600000 ∧ slots ≤ 7302249) {i : Nat} (hi : i + 6 ≤ L) (hL : L ≤ 3072) {τ : Nat → Option Nat} {σ : sxV} {ρ : sxR} {φ : sxF} {ws : va_W} {H : Heap} {locs : List Loc} {ls : Array Slot} (hp : lc_hp sxPF s dC dI kA A τ s.heap sxP0 σ ρ φ ws H locs) (hl : lv_has ls 4 [(3, .int (nI i)), (2, .ref (ρ 1)), (1, .ref (ρ 0)), (0, .ref b)]) (next : ∀ σ' ρ' φ' w1 H1 locs1, ρ' 0 = ρ 0 → ρ' 1 = ρ 1 → lc_hp sxPF s dC dI kA A τ s.heap sxP0 σ' ρ' φ' w1 H1 locs1 → W p l e room_1 s m #[Value.ref b] below meth c H1 locs1 cells slots (lw_Z below #[Value.ref b] s) (F0 m 1190 ls [])) : W p l e room_1 s m #[Value.ref b] below meth c H locs cells slots (lw_Z below #[Value.ref b] s) (F0 m 360 ls []) := by
  obtain ⟨hx, hb, hr, hml, hown, hts, hX, hbl, hlocks, hgv⟩ := id C0
  have hb : c.code = cL_law := hb

  obtain ⟨σ1, w1, hp1, z1, v1, v2, v3, v4, v5⟩ := law_args hp ((.negSucc 2147483647), (.ofNat 2147483647)) (xs (i + 1)) (xs (i + 2)) (xs (i + 3)) (xs (i + 4)) (xs (i + 5)) (law_full _).1 (law_full _).2
  refine lv_aload_n hx hb dL_law_360 rfl (lv_at hl 2 rfl) ?_
  refine law_ld (k := 1) hx hb hX hbl hbA hp.2.2.2.1 hl hL hi (by decide) (by decide) dL_law_361 dL_law_362 dL_law_363 dL_law_364 dL_law_365 ?_
  refine law_ld (k := 2) hx hb hX hbl hbA hp.2.2.2.1 hl hL hi (by decide) (by decide) dL_law_366 dL_law_367 dL_law_368 dL_law_369 dL_law_370 ?_
  refine law_op (st2 := [.int (xs (i + 2)), .int (xs (i + 1)), .ref (ρ 1)]) hc hl.1 hp1 hcs sxmI183 sxmI368 (ix1 := 41) (ix2 := 44) rfl rfl w1 lawk_sheet dL_law_371 dL_law_386 (by decide) (by show _ = ([sx_val σ1 ρ (2, 0, 0), sx_val σ1 ρ (0, 16, 0), sx_val σ1 ρ (0, 17, 0)] : List Value).reverse; rw [v1, v2]; rfl) (by show _ = ([sx_val σ1 ρ (2, 1, 0), sx_val σ1 ρ (0, 16, 0), sx_val σ1 ρ (0, 17, 0)] : List Value).reverse; rw [v1, v2]; rfl) (fun H1 locs1 hS1 v k => ?_) (fun σ2 ρ2 φ2 w2 H2 locs2 v e0 e1 hp2 => ?_)
  · refine lv_pop hx hb dL_law_374 rfl ?_
    refine lv_aload_n hx hb dL_law_375 rfl (lv_at hl 1 rfl) ?_
    refine law_ld (k := 1) hx hb hX hbl hbA hS1 hl hL hi (by decide) (by decide) dL_law_376 dL_law_377 dL_law_378 dL_law_379 dL_law_380 ?_
    refine law_ld (k := 2) hx hb hX hbl hbA hS1 hl hL hi (by decide) (by decide) dL_law_381 dL_law_382 dL_law_383 dL_law_384 dL_law_385 ?_
    exact k
  · refine lv_pop hx hb dL_law_389 rfl ?_
    refine lv_goto (tgt := 1190) hx hb dL_law_390 (by decide) ?_
    exact next σ2 ρ2 φ2 w2 H2 locs2 e0 e1 hp2
theorem law_week {p : Program} {l : Launch} {e : Env} {s : State} {m : MethodId} {below : List Frame} {meth : Method} {c : Code} {b L : Nat} {xs : Nat → Int32} {dC : Nat → ClassId} {dI : Nat → Nat → Nat} {kA : Nat → ClassId} {A : Nat → Prop} (C0 : lw_At p s m meth c b L xs) (hc : lc_cx l p s m #[Value.ref b] c dC dI kA A s.heap) (hbA : ¬ A b) {cells slots : Nat} (hcs : cells ≤ 600000 ∧ slots ≤ 7302249) {i : Nat} (hi : i + 6 ≤ L) (hL : L ≤ 3072) {τ : Nat → Option Nat} {σ : sxV} {ρ : sxR} {φ : sxF} {ws : va_W} {H : Heap} {locs : List Loc} {ls : Array Slot} (hp : lc_hp sxPF s dC dI kA A τ s.heap sxP0 σ ρ φ ws H locs) (hl : lv_has ls 4 [(3, .int (nI i)), (2, .ref (ρ 1)), (1, .ref (ρ 0)), (0, .ref b)]) (next : ∀ σ' ρ' φ' w1 H1 locs1, ρ' 0 = ρ 0 → ρ' 1 = ρ 1 → lc_hp sxPF s dC dI kA A τ s.heap sxP0 σ' ρ' φ' w1 H1 locs1 → W p l e room_1 s m #[Value.ref b] below meth c H1 locs1 cells slots (lw_Z below #[Value.ref b] s) (F0 m 1190 ls [])) : W p l e room_1 s m #[Value.ref b] below meth c H locs cells slots (lw_Z below #[Value.ref b] s) (F0 m 393 ls []) := by
  obtain ⟨hx, hb, hr, hml, hown, hts, hX, hbl, hlocks, hgv⟩ := id C0
  have hb : c.code = cL_law := hb

  obtain ⟨σ1, w1, hp1, z1, v1, v2, v3, v4, v5⟩ := law_args hp ((.negSucc 2147483647), (.ofNat 2147483647)) (xs (i + 1)) (xs (i + 2)) (xs (i + 3)) (xs (i + 4)) (xs (i + 5)) (law_full _).1 (law_full _).2
  refine lv_aload_n hx hb dL_law_393 rfl (lv_at hl 2 rfl) ?_
  refine law_op (st2 := [.ref (ρ 1)]) hc hl.1 hp1 hcs sxmI215 sxmI386 (ix1 := 45) (ix2 := 48) rfl rfl w1 lawk_week dL_law_394 dL_law_399 (by decide) (by show _ = ([sx_val σ1 ρ (2, 0, 0)] : List Value).reverse; rfl) (by show _ = ([sx_val σ1 ρ (2, 1, 0)] : List Value).reverse; rfl) (fun H1 locs1 hS1 v k => ?_) (fun σ2 ρ2 φ2 w2 H2 locs2 v e0 e1 hp2 => ?_)
  · refine lv_pop hx hb dL_law_397 rfl ?_
    refine lv_aload_n hx hb dL_law_398 rfl (lv_at hl 1 rfl) ?_
    exact k
  · refine lv_pop hx hb dL_law_402 rfl ?_
    refine lv_goto (tgt := 1190) hx hb dL_law_403 (by decide) ?_
    exact next σ2 ρ2 φ2 w2 H2 locs2 e0 e1 hp2
theorem law_swap {p : Program} {l : Launch} {e : Env} {s : State} {m : MethodId} {below : List Frame} {meth : Method} {c : Code} {b L : Nat} {xs : Nat → Int32} {dC : Nat → ClassId} {dI : Nat → Nat → Nat} {kA : Nat → ClassId} {A : Nat → Prop} (C0 : lw_At p s m meth c b L xs) (hc : lc_cx l p s m #[Value.ref b] c dC dI kA A s.heap) (hbA : ¬ A b) {cells slots : Nat} (hcs : cells ≤ 600000 ∧ slots ≤ 7302249) {i : Nat} (hi : i + 6 ≤ L) (hL : L ≤ 3072) {τ : Nat → Option Nat} {σ : sxV} {ρ : sxR} {φ : sxF} {ws : va_W} {H : Heap} {locs : List Loc} {ls : Array Slot} (hp : lc_hp sxPF s dC dI kA A τ s.heap sxP0 σ ρ φ ws H locs) (hl : lv_has ls 4 [(3, .int (nI i)), (2, .ref (ρ 1)), (1, .ref (ρ 0)), (0, .ref b)]) (next : ∀ σ' ρ' φ' w1 H1 locs1, ρ' 0 = ρ 0 → ρ' 1 = ρ 1 → lc_hp sxPF s dC dI kA A τ s.heap sxP0 σ' ρ' φ' w1 H1 locs1 → W p l e room_1 s m #[Value.ref b] below meth c H1 locs1 cells slots (lw_Z below #[Value.ref b] s) (F0 m 1190 ls [])) : W p l e room_1 s m #[Value.ref b] below meth c H locs cells slots (lw_Z below #[Value.ref b] s) (F0 m 406 ls []) := by
  obtain ⟨hx, hb, hr, hml, hown, hts, hX, hbl, hlocks, hgv⟩ := id C0
  have hb : c.code = cL_law := hb

  obtain ⟨σ1, w1, hp1, z1, v1, v2, v3, v4, v5⟩ := law_args hp ((.negSucc 2147483647), (.ofNat 2147483647)) (xs (i + 1)) (xs (i + 2)) (xs (i + 3)) (xs (i + 4)) (xs (i + 5)) (law_full _).1 (law_full _).2
  refine lv_aload_n hx hb dL_law_406 rfl (lv_at hl 2 rfl) ?_
  refine law_ld (k := 1) hx hb hX hbl hbA hp.2.2.2.1 hl hL hi (by decide) (by decide) dL_law_407 dL_law_408 dL_law_409 dL_law_410 dL_law_411 ?_
  refine law_ld (k := 2) hx hb hX hbl hbA hp.2.2.2.1 hl hL hi (by decide) (by decide) dL_law_412 dL_law_413 dL_law_414 dL_law_415 dL_law_416 ?_
  refine law_op (st2 := [.int (xs (i + 2)), .int (xs (i + 1)), .ref (ρ 1)]) hc hl.1 hp1 hcs sxmI185 sxmI387 (ix1 := 49) (ix2 := 52) rfl rfl w1 lawk_swap dL_law_417 dL_law_432 (by decide) (by show _ = ([sx_val σ1 ρ (2, 0, 0), sx_val σ1 ρ (0, 16, 0), sx_val σ1 ρ (0, 17, 0)] : List Value).reverse; rw [v1, v2]; rfl) (by show _ = ([sx_val σ1 ρ (2, 1, 0), sx_val σ1 ρ (0, 16, 0), sx_val σ1 ρ (0, 17, 0)] : List Value).reverse; rw [v1, v2]; rfl) (fun H1 locs1 hS1 v k => ?_) (fun σ2 ρ2 φ2 w2 H2 locs2 v e0 e1 hp2 => ?_)
  · refine lv_pop hx hb dL_law_420 rfl ?_
    refine lv_aload_n hx hb dL_law_421 rfl (lv_at hl 1 rfl) ?_
    refine law_ld (k := 1) hx hb hX hbl hbA hS1 hl hL hi (by decide) (by decide) dL_law_422 dL_law_423 dL_law_424 dL_law_425 dL_law_426 ?_
    refine law_ld (k := 2) hx hb hX hbl hbA hS1 hl hL hi (by decide) (by decide) dL_law_427 dL_law_428 dL_law_429 dL_law_430 dL_law_431 ?_
    exact k
  · refine lv_pop hx hb dL_law_435 rfl ?_
    refine lv_goto (tgt := 1190) hx hb dL_law_436 (by decide) ?_
    exact next σ2 ρ2 φ2 w2 H2 locs2 e0 e1 hp2
theorem law_starch {p : Program} {l : Launch} {e : Env} {s : State} {m : MethodId} {below : List Frame} {meth : Method} {c : Code} {b L : Nat} {xs : Nat → Int32} {dC : Nat → ClassId} {dI : Nat → Nat → Nat} {kA : Nat → ClassId} {A : Nat → Prop} (C0 : lw_At p s m meth c b L xs) (hc : lc_cx l p s m #[Value.ref b] c dC dI kA A s.heap) (hbA : ¬ A b) {cells slots : Nat} (hcs : cells ≤ 600000 ∧ slots ≤ 7302249) {i : Nat} (hi : i + 6 ≤ L) (hL : L ≤ 3072) {τ : Nat → Option Nat} {σ : sxV} {ρ : sxR} {φ : sxF} {ws : va_W} {H : Heap} {locs : List Loc} {ls : Array Slot} (hp : lc_hp sxPF s dC dI kA A τ s.heap sxP0 σ ρ φ ws H locs) (hl : lv_has ls 4 [(3, .int (nI i)), (2, .ref (ρ 1)), (1, .ref (ρ 0)), (0, .ref b)]) (next : ∀ σ' ρ' φ' w1 H1 locs1, ρ' 0 = ρ 0 → ρ' 1 = ρ 1 → lc_hp sxPF s dC dI kA A τ s.heap sxP0 σ' ρ' φ' w1 H1 locs1 → W p l e room_1 s m #[Value.ref b] below meth c H1 locs1 cells slots (lw_Z below #[Value.ref b] s) (F0 m 1190 ls [])) : W p l e room_1 s m #[Value.ref b] below meth c H locs cells slots (lw_Z below #[Value.ref b] s) (F0 m 439 ls []) := by
  obtain ⟨hx, hb, hr, hml, hown, hts, hX, hbl, hlocks, hgv⟩ := id C0
  have hb : c.code = cL_law := hb

  obtain ⟨σ1, w1, hp1, z1, v1, v2, v3, v4, v5⟩ := law_args hp ((.negSucc 2147483647), (.ofNat 2147483647)) (xs (i + 1)) (xs (i + 2)) (xs (i + 3)) (xs (i + 4)) (xs (i + 5)) (law_full _).1 (law_full _).2
  refine lv_aload_n hx hb dL_law_439 rfl (lv_at hl 2 rfl) ?_
  refine law_ld (k := 1) hx hb hX hbl hbA hp.2.2.2.1 hl hL hi (by decide) (by decide) dL_law_440 dL_law_441 dL_law_442 dL_law_443 dL_law_444 ?_
  refine law_op (st2 := [.int (xs (i + 1)), .ref (ρ 1)]) hc hl.1 hp1 hcs sxmI184 sxmI388 (ix1 := 53) (ix2 := 56) rfl rfl w1 lawk_starch dL_law_445 dL_law_455 (by decide) (by show _ = ([sx_val σ1 ρ (2, 0, 0), sx_val σ1 ρ (0, 16, 0)] : List Value).reverse; rw [v1]; rfl) (by show _ = ([sx_val σ1 ρ (2, 1, 0), sx_val σ1 ρ (0, 16, 0)] : List Value).reverse; rw [v1]; rfl) (fun H1 locs1 hS1 v k => ?_) (fun σ2 ρ2 φ2 w2 H2 locs2 v e0 e1 hp2 => ?_)
  · refine lv_pop hx hb dL_law_448 rfl ?_
    refine lv_aload_n hx hb dL_law_449 rfl (lv_at hl 1 rfl) ?_
    refine law_ld (k := 1) hx hb hX hbl hbA hS1 hl hL hi (by decide) (by decide) dL_law_450 dL_law_451 dL_law_452 dL_law_453 dL_law_454 ?_
    exact k
  · refine lv_pop hx hb dL_law_458 rfl ?_
    refine lv_goto (tgt := 1190) hx hb dL_law_459 (by decide) ?_
    exact next σ2 ρ2 φ2 w2 H2 locs2 e0 e1 hp2
theorem law_darn {p : Program} {l : Launch} {e : Env} {s : State} {m : MethodId} {below : List Frame} {meth : Method} {c : Code} {b L : Nat} {xs : Nat → Int32} {dC : Nat → ClassId} {dI : Nat → Nat → Nat} {kA : Nat → ClassId} {A : Nat → Prop} (C0 : lw_At p s m meth c b L xs) (hc : lc_cx l p s m #[Value.ref b] c dC dI kA A s.heap) (hbA : ¬ A b) {cells slots : Nat} (hcs : cells ≤ 600000 ∧ slots ≤ 7302249) {i : Nat} (hi : i + 6 ≤ L) (hL : L ≤ 3072) {τ : Nat → Option Nat} {σ : sxV} {ρ : sxR} {φ : sxF} {ws : va_W} {H : Heap} {locs : List Loc} {ls : Array Slot} (hp : lc_hp sxPF s dC dI kA A τ s.heap sxP0 σ ρ φ ws H locs) (hl : lv_has ls 4 [(3, .int (nI i)), (2, .ref (ρ 1)), (1, .ref (ρ 0)), (0, .ref b)]) (next : ∀ σ' ρ' φ' w1 H1 locs1, ρ' 0 = ρ 0 → ρ' 1 = ρ 1 → lc_hp sxPF s dC dI kA A τ s.heap sxP0 σ' ρ' φ' w1 H1 locs1 → W p l e room_1 s m #[Value.ref b] below meth c H1 locs1 cells slots (lw_Z below #[Value.ref b] s) (F0 m 1190 ls [])) : W p l e room_1 s m #[Value.ref b] below meth c H locs cells slots (lw_Z below #[Value.ref b] s) (F0 m 462 ls []) := by
  obtain ⟨hx, hb, hr, hml, hown, hts, hX, hbl, hlocks, hgv⟩ := id C0
  have hb : c.code = cL_law := hb

  obtain ⟨σ1, w1, hp1, z1, v1, v2, v3, v4, v5⟩ := law_args hp ((.negSucc 2147483647), (.ofNat 2147483647)) (xs (i + 1)) (xs (i + 2)) (xs (i + 3)) (xs (i + 4)) (xs (i + 5)) (law_full _).1 (law_full _).2
  refine lv_aload_n hx hb dL_law_462 rfl (lv_at hl 2 rfl) ?_
  refine law_ld (k := 1) hx hb hX hbl hbA hp.2.2.2.1 hl hL hi (by decide) (by decide) dL_law_463 dL_law_464 dL_law_465 dL_law_466 dL_law_467 ?_
  refine law_op (st2 := [.int (xs (i + 1)), .ref (ρ 1)]) hc hl.1 hp1 hcs sxmI40 sxmI389 (ix1 := 57) (ix2 := 60) rfl rfl w1 lawk_darn dL_law_468 dL_law_478 (by decide) (by show _ = ([sx_val σ1 ρ (2, 0, 0), sx_val σ1 ρ (0, 16, 0)] : List Value).reverse; rw [v1]; rfl) (by show _ = ([sx_val σ1 ρ (2, 1, 0), sx_val σ1 ρ (0, 16, 0)] : List Value).reverse; rw [v1]; rfl) (fun H1 locs1 hS1 v k => ?_) (fun σ2 ρ2 φ2 w2 H2 locs2 v e0 e1 hp2 => ?_)
  · refine lv_pop hx hb dL_law_471 rfl ?_
    refine lv_aload_n hx hb dL_law_472 rfl (lv_at hl 1 rfl) ?_
    refine law_ld (k := 1) hx hb hX hbl hbA hS1 hl hL hi (by decide) (by decide) dL_law_473 dL_law_474 dL_law_475 dL_law_476 dL_law_477 ?_
    exact k
  · refine lv_pop hx hb dL_law_481 rfl ?_
    refine lv_goto (tgt := 1190) hx hb dL_law_482 (by decide) ?_
    exact next σ2 ρ2 φ2 w2 H2 locs2 e0 e1 hp2
theorem law_undo {p : Program} {l : Launch} {e : Env} {s : State} {m : MethodId} {below : List Frame} {meth : Method} {c : Code} {b L : Nat} {xs : Nat → Int32} {dC : Nat → ClassId} {dI : Nat → Nat → Nat} {kA : Nat → ClassId} {A : Nat → Prop} (C0 : lw_At p s m meth c b L xs) (hc : lc_cx l p s m #[Value.ref b] c dC dI kA A s.heap) (hbA : ¬ A b) {cells slots : Nat} (hcs : cells ≤ 600000 ∧ slots ≤ 7302249) {i : Nat} (hi : i + 6 ≤ L) (hL : L ≤ 3072) {τ : Nat → Option Nat} {σ : sxV} {ρ : sxR} {φ : sxF} {ws : va_W} {H : Heap} {locs : List Loc} {ls : Array Slot} (hp : lc_hp sxPF s dC dI kA A τ s.heap sxP0 σ ρ φ ws H locs) (hl : lv_has ls 4 [(3, .int (nI i)), (2, .ref (ρ 1)), (1, .ref (ρ 0)), (0, .ref b)]) (next : ∀ σ' ρ' φ' w1 H1 locs1, ρ' 0 = ρ 0 → ρ' 1 = ρ 1 → lc_hp sxPF s dC dI kA A τ s.heap sxP0 σ' ρ' φ' w1 H1 locs1 → W p l e room_1 s m #[Value.ref b] below meth c H1 locs1 cells slots (lw_Z below #[Value.ref b] s) (F0 m 1190 ls [])) : W p l e room_1 s m #[Value.ref b] below meth c H locs cells slots (lw_Z below #[Value.ref b] s) (F0 m 485 ls []) := by
  obtain ⟨hx, hb, hr, hml, hown, hts, hX, hbl, hlocks, hgv⟩ := id C0
  have hb : c.code = cL_law := hb

  obtain ⟨σ1, w1, hp1, z1, v1, v2, v3, v4, v5⟩ := law_args hp ((.negSucc 2147483647), (.ofNat 2147483647)) (xs (i + 1)) (xs (i + 2)) (xs (i + 3)) (xs (i + 4)) (xs (i + 5)) (law_full _).1 (law_full _).2
  refine lv_aload_n hx hb dL_law_485 rfl (lv_at hl 2 rfl) ?_
  refine law_op (st2 := [.ref (ρ 1)]) hc hl.1 hp1 hcs sxmI214 sxmI390 (ix1 := 61) (ix2 := 64) rfl rfl w1 lawk_undo dL_law_486 dL_law_491 (by decide) (by show _ = ([sx_val σ1 ρ (2, 0, 0)] : List Value).reverse; rfl) (by show _ = ([sx_val σ1 ρ (2, 1, 0)] : List Value).reverse; rfl) (fun H1 locs1 hS1 v k => ?_) (fun σ2 ρ2 φ2 w2 H2 locs2 v e0 e1 hp2 => ?_)
  · refine lv_pop hx hb dL_law_489 rfl ?_
    refine lv_aload_n hx hb dL_law_490 rfl (lv_at hl 1 rfl) ?_
    exact k
  · refine lv_pop hx hb dL_law_494 rfl ?_
    refine lv_goto (tgt := 1190) hx hb dL_law_495 (by decide) ?_
    exact next σ2 ρ2 φ2 w2 H2 locs2 e0 e1 hp2
theorem law_ahead {p : Program} {l : Launch} {e : Env} {s : State} {m : MethodId} {below : List Frame} {meth : Method} {c : Code} {b L : Nat} {xs : Nat → Int32} {dC : Nat → ClassId} {dI : Nat → Nat → Nat} {kA : Nat → ClassId} {A : Nat → Prop} (C0 : lw_At p s m meth c b L xs) (hc : lc_cx l p s m #[Value.ref b] c dC dI kA A s.heap) (hbA : ¬ A b) {cells slots : Nat} (hcs : cells ≤ 600000 ∧ slots ≤ 7302249) {i : Nat} (hi : i + 6 ≤ L) (hL : L ≤ 3072) {τ : Nat → Option Nat} {σ : sxV} {ρ : sxR} {φ : sxF} {ws : va_W} {H : Heap} {locs : List Loc} {ls : Array Slot} (hp : lc_hp sxPF s dC dI kA A τ s.heap sxP0 σ ρ φ ws H locs) (hl : lv_has ls 4 [(3, .int (nI i)), (2, .ref (ρ 1)), (1, .ref (ρ 0)), (0, .ref b)]) (next : ∀ σ' ρ' φ' w1 H1 locs1, ρ' 0 = ρ 0 → ρ' 1 = ρ 1 → lc_hp sxPF s dC dI kA A τ s.heap sxP0 σ' ρ' φ' w1 H1 locs1 → W p l e room_1 s m #[Value.ref b] below meth c H1 locs1 cells slots (lw_Z below #[Value.ref b] s) (F0 m 1190 ls [])) : W p l e room_1 s m #[Value.ref b] below meth c H locs cells slots (lw_Z below #[Value.ref b] s) (F0 m 498 ls []) := by
  obtain ⟨hx, hb, hr, hml, hown, hts, hX, hbl, hlocks, hgv⟩ := id C0
  have hb : c.code = cL_law := hb

  obtain ⟨σ1, w1, hp1, z1, v1, v2, v3, v4, v5⟩ := law_args hp ((.negSucc 2147483647), (.ofNat 2147483647)) (xs (i + 1)) (xs (i + 2)) (xs (i + 3)) (xs (i + 4)) (xs (i + 5)) (law_full _).1 (law_full _).2
  refine lv_aload_n hx hb dL_law_498 rfl (lv_at hl 2 rfl) ?_
  refine law_ld (k := 1) hx hb hX hbl hbA hp.2.2.2.1 hl hL hi (by decide) (by decide) dL_law_499 dL_law_500 dL_law_501 dL_law_502 dL_law_503 ?_
  refine law_ld (k := 2) hx hb hX hbl hbA hp.2.2.2.1 hl hL hi (by decide) (by decide) dL_law_504 dL_law_505 dL_law_506 dL_law_507 dL_law_508 ?_
  refine law_ld (k := 3) hx hb hX hbl hbA hp.2.2.2.1 hl hL hi (by decide) (by decide) dL_law_509 dL_law_510 dL_law_511 dL_law_512 dL_law_513 ?_
  refine law_op (st2 := [.int (xs (i + 3)), .int (xs (i + 2)), .int (xs (i + 1)), .ref (ρ 1)]) hc hl.1 hp1 hcs sxmI28 sxmI394 (ix1 := 65) (ix2 := 69) rfl rfl w1 lawk_ahead dL_law_514 dL_law_534 (by decide) (by show _ = ([sx_val σ1 ρ (2, 0, 0), sx_val σ1 ρ (0, 16, 0), sx_val σ1 ρ (0, 17, 0), sx_val σ1 ρ (0, 18, 0)] : List Value).reverse; rw [v1, v2, v3]; rfl) (by show _ = ([sx_val σ1 ρ (2, 1, 0), sx_val σ1 ρ (0, 16, 0), sx_val σ1 ρ (0, 17, 0), sx_val σ1 ρ (0, 18, 0)] : List Value).reverse; rw [v1, v2, v3]; rfl) (fun H1 locs1 hS1 v k => ?_) (fun σ2 ρ2 φ2 w2 H2 locs2 v e0 e1 hp2 => ?_)
  · refine lv_pop hx hb dL_law_517 rfl ?_
    refine lv_aload_n hx hb dL_law_518 rfl (lv_at hl 1 rfl) ?_
    refine law_ld (k := 1) hx hb hX hbl hbA hS1 hl hL hi (by decide) (by decide) dL_law_519 dL_law_520 dL_law_521 dL_law_522 dL_law_523 ?_
    refine law_ld (k := 2) hx hb hX hbl hbA hS1 hl hL hi (by decide) (by decide) dL_law_524 dL_law_525 dL_law_526 dL_law_527 dL_law_528 ?_
    refine law_ld (k := 3) hx hb hX hbl hbA hS1 hl hL hi (by decide) (by decide) dL_law_529 dL_law_530 dL_law_531 dL_law_532 dL_law_533 ?_
    exact k
  · refine lv_pop hx hb dL_law_537 rfl ?_
    refine lv_goto (tgt := 1190) hx hb dL_law_538 (by decide) ?_
    exact next σ2 ρ2 φ2 w2 H2 locs2 e0 e1 hp2
theorem law_lets {p : Program} {l : Launch} {e : Env} {s : State} {m : MethodId} {below : List Frame} {meth : Method} {c : Code} {b L : Nat} {xs : Nat → Int32} {dC : Nat → ClassId} {dI : Nat → Nat → Nat} {kA : Nat → ClassId} {A : Nat → Prop} (C0 : lw_At p s m meth c b L xs) (hc : lc_cx l p s m #[Value.ref b] c dC dI kA A s.heap) (hbA : ¬ A b) {cells slots : Nat} (hcs : cells ≤ 600000 ∧ slots ≤ 7302249) {i : Nat} (hi : i + 6 ≤ L) (hL : L ≤ 3072) {τ : Nat → Option Nat} {σ : sxV} {ρ : sxR} {φ : sxF} {ws : va_W} {H : Heap} {locs : List Loc} {ls : Array Slot} (hp : lc_hp sxPF s dC dI kA A τ s.heap sxP0 σ ρ φ ws H locs) (hl : lv_has ls 4 [(3, .int (nI i)), (2, .ref (ρ 1)), (1, .ref (ρ 0)), (0, .ref b)]) (next : ∀ σ' ρ' φ' w1 H1 locs1, ρ' 0 = ρ 0 → ρ' 1 = ρ 1 → lc_hp sxPF s dC dI kA A τ s.heap sxP0 σ' ρ' φ' w1 H1 locs1 → W p l e room_1 s m #[Value.ref b] below meth c H1 locs1 cells slots (lw_Z below #[Value.ref b] s) (F0 m 1190 ls [])) : W p l e room_1 s m #[Value.ref b] below meth c H locs cells slots (lw_Z below #[Value.ref b] s) (F0 m 541 ls []) := by
  obtain ⟨hx, hb, hr, hml, hown, hts, hX, hbl, hlocks, hgv⟩ := id C0
  have hb : c.code = cL_law := hb

  obtain ⟨σ1, w1, hp1, z1, v1, v2, v3, v4, v5⟩ := law_args hp ((.negSucc 2147483647), (.ofNat 2147483647)) (xs (i + 1)) (xs (i + 2)) (xs (i + 3)) (xs (i + 4)) (xs (i + 5)) (law_full _).1 (law_full _).2
  refine lv_aload_n hx hb dL_law_541 rfl (lv_at hl 2 rfl) ?_
  refine law_ld (k := 1) hx hb hX hbl hbA hp.2.2.2.1 hl hL hi (by decide) (by decide) dL_law_542 dL_law_543 dL_law_544 dL_law_545 dL_law_546 ?_
  refine law_ld (k := 2) hx hb hX hbl hbA hp.2.2.2.1 hl hL hi (by decide) (by decide) dL_law_547 dL_law_548 dL_law_549 dL_law_550 dL_law_551 ?_
  refine law_op (st2 := [.int (xs (i + 2)), .int (xs (i + 1)), .ref (ρ 1)]) hc hl.1 hp1 hcs sxmI111 sxmI395 (ix1 := 70) (ix2 := 73) rfl rfl w1 lawk_lets dL_law_552 dL_law_567 (by decide) (by show _ = ([sx_val σ1 ρ (2, 0, 0), sx_val σ1 ρ (0, 16, 0), sx_val σ1 ρ (0, 17, 0)] : List Value).reverse; rw [v1, v2]; rfl) (by show _ = ([sx_val σ1 ρ (2, 1, 0), sx_val σ1 ρ (0, 16, 0), sx_val σ1 ρ (0, 17, 0)] : List Value).reverse; rw [v1, v2]; rfl) (fun H1 locs1 hS1 v k => ?_) (fun σ2 ρ2 φ2 w2 H2 locs2 v e0 e1 hp2 => ?_)
  · refine lv_pop hx hb dL_law_555 rfl ?_
    refine lv_aload_n hx hb dL_law_556 rfl (lv_at hl 1 rfl) ?_
    refine law_ld (k := 1) hx hb hX hbl hbA hS1 hl hL hi (by decide) (by decide) dL_law_557 dL_law_558 dL_law_559 dL_law_560 dL_law_561 ?_
    refine law_ld (k := 2) hx hb hX hbl hbA hS1 hl hL hi (by decide) (by decide) dL_law_562 dL_law_563 dL_law_564 dL_law_565 dL_law_566 ?_
    exact k
  · refine lv_pop hx hb dL_law_570 rfl ?_
    refine lv_goto (tgt := 1190) hx hb dL_law_571 (by decide) ?_
    exact next σ2 ρ2 φ2 w2 H2 locs2 e0 e1 hp2
theorem law_ring {p : Program} {l : Launch} {e : Env} {s : State} {m : MethodId} {below : List Frame} {meth : Method} {c : Code} {b L : Nat} {xs : Nat → Int32} {dC : Nat → ClassId} {dI : Nat → Nat → Nat} {kA : Nat → ClassId} {A : Nat → Prop} (C0 : lw_At p s m meth c b L xs) (hc : lc_cx l p s m #[Value.ref b] c dC dI kA A s.heap) (hbA : ¬ A b) {cells slots : Nat} (hcs : cells ≤ 600000 ∧ slots ≤ 7302249) {i : Nat} (hi : i + 6 ≤ L) (hL : L ≤ 3072) {τ : Nat → Option Nat} {σ : sxV} {ρ : sxR} {φ : sxF} {ws : va_W} {H : Heap} {locs : List Loc} {ls : Array Slot} (hp : lc_hp sxPF s dC dI kA A τ s.heap sxP0 σ ρ φ ws H locs) (hl : lv_has ls 4 [(3, .int (nI i)), (2, .ref (ρ 1)), (1, .ref (ρ 0)), (0, .ref b)]) (next : ∀ σ' ρ' φ' w1 H1 locs1, ρ' 0 = ρ 0 → ρ' 1 = ρ 1 → lc_hp sxPF s dC dI kA A τ s.heap sxP0 σ' ρ' φ' w1 H1 locs1 → W p l e room_1 s m #[Value.ref b] below meth c H1 locs1 cells slots (lw_Z below #[Value.ref b] s) (F0 m 1190 ls [])) : W p l e room_1 s m #[Value.ref b] below meth c H locs cells slots (lw_Z below #[Value.ref b] s) (F0 m 574 ls []) := by
  obtain ⟨hx, hb, hr, hml, hown, hts, hX, hbl, hlocks, hgv⟩ := id C0
  have hb : c.code = cL_law := hb

  obtain ⟨σ1, w1, hp1, z1, v1, v2, v3, v4, v5⟩ := law_args hp ((.negSucc 2147483647), (.ofNat 2147483647)) (xs (i + 1)) (xs (i + 2)) (xs (i + 3)) (xs (i + 4)) (xs (i + 5)) (law_full _).1 (law_full _).2
  refine lv_aload_n hx hb dL_law_574 rfl (lv_at hl 2 rfl) ?_
  refine law_ld (k := 1) hx hb hX hbl hbA hp.2.2.2.1 hl hL hi (by decide) (by decide) dL_law_575 dL_law_576 dL_law_577 dL_law_578 dL_law_579 ?_
  refine law_ld (k := 2) hx hb hX hbl hbA hp.2.2.2.1 hl hL hi (by decide) (by decide) dL_law_580 dL_law_581 dL_law_582 dL_law_583 dL_law_584 ?_
  refine law_op (st2 := [.int (xs (i + 2)), .int (xs (i + 1)), .ref (ρ 1)]) hc hl.1 hp1 hcs sxmI179 sxmI397 (ix1 := 74) (ix2 := 77) rfl rfl w1 lawk_ring dL_law_585 dL_law_600 (by decide) (by show _ = ([sx_val σ1 ρ (2, 0, 0), sx_val σ1 ρ (0, 16, 0), sx_val σ1 ρ (0, 17, 0)] : List Value).reverse; rw [v1, v2]; rfl) (by show _ = ([sx_val σ1 ρ (2, 1, 0), sx_val σ1 ρ (0, 16, 0), sx_val σ1 ρ (0, 17, 0)] : List Value).reverse; rw [v1, v2]; rfl) (fun H1 locs1 hS1 v k => ?_) (fun σ2 ρ2 φ2 w2 H2 locs2 v e0 e1 hp2 => ?_)
  · refine lv_pop hx hb dL_law_588 rfl ?_
    refine lv_aload_n hx hb dL_law_589 rfl (lv_at hl 1 rfl) ?_
    refine law_ld (k := 1) hx hb hX hbl hbA hS1 hl hL hi (by decide) (by decide) dL_law_590 dL_law_591 dL_law_592 dL_law_593 dL_law_594 ?_
    refine law_ld (k := 2) hx hb hX hbl hbA hS1 hl hL hi (by decide) (by decide) dL_law_595 dL_law_596 dL_law_597 dL_law_598 dL_law_599 ?_
    exact k
  · refine lv_pop hx hb dL_law_603 rfl ?_
    refine lv_goto (tgt := 1190) hx hb dL_law_604 (by decide) ?_
    exact next σ2 ρ2 φ2 w2 H2 locs2 e0 e1 hp2
theorem law_right {p : Program} {l : Launch} {e : Env} {s : State} {m : MethodId} {below : List Frame} {meth : Method} {c : Code} {b L : Nat} {xs : Nat → Int32} {dC : Nat → ClassId} {dI : Nat → Nat → Nat} {kA : Nat → ClassId} {A : Nat → Prop} (C0 : lw_At p s m meth c b L xs) (hc : lc_cx l p s m #[Value.ref b] c dC dI kA A s.heap) (hbA : ¬ A b) {cells slots : Nat} (hcs : cells ≤ 600000 ∧ slots ≤ 7302249) {i : Nat} (hi : i + 6 ≤ L) (hL : L ≤ 3072) {τ : Nat → Option Nat} {σ : sxV} {ρ : sxR} {φ : sxF} {ws : va_W} {H : Heap} {locs : List Loc} {ls : Array Slot} (hp : lc_hp sxPF s dC dI kA A τ s.heap sxP0 σ ρ φ ws H locs) (hl : lv_has ls 4 [(3, .int (nI i)), (2, .ref (ρ 1)), (1, .ref (ρ 0)), (0, .ref b)]) (next : ∀ σ' ρ' φ' w1 H1 locs1, ρ' 0 = ρ 0 → ρ' 1 = ρ 1 → lc_hp sxPF s dC dI kA A τ s.heap sxP0 σ' ρ' φ' w1 H1 locs1 → W p l e room_1 s m #[Value.ref b] below meth c H1 locs1 cells slots (lw_Z below #[Value.ref b] s) (F0 m 1190 ls [])) : W p l e room_1 s m #[Value.ref b] below meth c H locs cells slots (lw_Z below #[Value.ref b] s) (F0 m 607 ls []) := by
  obtain ⟨hx, hb, hr, hml, hown, hts, hX, hbl, hlocks, hgv⟩ := id C0
  have hb : c.code = cL_law := hb

  obtain ⟨σ1, w1, hp1, z1, v1, v2, v3, v4, v5⟩ := law_args hp ((.negSucc 2147483647), (.ofNat 2147483647)) (xs (i + 1)) (xs (i + 2)) (xs (i + 3)) (xs (i + 4)) (xs (i + 5)) (law_full _).1 (law_full _).2
  refine lv_aload_n hx hb dL_law_607 rfl (lv_at hl 2 rfl) ?_
  refine law_ld (k := 1) hx hb hX hbl hbA hp.2.2.2.1 hl hL hi (by decide) (by decide) dL_law_608 dL_law_609 dL_law_610 dL_law_611 dL_law_612 ?_
  refine law_op (st2 := [.int (xs (i + 1)), .ref (ρ 1)]) hc hl.1 hp1 hcs sxmI178 sxmI399 (ix1 := 78) (ix2 := 81) rfl rfl w1 lawk_right dL_law_613 dL_law_623 (by decide) (by show _ = ([sx_val σ1 ρ (2, 0, 0), sx_val σ1 ρ (0, 16, 0)] : List Value).reverse; rw [v1]; rfl) (by show _ = ([sx_val σ1 ρ (2, 1, 0), sx_val σ1 ρ (0, 16, 0)] : List Value).reverse; rw [v1]; rfl) (fun H1 locs1 hS1 v k => ?_) (fun σ2 ρ2 φ2 w2 H2 locs2 v e0 e1 hp2 => ?_)
  · refine lv_pop hx hb dL_law_616 rfl ?_
    refine lv_aload_n hx hb dL_law_617 rfl (lv_at hl 1 rfl) ?_
    refine law_ld (k := 1) hx hb hX hbl hbA hS1 hl hL hi (by decide) (by decide) dL_law_618 dL_law_619 dL_law_620 dL_law_621 dL_law_622 ?_
    exact k
  · refine lv_pop hx hb dL_law_626 rfl ?_
    refine lv_goto (tgt := 1190) hx hb dL_law_627 (by decide) ?_
    exact next σ2 ρ2 φ2 w2 H2 locs2 e0 e1 hp2
theorem law_even {p : Program} {l : Launch} {e : Env} {s : State} {m : MethodId} {below : List Frame} {meth : Method} {c : Code} {b L : Nat} {xs : Nat → Int32} {dC : Nat → ClassId} {dI : Nat → Nat → Nat} {kA : Nat → ClassId} {A : Nat → Prop} (C0 : lw_At p s m meth c b L xs) (hc : lc_cx l p s m #[Value.ref b] c dC dI kA A s.heap) (hbA : ¬ A b) {cells slots : Nat} (hcs : cells ≤ 600000 ∧ slots ≤ 7302249) {i : Nat} (hi : i + 6 ≤ L) (hL : L ≤ 3072) {τ : Nat → Option Nat} {σ : sxV} {ρ : sxR} {φ : sxF} {ws : va_W} {H : Heap} {locs : List Loc} {ls : Array Slot} (hp : lc_hp sxPF s dC dI kA A τ s.heap sxP0 σ ρ φ ws H locs) (hl : lv_has ls 4 [(3, .int (nI i)), (2, .ref (ρ 1)), (1, .ref (ρ 0)), (0, .ref b)]) (next : ∀ σ' ρ' φ' w1 H1 locs1, ρ' 0 = ρ 0 → ρ' 1 = ρ 1 → lc_hp sxPF s dC dI kA A τ s.heap sxP0 σ' ρ' φ' w1 H1 locs1 → W p l e room_1 s m #[Value.ref b] below meth c H1 locs1 cells slots (lw_Z below #[Value.ref b] s) (F0 m 1190 ls [])) : W p l e room_1 s m #[Value.ref b] below meth c H locs cells slots (lw_Z below #[Value.ref b] s) (F0 m 630 ls []) := by
  obtain ⟨hx, hb, hr, hml, hown, hts, hX, hbl, hlocks, hgv⟩ := id C0
  have hb : c.code = cL_law := hb

  obtain ⟨σ1, w1, hp1, z1, v1, v2, v3, v4, v5⟩ := law_args hp ((.negSucc 2147483647), (.ofNat 2147483647)) (xs (i + 1)) (xs (i + 2)) (xs (i + 3)) (xs (i + 4)) (xs (i + 5)) (law_full _).1 (law_full _).2
  refine lv_aload_n hx hb dL_law_630 rfl (lv_at hl 2 rfl) ?_
  refine law_op (st2 := [.ref (ρ 1)]) hc hl.1 hp1 hcs sxmI46 sxmI400 (ix1 := 82) (ix2 := 85) rfl rfl w1 lawk_even dL_law_631 dL_law_636 (by decide) (by show _ = ([sx_val σ1 ρ (2, 0, 0)] : List Value).reverse; rfl) (by show _ = ([sx_val σ1 ρ (2, 1, 0)] : List Value).reverse; rfl) (fun H1 locs1 hS1 v k => ?_) (fun σ2 ρ2 φ2 w2 H2 locs2 v e0 e1 hp2 => ?_)
  · refine lv_pop hx hb dL_law_634 rfl ?_
    refine lv_aload_n hx hb dL_law_635 rfl (lv_at hl 1 rfl) ?_
    exact k
  · refine lv_pop hx hb dL_law_639 rfl ?_
    refine lv_goto (tgt := 1190) hx hb dL_law_640 (by decide) ?_
    exact next σ2 ρ2 φ2 w2 H2 locs2 e0 e1 hp2
theorem law_most {p : Program} {l : Launch} {e : Env} {s : State} {m : MethodId} {below : List Frame} {meth : Method} {c : Code} {b L : Nat} {xs : Nat → Int32} {dC : Nat → ClassId} {dI : Nat → Nat → Nat} {kA : Nat → ClassId} {A : Nat → Prop} (C0 : lw_At p s m meth c b L xs) (hc : lc_cx l p s m #[Value.ref b] c dC dI kA A s.heap) (hbA : ¬ A b) {cells slots : Nat} (hcs : cells ≤ 600000 ∧ slots ≤ 7302249) {i : Nat} (hi : i + 6 ≤ L) (hL : L ≤ 3072) {τ : Nat → Option Nat} {σ : sxV} {ρ : sxR} {φ : sxF} {ws : va_W} {H : Heap} {locs : List Loc} {ls : Array Slot} (hp : lc_hp sxPF s dC dI kA A τ s.heap sxP0 σ ρ φ ws H locs) (hl : lv_has ls 4 [(3, .int (nI i)), (2, .ref (ρ 1)), (1, .ref (ρ 0)), (0, .ref b)]) (next : ∀ σ' ρ' φ' w1 H1 locs1, ρ' 0 = ρ 0 → ρ' 1 = ρ 1 → lc_hp sxPF s dC dI kA A τ s.heap sxP0 σ' ρ' φ' w1 H1 locs1 → W p l e room_1 s m #[Value.ref b] below meth c H1 locs1 cells slots (lw_Z below #[Value.ref b] s) (F0 m 1190 ls [])) : W p l e room_1 s m #[Value.ref b] below meth c H locs cells slots (lw_Z below #[Value.ref b] s) (F0 m 643 ls []) := by
  obtain ⟨hx, hb, hr, hml, hown, hts, hX, hbl, hlocks, hgv⟩ := id C0
  have hb : c.code = cL_law := hb

  obtain ⟨σ1, w1, hp1, z1, v1, v2, v3, v4, v5⟩ := law_args hp ((.negSucc 2147483647), (.ofNat 2147483647)) (xs (i + 1)) (xs (i + 2)) (xs (i + 3)) (xs (i + 4)) (xs (i + 5)) (law_full _).1 (law_full _).2
  refine lv_aload_n hx hb dL_law_643 rfl (lv_at hl 2 rfl) ?_
  refine law_ld (k := 1) hx hb hX hbl hbA hp.2.2.2.1 hl hL hi (by decide) (by decide) dL_law_644 dL_law_645 dL_law_646 dL_law_647 dL_law_648 ?_
  refine law_op (st2 := [.int (xs (i + 1)), .ref (ρ 1)]) hc hl.1 hp1 hcs sxmI150 sxmI407 (ix1 := 86) (ix2 := 89) rfl rfl w1 lawk_most dL_law_649 dL_law_659 (by decide) (by show _ = ([sx_val σ1 ρ (2, 0, 0), sx_val σ1 ρ (0, 16, 0)] : List Value).reverse; rw [v1]; rfl) (by show _ = ([sx_val σ1 ρ (2, 1, 0), sx_val σ1 ρ (0, 16, 0)] : List Value).reverse; rw [v1]; rfl) (fun H1 locs1 hS1 v k => ?_) (fun σ2 ρ2 φ2 w2 H2 locs2 v e0 e1 hp2 => ?_)
  · refine lv_pop hx hb dL_law_652 rfl ?_
    refine lv_aload_n hx hb dL_law_653 rfl (lv_at hl 1 rfl) ?_
    refine law_ld (k := 1) hx hb hX hbl hbA hS1 hl hL hi (by decide) (by decide) dL_law_654 dL_law_655 dL_law_656 dL_law_657 dL_law_658 ?_
    exact k
  · refine lv_pop hx hb dL_law_662 rfl ?_
    refine lv_goto (tgt := 1190) hx hb dL_law_663 (by decide) ?_
    exact next σ2 ρ2 φ2 w2 H2 locs2 e0 e1 hp2
theorem law_told {p : Program} {l : Launch} {e : Env} {s : State} {m : MethodId} {below : List Frame} {meth : Method} {c : Code} {b L : Nat} {xs : Nat → Int32} {dC : Nat → ClassId} {dI : Nat → Nat → Nat} {kA : Nat → ClassId} {A : Nat → Prop} (C0 : lw_At p s m meth c b L xs) (hc : lc_cx l p s m #[Value.ref b] c dC dI kA A s.heap) (hbA : ¬ A b) {cells slots : Nat} (hcs : cells ≤ 600000 ∧ slots ≤ 7302249) {i : Nat} (hi : i + 6 ≤ L) (hL : L ≤ 3072) {τ : Nat → Option Nat} {σ : sxV} {ρ : sxR} {φ : sxF} {ws : va_W} {H : Heap} {locs : List Loc} {ls : Array Slot} (hp : lc_hp sxPF s dC dI kA A τ s.heap sxP0 σ ρ φ ws H locs) (hl : lv_has ls 4 [(3, .int (nI i)), (2, .ref (ρ 1)), (1, .ref (ρ 0)), (0, .ref b)]) (next : ∀ σ' ρ' φ' w1 H1 locs1, ρ' 0 = ρ 0 → ρ' 1 = ρ 1 → lc_hp sxPF s dC dI kA A τ s.heap sxP0 σ' ρ' φ' w1 H1 locs1 → W p l e room_1 s m #[Value.ref b] below meth c H1 locs1 cells slots (lw_Z below #[Value.ref b] s) (F0 m 1190 ls [])) : W p l e room_1 s m #[Value.ref b] below meth c H locs cells slots (lw_Z below #[Value.ref b] s) (F0 m 666 ls []) := by
  obtain ⟨hx, hb, hr, hml, hown, hts, hX, hbl, hlocks, hgv⟩ := id C0
  have hb : c.code = cL_law := hb

  obtain ⟨σ1, w1, hp1, z1, v1, v2, v3, v4, v5⟩ := law_args hp ((.negSucc 2147483647), (.ofNat 2147483647)) (xs (i + 1)) (xs (i + 2)) (xs (i + 3)) (xs (i + 4)) (xs (i + 5)) (law_full _).1 (law_full _).2
  refine lv_aload_n hx hb dL_law_666 rfl (lv_at hl 2 rfl) ?_
  refine law_ld (k := 1) hx hb hX hbl hbA hp.2.2.2.1 hl hL hi (by decide) (by decide) dL_law_667 dL_law_668 dL_law_669 dL_law_670 dL_law_671 ?_
  refine law_ld (k := 2) hx hb hX hbl hbA hp.2.2.2.1 hl hL hi (by decide) (by decide) dL_law_672 dL_law_673 dL_law_674 dL_law_675 dL_law_676 ?_
  refine law_op (st2 := [.int (xs (i + 2)), .int (xs (i + 1)), .ref (ρ 1)]) hc hl.1 hp1 hcs sxmI210 sxmI408 (ix1 := 90) (ix2 := 93) rfl rfl w1 lawk_told dL_law_677 dL_law_692 (by decide) (by show _ = ([sx_val σ1 ρ (2, 0, 0), sx_val σ1 ρ (0, 16, 0), sx_val σ1 ρ (0, 17, 0)] : List Value).reverse; rw [v1, v2]; rfl) (by show _ = ([sx_val σ1 ρ (2, 1, 0), sx_val σ1 ρ (0, 16, 0), sx_val σ1 ρ (0, 17, 0)] : List Value).reverse; rw [v1, v2]; rfl) (fun H1 locs1 hS1 v k => ?_) (fun σ2 ρ2 φ2 w2 H2 locs2 v e0 e1 hp2 => ?_)
  · refine lv_pop hx hb dL_law_680 rfl ?_
    refine lv_aload_n hx hb dL_law_681 rfl (lv_at hl 1 rfl) ?_
    refine law_ld (k := 1) hx hb hX hbl hbA hS1 hl hL hi (by decide) (by decide) dL_law_682 dL_law_683 dL_law_684 dL_law_685 dL_law_686 ?_
    refine law_ld (k := 2) hx hb hX hbl hbA hS1 hl hL hi (by decide) (by decide) dL_law_687 dL_law_688 dL_law_689 dL_law_690 dL_law_691 ?_
    exact k
  · refine lv_pop hx hb dL_law_695 rfl ?_
    refine lv_goto (tgt := 1190) hx hb dL_law_696 (by decide) ?_
    exact next σ2 ρ2 φ2 w2 H2 locs2 e0 e1 hp2
theorem law_twos {p : Program} {l : Launch} {e : Env} {s : State} {m : MethodId} {below : List Frame} {meth : Method} {c : Code} {b L : Nat} {xs : Nat → Int32} {dC : Nat → ClassId} {dI : Nat → Nat → Nat} {kA : Nat → ClassId} {A : Nat → Prop} (C0 : lw_At p s m meth c b L xs) (hc : lc_cx l p s m #[Value.ref b] c dC dI kA A s.heap) (hbA : ¬ A b) {cells slots : Nat} (hcs : cells ≤ 600000 ∧ slots ≤ 7302249) {i : Nat} (hi : i + 6 ≤ L) (hL : L ≤ 3072) {τ : Nat → Option Nat} {σ : sxV} {ρ : sxR} {φ : sxF} {ws : va_W} {H : Heap} {locs : List Loc} {ls : Array Slot} (hp : lc_hp sxPF s dC dI kA A τ s.heap sxP0 σ ρ φ ws H locs) (hl : lv_has ls 4 [(3, .int (nI i)), (2, .ref (ρ 1)), (1, .ref (ρ 0)), (0, .ref b)]) (next : ∀ σ' ρ' φ' w1 H1 locs1, ρ' 0 = ρ 0 → ρ' 1 = ρ 1 → lc_hp sxPF s dC dI kA A τ s.heap sxP0 σ' ρ' φ' w1 H1 locs1 → W p l e room_1 s m #[Value.ref b] below meth c H1 locs1 cells slots (lw_Z below #[Value.ref b] s) (F0 m 1190 ls [])) : W p l e room_1 s m #[Value.ref b] below meth c H locs cells slots (lw_Z below #[Value.ref b] s) (F0 m 699 ls []) := by
  obtain ⟨hx, hb, hr, hml, hown, hts, hX, hbl, hlocks, hgv⟩ := id C0
  have hb : c.code = cL_law := hb

  obtain ⟨σ1, w1, hp1, z1, v1, v2, v3, v4, v5⟩ := law_args hp ((.negSucc 2147483647), (.ofNat 2147483647)) (xs (i + 1)) (xs (i + 2)) (xs (i + 3)) (xs (i + 4)) (xs (i + 5)) (law_full _).1 (law_full _).2
  refine lv_aload_n hx hb dL_law_699 rfl (lv_at hl 2 rfl) ?_
  refine law_ld (k := 1) hx hb hX hbl hbA hp.2.2.2.1 hl hL hi (by decide) (by decide) dL_law_700 dL_law_701 dL_law_702 dL_law_703 dL_law_704 ?_
  refine law_op (st2 := [.int (xs (i + 1)), .ref (ρ 1)]) hc hl.1 hp1 hcs sxmI212 sxmI412 (ix1 := 94) (ix2 := 97) rfl rfl w1 lawk_twos dL_law_705 dL_law_715 (by decide) (by show _ = ([sx_val σ1 ρ (2, 0, 0), sx_val σ1 ρ (0, 16, 0)] : List Value).reverse; rw [v1]; rfl) (by show _ = ([sx_val σ1 ρ (2, 1, 0), sx_val σ1 ρ (0, 16, 0)] : List Value).reverse; rw [v1]; rfl) (fun H1 locs1 hS1 v k => ?_) (fun σ2 ρ2 φ2 w2 H2 locs2 v e0 e1 hp2 => ?_)
  · refine lv_pop hx hb dL_law_708 rfl ?_
    refine lv_aload_n hx hb dL_law_709 rfl (lv_at hl 1 rfl) ?_
    refine law_ld (k := 1) hx hb hX hbl hbA hS1 hl hL hi (by decide) (by decide) dL_law_710 dL_law_711 dL_law_712 dL_law_713 dL_law_714 ?_
    exact k
  · refine lv_pop hx hb dL_law_718 rfl ?_
    refine lv_goto (tgt := 1190) hx hb dL_law_719 (by decide) ?_
    exact next σ2 ρ2 φ2 w2 H2 locs2 e0 e1 hp2
theorem law_turned {p : Program} {l : Launch} {e : Env} {s : State} {m : MethodId} {below : List Frame} {meth : Method} {c : Code} {b L : Nat} {xs : Nat → Int32} {dC : Nat → ClassId} {dI : Nat → Nat → Nat} {kA : Nat → ClassId} {A : Nat → Prop} (C0 : lw_At p s m meth c b L xs) (hc : lc_cx l p s m #[Value.ref b] c dC dI kA A s.heap) (hbA : ¬ A b) {cells slots : Nat} (hcs : cells ≤ 600000 ∧ slots ≤ 7302249) {i : Nat} (hi : i + 6 ≤ L) (hL : L ≤ 3072) {τ : Nat → Option Nat} {σ : sxV} {ρ : sxR} {φ : sxF} {ws : va_W} {H : Heap} {locs : List Loc} {ls : Array Slot} (hp : lc_hp sxPF s dC dI kA A τ s.heap sxP0 σ ρ φ ws H locs) (hl : lv_has ls 4 [(3, .int (nI i)), (2, .ref (ρ 1)), (1, .ref (ρ 0)), (0, .ref b)]) (next : ∀ σ' ρ' φ' w1 H1 locs1, ρ' 0 = ρ 0 → ρ' 1 = ρ 1 → lc_hp sxPF s dC dI kA A τ s.heap sxP0 σ' ρ' φ' w1 H1 locs1 → W p l e room_1 s m #[Value.ref b] below meth c H1 locs1 cells slots (lw_Z below #[Value.ref b] s) (F0 m 1190 ls [])) : W p l e room_1 s m #[Value.ref b] below meth c H locs cells slots (lw_Z below #[Value.ref b] s) (F0 m 722 ls []) := by
  obtain ⟨hx, hb, hr, hml, hown, hts, hX, hbl, hlocks, hgv⟩ := id C0
  have hb : c.code = cL_law := hb

  obtain ⟨σ1, w1, hp1, z1, v1, v2, v3, v4, v5⟩ := law_args hp ((.negSucc 2147483647), (.ofNat 2147483647)) (xs (i + 1)) (xs (i + 2)) (xs (i + 3)) (xs (i + 4)) (xs (i + 5)) (law_full _).1 (law_full _).2
  refine lv_aload_n hx hb dL_law_722 rfl (lv_at hl 2 rfl) ?_
  refine law_ld (k := 1) hx hb hX hbl hbA hp.2.2.2.1 hl hL hi (by decide) (by decide) dL_law_723 dL_law_724 dL_law_725 dL_law_726 dL_law_727 ?_
  refine law_op (st2 := [.int (xs (i + 1)), .ref (ρ 1)]) hc hl.1 hp1 hcs sxmI211 sxmI413 (ix1 := 98) (ix2 := 101) rfl rfl w1 lawk_turned dL_law_728 dL_law_738 (by decide) (by show _ = ([sx_val σ1 ρ (2, 0, 0), sx_val σ1 ρ (0, 16, 0)] : List Value).reverse; rw [v1]; rfl) (by show _ = ([sx_val σ1 ρ (2, 1, 0), sx_val σ1 ρ (0, 16, 0)] : List Value).reverse; rw [v1]; rfl) (fun H1 locs1 hS1 v k => ?_) (fun σ2 ρ2 φ2 w2 H2 locs2 v e0 e1 hp2 => ?_)
  · refine lv_pop hx hb dL_law_731 rfl ?_
    refine lv_aload_n hx hb dL_law_732 rfl (lv_at hl 1 rfl) ?_
    refine law_ld (k := 1) hx hb hX hbl hbA hS1 hl hL hi (by decide) (by decide) dL_law_733 dL_law_734 dL_law_735 dL_law_736 dL_law_737 ?_
    exact k
  · refine lv_pop hx hb dL_law_741 rfl ?_
    refine lv_goto (tgt := 1190) hx hb dL_law_742 (by decide) ?_
    exact next σ2 ρ2 φ2 w2 H2 locs2 e0 e1 hp2
theorem law_thin {p : Program} {l : Launch} {e : Env} {s : State} {m : MethodId} {below : List Frame} {meth : Method} {c : Code} {b L : Nat} {xs : Nat → Int32} {dC : Nat → ClassId} {dI : Nat → Nat → Nat} {kA : Nat → ClassId} {A : Nat → Prop} (C0 : lw_At p s m meth c b L xs) (hc : lc_cx l p s m #[Value.ref b] c dC dI kA A s.heap) (hbA : ¬ A b) {cells slots : Nat} (hcs : cells ≤ 600000 ∧ slots ≤ 7302249) {i : Nat} (hi : i + 6 ≤ L) (hL : L ≤ 3072) {τ : Nat → Option Nat} {σ : sxV} {ρ : sxR} {φ : sxF} {ws : va_W} {H : Heap} {locs : List Loc} {ls : Array Slot} (hp : lc_hp sxPF s dC dI kA A τ s.heap sxP0 σ ρ φ ws H locs) (hl : lv_has ls 4 [(3, .int (nI i)), (2, .ref (ρ 1)), (1, .ref (ρ 0)), (0, .ref b)]) (next : ∀ σ' ρ' φ' w1 H1 locs1, ρ' 0 = ρ 0 → ρ' 1 = ρ 1 → lc_hp sxPF s dC dI kA A τ s.heap sxP0 σ' ρ' φ' w1 H1 locs1 → W p l e room_1 s m #[Value.ref b] below meth c H1 locs1 cells slots (lw_Z below #[Value.ref b] s) (F0 m 1190 ls [])) : W p l e room_1 s m #[Value.ref b] below meth c H locs cells slots (lw_Z below #[Value.ref b] s) (F0 m 745 ls []) := by
  obtain ⟨hx, hb, hr, hml, hown, hts, hX, hbl, hlocks, hgv⟩ := id C0
  have hb : c.code = cL_law := hb

  obtain ⟨σ1, w1, hp1, z1, v1, v2, v3, v4, v5⟩ := law_args hp ((.negSucc 2147483647), (.ofNat 2147483647)) (xs (i + 1)) (xs (i + 2)) (xs (i + 3)) (xs (i + 4)) (xs (i + 5)) (law_full _).1 (law_full _).2
  refine lv_aload_n hx hb dL_law_745 rfl (lv_at hl 2 rfl) ?_
  refine law_op (st2 := [.ref (ρ 1)]) hc hl.1 hp1 hcs sxmI186 sxmI414 (ix1 := 102) (ix2 := 105) rfl rfl w1 lawk_thin dL_law_746 dL_law_751 (by decide) (by show _ = ([sx_val σ1 ρ (2, 0, 0)] : List Value).reverse; rfl) (by show _ = ([sx_val σ1 ρ (2, 1, 0)] : List Value).reverse; rfl) (fun H1 locs1 hS1 v k => ?_) (fun σ2 ρ2 φ2 w2 H2 locs2 v e0 e1 hp2 => ?_)
  · refine lv_pop hx hb dL_law_749 rfl ?_
    refine lv_aload_n hx hb dL_law_750 rfl (lv_at hl 1 rfl) ?_
    exact k
  · refine lv_pop hx hb dL_law_754 rfl ?_
    refine lv_goto (tgt := 1190) hx hb dL_law_755 (by decide) ?_
    exact next σ2 ρ2 φ2 w2 H2 locs2 e0 e1 hp2
theorem law_home {p : Program} {l : Launch} {e : Env} {s : State} {m : MethodId} {below : List Frame} {meth : Method} {c : Code} {b L : Nat} {xs : Nat → Int32} {dC : Nat → ClassId} {dI : Nat → Nat → Nat} {kA : Nat → ClassId} {A : Nat → Prop} (C0 : lw_At p s m meth c b L xs) (hc : lc_cx l p s m #[Value.ref b] c dC dI kA A s.heap) (hbA : ¬ A b) {cells slots : Nat} (hcs : cells ≤ 600000 ∧ slots ≤ 7302249) {i : Nat} (hi : i + 6 ≤ L) (hL : L ≤ 3072) {τ : Nat → Option Nat} {σ : sxV} {ρ : sxR} {φ : sxF} {ws : va_W} {H : Heap} {locs : List Loc} {ls : Array Slot} (hp : lc_hp sxPF s dC dI kA A τ s.heap sxP0 σ ρ φ ws H locs) (hl : lv_has ls 4 [(3, .int (nI i)), (2, .ref (ρ 1)), (1, .ref (ρ 0)), (0, .ref b)]) (next : ∀ σ' ρ' φ' w1 H1 locs1, ρ' 0 = ρ 0 → ρ' 1 = ρ 1 → lc_hp sxPF s dC dI kA A τ s.heap sxP0 σ' ρ' φ' w1 H1 locs1 → W p l e room_1 s m #[Value.ref b] below meth c H1 locs1 cells slots (lw_Z below #[Value.ref b] s) (F0 m 1190 ls [])) : W p l e room_1 s m #[Value.ref b] below meth c H locs cells slots (lw_Z below #[Value.ref b] s) (F0 m 758 ls []) := by
  obtain ⟨hx, hb, hr, hml, hown, hts, hX, hbl, hlocks, hgv⟩ := id C0
  have hb : c.code = cL_law := hb

  obtain ⟨σ1, w1, hp1, z1, v1, v2, v3, v4, v5⟩ := law_args hp ((.negSucc 2147483647), (.ofNat 2147483647)) (xs (i + 1)) (xs (i + 2)) (xs (i + 3)) (xs (i + 4)) (xs (i + 5)) (law_full _).1 (law_full _).2
  refine lv_aload_n hx hb dL_law_758 rfl (lv_at hl 2 rfl) ?_
  refine law_op (st2 := [.ref (ρ 1)]) hc hl.1 hp1 hcs sxmI60 sxmI415 (ix1 := 106) (ix2 := 109) rfl rfl w1 lawk_home dL_law_759 dL_law_764 (by decide) (by show _ = ([sx_val σ1 ρ (2, 0, 0)] : List Value).reverse; rfl) (by show _ = ([sx_val σ1 ρ (2, 1, 0)] : List Value).reverse; rfl) (fun H1 locs1 hS1 v k => ?_) (fun σ2 ρ2 φ2 w2 H2 locs2 v e0 e1 hp2 => ?_)
  · refine lv_pop hx hb dL_law_762 rfl ?_
    refine lv_aload_n hx hb dL_law_763 rfl (lv_at hl 1 rfl) ?_
    exact k
  · refine lv_pop hx hb dL_law_767 rfl ?_
    refine lv_goto (tgt := 1190) hx hb dL_law_768 (by decide) ?_
    exact next σ2 ρ2 φ2 w2 H2 locs2 e0 e1 hp2
theorem law_carves {p : Program} {l : Launch} {e : Env} {s : State} {m : MethodId} {below : List Frame} {meth : Method} {c : Code} {b L : Nat} {xs : Nat → Int32} {dC : Nat → ClassId} {dI : Nat → Nat → Nat} {kA : Nat → ClassId} {A : Nat → Prop} (C0 : lw_At p s m meth c b L xs) (hc : lc_cx l p s m #[Value.ref b] c dC dI kA A s.heap) (hbA : ¬ A b) {cells slots : Nat} (hcs : cells ≤ 600000 ∧ slots ≤ 7302249) {i : Nat} (hi : i + 6 ≤ L) (hL : L ≤ 3072) {τ : Nat → Option Nat} {σ : sxV} {ρ : sxR} {φ : sxF} {ws : va_W} {H : Heap} {locs : List Loc} {ls : Array Slot} (hp : lc_hp sxPF s dC dI kA A τ s.heap sxP0 σ ρ φ ws H locs) (hl : lv_has ls 4 [(3, .int (nI i)), (2, .ref (ρ 1)), (1, .ref (ρ 0)), (0, .ref b)]) (next : ∀ σ' ρ' φ' w1 H1 locs1, ρ' 0 = ρ 0 → ρ' 1 = ρ 1 → lc_hp sxPF s dC dI kA A τ s.heap sxP0 σ' ρ' φ' w1 H1 locs1 → W p l e room_1 s m #[Value.ref b] below meth c H1 locs1 cells slots (lw_Z below #[Value.ref b] s) (F0 m 1190 ls [])) : W p l e room_1 s m #[Value.ref b] below meth c H locs cells slots (lw_Z below #[Value.ref b] s) (F0 m 771 ls []) := by
  obtain ⟨hx, hb, hr, hml, hown, hts, hX, hbl, hlocks, hgv⟩ := id C0
  have hb : c.code = cL_law := hb

  obtain ⟨σ1, w1, hp1, z1, v1, v2, v3, v4, v5⟩ := law_args hp ((.negSucc 2147483647), (.ofNat 2147483647)) (xs (i + 1)) (xs (i + 2)) (xs (i + 3)) (xs (i + 4)) (xs (i + 5)) (law_full _).1 (law_full _).2
  refine lv_aload_n hx hb dL_law_771 rfl (lv_at hl 2 rfl) ?_
  refine law_ld (k := 1) hx hb hX hbl hbA hp.2.2.2.1 hl hL hi (by decide) (by decide) dL_law_772 dL_law_773 dL_law_774 dL_law_775 dL_law_776 ?_
  refine law_ld (k := 2) hx hb hX hbl hbA hp.2.2.2.1 hl hL hi (by decide) (by decide) dL_law_777 dL_law_778 dL_law_779 dL_law_780 dL_law_781 ?_
  refine law_op (st2 := [.int (xs (i + 2)), .int (xs (i + 1)), .ref (ρ 1)]) hc hl.1 hp1 hcs sxmI36 sxmI416 (ix1 := 110) (ix2 := 113) rfl rfl w1 lawk_carves dL_law_782 dL_law_797 (by decide) (by show _ = ([sx_val σ1 ρ (2, 0, 0), sx_val σ1 ρ (0, 16, 0), sx_val σ1 ρ (0, 17, 0)] : List Value).reverse; rw [v1, v2]; rfl) (by show _ = ([sx_val σ1 ρ (2, 1, 0), sx_val σ1 ρ (0, 16, 0), sx_val σ1 ρ (0, 17, 0)] : List Value).reverse; rw [v1, v2]; rfl) (fun H1 locs1 hS1 v k => ?_) (fun σ2 ρ2 φ2 w2 H2 locs2 v e0 e1 hp2 => ?_)
  · refine lv_pop hx hb dL_law_785 rfl ?_
    refine lv_aload_n hx hb dL_law_786 rfl (lv_at hl 1 rfl) ?_
    refine law_ld (k := 1) hx hb hX hbl hbA hS1 hl hL hi (by decide) (by decide) dL_law_787 dL_law_788 dL_law_789 dL_law_790 dL_law_791 ?_
    refine law_ld (k := 2) hx hb hX hbl hbA hS1 hl hL hi (by decide) (by decide) dL_law_792 dL_law_793 dL_law_794 dL_law_795 dL_law_796 ?_
    exact k
  · refine lv_pop hx hb dL_law_800 rfl ?_
    refine lv_goto (tgt := 1190) hx hb dL_law_801 (by decide) ?_
    exact next σ2 ρ2 φ2 w2 H2 locs2 e0 e1 hp2
theorem law_nearer {p : Program} {l : Launch} {e : Env} {s : State} {m : MethodId} {below : List Frame} {meth : Method} {c : Code} {b L : Nat} {xs : Nat → Int32} {dC : Nat → ClassId} {dI : Nat → Nat → Nat} {kA : Nat → ClassId} {A : Nat → Prop} (C0 : lw_At p s m meth c b L xs) (hc : lc_cx l p s m #[Value.ref b] c dC dI kA A s.heap) (hbA : ¬ A b) {cells slots : Nat} (hcs : cells ≤ 600000 ∧ slots ≤ 7302249) {i : Nat} (hi : i + 6 ≤ L) (hL : L ≤ 3072) {τ : Nat → Option Nat} {σ : sxV} {ρ : sxR} {φ : sxF} {ws : va_W} {H : Heap} {locs : List Loc} {ls : Array Slot} (hp : lc_hp sxPF s dC dI kA A τ s.heap sxP0 σ ρ φ ws H locs) (hl : lv_has ls 4 [(3, .int (nI i)), (2, .ref (ρ 1)), (1, .ref (ρ 0)), (0, .ref b)]) (next : ∀ σ' ρ' φ' w1 H1 locs1, ρ' 0 = ρ 0 → ρ' 1 = ρ 1 → lc_hp sxPF s dC dI kA A τ s.heap sxP0 σ' ρ' φ' w1 H1 locs1 → W p l e room_1 s m #[Value.ref b] below meth c H1 locs1 cells slots (lw_Z below #[Value.ref b] s) (F0 m 1190 ls [])) : W p l e room_1 s m #[Value.ref b] below meth c H locs cells slots (lw_Z below #[Value.ref b] s) (F0 m 804 ls []) := by
  obtain ⟨hx, hb, hr, hml, hown, hts, hX, hbl, hlocks, hgv⟩ := id C0
  have hb : c.code = cL_law := hb

  obtain ⟨σ1, w1, hp1, z1, v1, v2, v3, v4, v5⟩ := law_args hp ((.negSucc 2147483647), (.ofNat 2147483647)) (xs (i + 1)) (xs (i + 2)) (xs (i + 3)) (xs (i + 4)) (xs (i + 5)) (law_full _).1 (law_full _).2
  refine lv_aload_n hx hb dL_law_804 rfl (lv_at hl 2 rfl) ?_
  refine law_ld (k := 1) hx hb hX hbl hbA hp.2.2.2.1 hl hL hi (by decide) (by decide) dL_law_805 dL_law_806 dL_law_807 dL_law_808 dL_law_809 ?_
  refine law_op (st2 := [.int (xs (i + 1)), .ref (ρ 1)]) hc hl.1 hp1 hcs sxmI172 sxmI417 (ix1 := 114) (ix2 := 117) rfl rfl w1 lawk_nearer dL_law_810 dL_law_820 (by decide) (by show _ = ([sx_val σ1 ρ (2, 0, 0), sx_val σ1 ρ (0, 16, 0)] : List Value).reverse; rw [v1]; rfl) (by show _ = ([sx_val σ1 ρ (2, 1, 0), sx_val σ1 ρ (0, 16, 0)] : List Value).reverse; rw [v1]; rfl) (fun H1 locs1 hS1 v k => ?_) (fun σ2 ρ2 φ2 w2 H2 locs2 v e0 e1 hp2 => ?_)
  · refine lv_pop hx hb dL_law_813 rfl ?_
    refine lv_aload_n hx hb dL_law_814 rfl (lv_at hl 1 rfl) ?_
    refine law_ld (k := 1) hx hb hX hbl hbA hS1 hl hL hi (by decide) (by decide) dL_law_815 dL_law_816 dL_law_817 dL_law_818 dL_law_819 ?_
    exact k
  · refine lv_pop hx hb dL_law_823 rfl ?_
    refine lv_goto (tgt := 1190) hx hb dL_law_824 (by decide) ?_
    exact next σ2 ρ2 φ2 w2 H2 locs2 e0 e1 hp2
theorem law_lock {p : Program} {l : Launch} {e : Env} {s : State} {m : MethodId} {below : List Frame} {meth : Method} {c : Code} {b L : Nat} {xs : Nat → Int32} {dC : Nat → ClassId} {dI : Nat → Nat → Nat} {kA : Nat → ClassId} {A : Nat → Prop} (C0 : lw_At p s m meth c b L xs) (hc : lc_cx l p s m #[Value.ref b] c dC dI kA A s.heap) (hbA : ¬ A b) {cells slots : Nat} (hcs : cells ≤ 600000 ∧ slots ≤ 7302249) {i : Nat} (hi : i + 6 ≤ L) (hL : L ≤ 3072) {τ : Nat → Option Nat} {σ : sxV} {ρ : sxR} {φ : sxF} {ws : va_W} {H : Heap} {locs : List Loc} {ls : Array Slot} (hp : lc_hp sxPF s dC dI kA A τ s.heap sxP0 σ ρ φ ws H locs) (hl : lv_has ls 4 [(3, .int (nI i)), (2, .ref (ρ 1)), (1, .ref (ρ 0)), (0, .ref b)]) (next : ∀ σ' ρ' φ' w1 H1 locs1, ρ' 0 = ρ 0 → ρ' 1 = ρ 1 → lc_hp sxPF s dC dI kA A τ s.heap sxP0 σ' ρ' φ' w1 H1 locs1 → W p l e room_1 s m #[Value.ref b] below meth c H1 locs1 cells slots (lw_Z below #[Value.ref b] s) (F0 m 1190 ls [])) : W p l e room_1 s m #[Value.ref b] below meth c H locs cells slots (lw_Z below #[Value.ref b] s) (F0 m 827 ls []) := by
  obtain ⟨hx, hb, hr, hml, hown, hts, hX, hbl, hlocks, hgv⟩ := id C0
  have hb : c.code = cL_law := hb

  obtain ⟨σ1, w1, hp1, z1, v1, v2, v3, v4, v5⟩ := law_args hp ((.negSucc 2147483647), (.ofNat 2147483647)) (xs (i + 1)) (xs (i + 2)) (xs (i + 3)) (xs (i + 4)) (xs (i + 5)) (law_full _).1 (law_full _).2
  refine lv_aload_n hx hb dL_law_827 rfl (lv_at hl 2 rfl) ?_
  refine law_ld (k := 1) hx hb hX hbl hbA hp.2.2.2.1 hl hL hi (by decide) (by decide) dL_law_828 dL_law_829 dL_law_830 dL_law_831 dL_law_832 ?_
  refine law_ld (k := 2) hx hb hX hbl hbA hp.2.2.2.1 hl hL hi (by decide) (by decide) dL_law_833 dL_law_834 dL_law_835 dL_law_836 dL_law_837 ?_
  refine law_op (st2 := [.int (xs (i + 2)), .int (xs (i + 1)), .ref (ρ 1)]) hc hl.1 hp1 hcs sxmI112 sxmI420 (ix1 := 118) (ix2 := 121) rfl rfl w1 lawk_lock dL_law_838 dL_law_853 (by decide) (by show _ = ([sx_val σ1 ρ (2, 0, 0), sx_val σ1 ρ (0, 16, 0), sx_val σ1 ρ (0, 17, 0)] : List Value).reverse; rw [v1, v2]; rfl) (by show _ = ([sx_val σ1 ρ (2, 1, 0), sx_val σ1 ρ (0, 16, 0), sx_val σ1 ρ (0, 17, 0)] : List Value).reverse; rw [v1, v2]; rfl) (fun H1 locs1 hS1 v k => ?_) (fun σ2 ρ2 φ2 w2 H2 locs2 v e0 e1 hp2 => ?_)
  · refine lv_pop hx hb dL_law_841 rfl ?_
    refine lv_aload_n hx hb dL_law_842 rfl (lv_at hl 1 rfl) ?_
    refine law_ld (k := 1) hx hb hX hbl hbA hS1 hl hL hi (by decide) (by decide) dL_law_843 dL_law_844 dL_law_845 dL_law_846 dL_law_847 ?_
    refine law_ld (k := 2) hx hb hX hbl hbA hS1 hl hL hi (by decide) (by decide) dL_law_848 dL_law_849 dL_law_850 dL_law_851 dL_law_852 ?_
    exact k
  · refine lv_pop hx hb dL_law_856 rfl ?_
    refine lv_goto (tgt := 1190) hx hb dL_law_857 (by decide) ?_
    exact next σ2 ρ2 φ2 w2 H2 locs2 e0 e1 hp2
theorem law_pence {p : Program} {l : Launch} {e : Env} {s : State} {m : MethodId} {below : List Frame} {meth : Method} {c : Code} {b L : Nat} {xs : Nat → Int32} {dC : Nat → ClassId} {dI : Nat → Nat → Nat} {kA : Nat → ClassId} {A : Nat → Prop} (C0 : lw_At p s m meth c b L xs) (hc : lc_cx l p s m #[Value.ref b] c dC dI kA A s.heap) (hbA : ¬ A b) {cells slots : Nat} (hcs : cells ≤ 600000 ∧ slots ≤ 7302249) {i : Nat} (hi : i + 6 ≤ L) (hL : L ≤ 3072) {τ : Nat → Option Nat} {σ : sxV} {ρ : sxR} {φ : sxF} {ws : va_W} {H : Heap} {locs : List Loc} {ls : Array Slot} (hp : lc_hp sxPF s dC dI kA A τ s.heap sxP0 σ ρ φ ws H locs) (hl : lv_has ls 4 [(3, .int (nI i)), (2, .ref (ρ 1)), (1, .ref (ρ 0)), (0, .ref b)]) (next : ∀ σ' ρ' φ' w1 H1 locs1, ρ' 0 = ρ 0 → ρ' 1 = ρ 1 → lc_hp sxPF s dC dI kA A τ s.heap sxP0 σ' ρ' φ' w1 H1 locs1 → W p l e room_1 s m #[Value.ref b] below meth c H1 locs1 cells slots (lw_Z below #[Value.ref b] s) (F0 m 1190 ls [])) : W p l e room_1 s m #[Value.ref b] below meth c H locs cells slots (lw_Z below #[Value.ref b] s) (F0 m 860 ls []) := by
  obtain ⟨hx, hb, hr, hml, hown, hts, hX, hbl, hlocks, hgv⟩ := id C0
  have hb : c.code = cL_law := hb

  obtain ⟨σ1, w1, hp1, z1, v1, v2, v3, v4, v5⟩ := law_args hp ((.negSucc 2147483647), (.ofNat 2147483647)) (xs (i + 1)) (xs (i + 2)) (xs (i + 3)) (xs (i + 4)) (xs (i + 5)) (law_full _).1 (law_full _).2
  refine lv_aload_n hx hb dL_law_860 rfl (lv_at hl 2 rfl) ?_
  refine law_ld (k := 1) hx hb hX hbl hbA hp.2.2.2.1 hl hL hi (by decide) (by decide) dL_law_861 dL_law_862 dL_law_863 dL_law_864 dL_law_865 ?_
  refine law_ld (k := 2) hx hb hX hbl hbA hp.2.2.2.1 hl hL hi (by decide) (by decide) dL_law_866 dL_law_867 dL_law_868 dL_law_869 dL_law_870 ?_
  refine law_op (st2 := [.int (xs (i + 2)), .int (xs (i + 1)), .ref (ρ 1)]) hc hl.1 hp1 hcs sxmI174 sxmI421 (ix1 := 122) (ix2 := 125) rfl rfl w1 lawk_pence dL_law_871 dL_law_886 (by decide) (by show _ = ([sx_val σ1 ρ (2, 0, 0), sx_val σ1 ρ (0, 16, 0), sx_val σ1 ρ (0, 17, 0)] : List Value).reverse; rw [v1, v2]; rfl) (by show _ = ([sx_val σ1 ρ (2, 1, 0), sx_val σ1 ρ (0, 16, 0), sx_val σ1 ρ (0, 17, 0)] : List Value).reverse; rw [v1, v2]; rfl) (fun H1 locs1 hS1 v k => ?_) (fun σ2 ρ2 φ2 w2 H2 locs2 v e0 e1 hp2 => ?_)
  · refine lv_pop hx hb dL_law_874 rfl ?_
    refine lv_aload_n hx hb dL_law_875 rfl (lv_at hl 1 rfl) ?_
    refine law_ld (k := 1) hx hb hX hbl hbA hS1 hl hL hi (by decide) (by decide) dL_law_876 dL_law_877 dL_law_878 dL_law_879 dL_law_880 ?_
    refine law_ld (k := 2) hx hb hX hbl hbA hS1 hl hL hi (by decide) (by decide) dL_law_881 dL_law_882 dL_law_883 dL_law_884 dL_law_885 ?_
    exact k
  · refine lv_pop hx hb dL_law_889 rfl ?_
    refine lv_goto (tgt := 1190) hx hb dL_law_890 (by decide) ?_
    exact next σ2 ρ2 φ2 w2 H2 locs2 e0 e1 hp2
theorem law_game {p : Program} {l : Launch} {e : Env} {s : State} {m : MethodId} {below : List Frame} {meth : Method} {c : Code} {b L : Nat} {xs : Nat → Int32} {dC : Nat → ClassId} {dI : Nat → Nat → Nat} {kA : Nat → ClassId} {A : Nat → Prop} (C0 : lw_At p s m meth c b L xs) (hc : lc_cx l p s m #[Value.ref b] c dC dI kA A s.heap) (hbA : ¬ A b) {cells slots : Nat} (hcs : cells ≤ 600000 ∧ slots ≤ 7302249) {i : Nat} (hi : i + 6 ≤ L) (hL : L ≤ 3072) {τ : Nat → Option Nat} {σ : sxV} {ρ : sxR} {φ : sxF} {ws : va_W} {H : Heap} {locs : List Loc} {ls : Array Slot} (hp : lc_hp sxPF s dC dI kA A τ s.heap sxP0 σ ρ φ ws H locs) (hl : lv_has ls 4 [(3, .int (nI i)), (2, .ref (ρ 1)), (1, .ref (ρ 0)), (0, .ref b)]) (next : ∀ σ' ρ' φ' w1 H1 locs1, ρ' 0 = ρ 0 → ρ' 1 = ρ 1 → lc_hp sxPF s dC dI kA A τ s.heap sxP0 σ' ρ' φ' w1 H1 locs1 → W p l e room_1 s m #[Value.ref b] below meth c H1 locs1 cells slots (lw_Z below #[Value.ref b] s) (F0 m 1190 ls [])) : W p l e room_1 s m #[Value.ref b] below meth c H locs cells slots (lw_Z below #[Value.ref b] s) (F0 m 893 ls []) := by
  obtain ⟨hx, hb, hr, hml, hown, hts, hX, hbl, hlocks, hgv⟩ := id C0
  have hb : c.code = cL_law := hb

  obtain ⟨σ1, w1, hp1, z1, v1, v2, v3, v4, v5⟩ := law_args hp ((.negSucc 2147483647), (.ofNat 2147483647)) (xs (i + 1)) (xs (i + 2)) (xs (i + 3)) (xs (i + 4)) (xs (i + 5)) (law_full _).1 (law_full _).2
  refine lv_aload_n hx hb dL_law_893 rfl (lv_at hl 2 rfl) ?_
  refine law_ld (k := 1) hx hb hX hbl hbA hp.2.2.2.1 hl hL hi (by decide) (by decide) dL_law_894 dL_law_895 dL_law_896 dL_law_897 dL_law_898 ?_
  refine law_ld (k := 2) hx hb hX hbl hbA hp.2.2.2.1 hl hL hi (by decide) (by decide) dL_law_899 dL_law_900 dL_law_901 dL_law_902 dL_law_903 ?_
  refine law_ld (k := 3) hx hb hX hbl hbA hp.2.2.2.1 hl hL hi (by decide) (by decide) dL_law_904 dL_law_905 dL_law_906 dL_law_907 dL_law_908 ?_
  refine law_ld (k := 4) hx hb hX hbl hbA hp.2.2.2.1 hl hL hi (by decide) (by decide) dL_law_909 dL_law_910 dL_law_911 dL_law_912 dL_law_913 ?_
  refine law_op (st2 := [.int (xs (i + 4)), .int (xs (i + 3)), .int (xs (i + 2)), .int (xs (i + 1)), .ref (ρ 1)]) hc hl.1 hp1 hcs sxmI59 sxmI428 (ix1 := 126) (ix2 := 130) rfl rfl w1 lawk_game dL_law_914 dL_law_939 (by decide) (by show _ = ([sx_val σ1 ρ (2, 0, 0), sx_val σ1 ρ (0, 16, 0), sx_val σ1 ρ (0, 17, 0), sx_val σ1 ρ (0, 18, 0), sx_val σ1 ρ (0, 19, 0)] : List Value).reverse; rw [v1, v2, v3, v4]; rfl) (by show _ = ([sx_val σ1 ρ (2, 1, 0), sx_val σ1 ρ (0, 16, 0), sx_val σ1 ρ (0, 17, 0), sx_val σ1 ρ (0, 18, 0), sx_val σ1 ρ (0, 19, 0)] : List Value).reverse; rw [v1, v2, v3, v4]; rfl) (fun H1 locs1 hS1 v k => ?_) (fun σ2 ρ2 φ2 w2 H2 locs2 v e0 e1 hp2 => ?_)
  · refine lv_pop hx hb dL_law_917 rfl ?_
    refine lv_aload_n hx hb dL_law_918 rfl (lv_at hl 1 rfl) ?_
    refine law_ld (k := 1) hx hb hX hbl hbA hS1 hl hL hi (by decide) (by decide) dL_law_919 dL_law_920 dL_law_921 dL_law_922 dL_law_923 ?_
    refine law_ld (k := 2) hx hb hX hbl hbA hS1 hl hL hi (by decide) (by decide) dL_law_924 dL_law_925 dL_law_926 dL_law_927 dL_law_928 ?_
    refine law_ld (k := 3) hx hb hX hbl hbA hS1 hl hL hi (by decide) (by decide) dL_law_929 dL_law_930 dL_law_931 dL_law_932 dL_law_933 ?_
    refine law_ld (k := 4) hx hb hX hbl hbA hS1 hl hL hi (by decide) (by decide) dL_law_934 dL_law_935 dL_law_936 dL_law_937 dL_law_938 ?_
    exact k
  · refine lv_pop hx hb dL_law_942 rfl ?_
    refine lv_goto (tgt := 1190) hx hb dL_law_943 (by decide) ?_
    exact next σ2 ρ2 φ2 w2 H2 locs2 e0 e1 hp2
theorem law_note {p : Program} {l : Launch} {e : Env} {s : State} {m : MethodId} {below : List Frame} {meth : Method} {c : Code} {b L : Nat} {xs : Nat → Int32} {dC : Nat → ClassId} {dI : Nat → Nat → Nat} {kA : Nat → ClassId} {A : Nat → Prop} (C0 : lw_At p s m meth c b L xs) (hc : lc_cx l p s m #[Value.ref b] c dC dI kA A s.heap) (hbA : ¬ A b) {cells slots : Nat} (hcs : cells ≤ 600000 ∧ slots ≤ 7302249) {i : Nat} (hi : i + 6 ≤ L) (hL : L ≤ 3072) {τ : Nat → Option Nat} {σ : sxV} {ρ : sxR} {φ : sxF} {ws : va_W} {H : Heap} {locs : List Loc} {ls : Array Slot} (hp : lc_hp sxPF s dC dI kA A τ s.heap sxP0 σ ρ φ ws H locs) (hl : lv_has ls 4 [(3, .int (nI i)), (2, .ref (ρ 1)), (1, .ref (ρ 0)), (0, .ref b)]) (next : ∀ σ' ρ' φ' w1 H1 locs1, ρ' 0 = ρ 0 → ρ' 1 = ρ 1 → lc_hp sxPF s dC dI kA A τ s.heap sxP0 σ' ρ' φ' w1 H1 locs1 → W p l e room_1 s m #[Value.ref b] below meth c H1 locs1 cells slots (lw_Z below #[Value.ref b] s) (F0 m 1190 ls [])) : W p l e room_1 s m #[Value.ref b] below meth c H locs cells slots (lw_Z below #[Value.ref b] s) (F0 m 946 ls []) := by
  obtain ⟨hx, hb, hr, hml, hown, hts, hX, hbl, hlocks, hgv⟩ := id C0
  have hb : c.code = cL_law := hb

  obtain ⟨σ1, w1, hp1, z1, v1, v2, v3, v4, v5⟩ := law_args hp ((.negSucc 2147483647), (.ofNat 2147483647)) (xs (i + 1)) (xs (i + 2)) (xs (i + 3)) (xs (i + 4)) (xs (i + 5)) (law_full _).1 (law_full _).2
  refine lv_aload_n hx hb dL_law_946 rfl (lv_at hl 2 rfl) ?_
  refine law_ld (k := 1) hx hb hX hbl hbA hp.2.2.2.1 hl hL hi (by decide) (by decide) dL_law_947 dL_law_948 dL_law_949 dL_law_950 dL_law_951 ?_
  refine law_ld (k := 2) hx hb hX hbl hbA hp.2.2.2.1 hl hL hi (by decide) (by decide) dL_law_952 dL_law_953 dL_law_954 dL_law_955 dL_law_956 ?_
  refine law_ld (k := 3) hx hb hX hbl hbA hp.2.2.2.1 hl hL hi (by decide) (by decide) dL_law_957 dL_law_958 dL_law_959 dL_law_960 dL_law_961 ?_
  refine law_op (st2 := [.int (xs (i + 3)), .int (xs (i + 2)), .int (xs (i + 1)), .ref (ρ 1)]) hc hl.1 hp1 hcs sxmI173 sxmI429 (ix1 := 131) (ix2 := 134) rfl rfl w1 lawk_note dL_law_962 dL_law_982 (by decide) (by show _ = ([sx_val σ1 ρ (2, 0, 0), sx_val σ1 ρ (0, 16, 0), sx_val σ1 ρ (0, 17, 0), sx_val σ1 ρ (0, 18, 0)] : List Value).reverse; rw [v1, v2, v3]; rfl) (by show _ = ([sx_val σ1 ρ (2, 1, 0), sx_val σ1 ρ (0, 16, 0), sx_val σ1 ρ (0, 17, 0), sx_val σ1 ρ (0, 18, 0)] : List Value).reverse; rw [v1, v2, v3]; rfl) (fun H1 locs1 hS1 v k => ?_) (fun σ2 ρ2 φ2 w2 H2 locs2 v e0 e1 hp2 => ?_)
  · refine lv_pop hx hb dL_law_965 rfl ?_
    refine lv_aload_n hx hb dL_law_966 rfl (lv_at hl 1 rfl) ?_
    refine law_ld (k := 1) hx hb hX hbl hbA hS1 hl hL hi (by decide) (by decide) dL_law_967 dL_law_968 dL_law_969 dL_law_970 dL_law_971 ?_
    refine law_ld (k := 2) hx hb hX hbl hbA hS1 hl hL hi (by decide) (by decide) dL_law_972 dL_law_973 dL_law_974 dL_law_975 dL_law_976 ?_
    refine law_ld (k := 3) hx hb hX hbl hbA hS1 hl hL hi (by decide) (by decide) dL_law_977 dL_law_978 dL_law_979 dL_law_980 dL_law_981 ?_
    exact k
  · refine lv_pop hx hb dL_law_985 rfl ?_
    refine lv_goto (tgt := 1190) hx hb dL_law_986 (by decide) ?_
    exact next σ2 ρ2 φ2 w2 H2 locs2 e0 e1 hp2
theorem law_ruled {p : Program} {l : Launch} {e : Env} {s : State} {m : MethodId} {below : List Frame} {meth : Method} {c : Code} {b L : Nat} {xs : Nat → Int32} {dC : Nat → ClassId} {dI : Nat → Nat → Nat} {kA : Nat → ClassId} {A : Nat → Prop} (C0 : lw_At p s m meth c b L xs) (hc : lc_cx l p s m #[Value.ref b] c dC dI kA A s.heap) (hbA : ¬ A b) {cells slots : Nat} (hcs : cells ≤ 600000 ∧ slots ≤ 7302249) {i : Nat} (hi : i + 6 ≤ L) (hL : L ≤ 3072) {τ : Nat → Option Nat} {σ : sxV} {ρ : sxR} {φ : sxF} {ws : va_W} {H : Heap} {locs : List Loc} {ls : Array Slot} (hp : lc_hp sxPF s dC dI kA A τ s.heap sxP0 σ ρ φ ws H locs) (hl : lv_has ls 4 [(3, .int (nI i)), (2, .ref (ρ 1)), (1, .ref (ρ 0)), (0, .ref b)]) (next : ∀ σ' ρ' φ' w1 H1 locs1, ρ' 0 = ρ 0 → ρ' 1 = ρ 1 → lc_hp sxPF s dC dI kA A τ s.heap sxP0 σ' ρ' φ' w1 H1 locs1 → W p l e room_1 s m #[Value.ref b] below meth c H1 locs1 cells slots (lw_Z below #[Value.ref b] s) (F0 m 1190 ls [])) : W p l e room_1 s m #[Value.ref b] below meth c H locs cells slots (lw_Z below #[Value.ref b] s) (F0 m 989 ls []) := by
  obtain ⟨hx, hb, hr, hml, hown, hts, hX, hbl, hlocks, hgv⟩ := id C0
  have hb : c.code = cL_law := hb

  obtain ⟨σ1, w1, hp1, z1, v1, v2, v3, v4, v5⟩ := law_args hp ((.negSucc 2147483647), (.ofNat 2147483647)) (xs (i + 1)) (xs (i + 2)) (xs (i + 3)) (xs (i + 4)) (xs (i + 5)) (law_full _).1 (law_full _).2
  refine lv_aload_n hx hb dL_law_989 rfl (lv_at hl 2 rfl) ?_
  refine law_ld (k := 1) hx hb hX hbl hbA hp.2.2.2.1 hl hL hi (by decide) (by decide) dL_law_990 dL_law_991 dL_law_992 dL_law_993 dL_law_994 ?_
  refine law_op (st2 := [.int (xs (i + 1)), .ref (ρ 1)]) hc hl.1 hp1 hcs sxmI180 sxmI432 (ix1 := 135) (ix2 := 138) rfl rfl w1 lawk_ruled dL_law_995 dL_law_1005 (by decide) (by show _ = ([sx_val σ1 ρ (2, 0, 0), sx_val σ1 ρ (0, 16, 0)] : List Value).reverse; rw [v1]; rfl) (by show _ = ([sx_val σ1 ρ (2, 1, 0), sx_val σ1 ρ (0, 16, 0)] : List Value).reverse; rw [v1]; rfl) (fun H1 locs1 hS1 v k => ?_) (fun σ2 ρ2 φ2 w2 H2 locs2 v e0 e1 hp2 => ?_)
  · refine lv_pop hx hb dL_law_998 rfl ?_
    refine lv_aload_n hx hb dL_law_999 rfl (lv_at hl 1 rfl) ?_
    refine law_ld (k := 1) hx hb hX hbl hbA hS1 hl hL hi (by decide) (by decide) dL_law_1000 dL_law_1001 dL_law_1002 dL_law_1003 dL_law_1004 ?_
    exact k
  · refine lv_pop hx hb dL_law_1008 rfl ?_
    refine lv_goto (tgt := 1190) hx hb dL_law_1009 (by decide) ?_
    exact next σ2 ρ2 φ2 w2 H2 locs2 e0 e1 hp2
theorem law_look {p : Program} {l : Launch} {e : Env} {s : State} {m : MethodId} {below : List Frame} {meth : Method} {c : Code} {b L : Nat} {xs : Nat → Int32} {dC : Nat → ClassId} {dI : Nat → Nat → Nat} {kA : Nat → ClassId} {A : Nat → Prop} (C0 : lw_At p s m meth c b L xs) (hc : lc_cx l p s m #[Value.ref b] c dC dI kA A s.heap) (hbA : ¬ A b) {cells slots : Nat} (hcs : cells ≤ 600000 ∧ slots ≤ 7302249) {i : Nat} (hi : i + 6 ≤ L) (hL : L ≤ 3072) {τ : Nat → Option Nat} {σ : sxV} {ρ : sxR} {φ : sxF} {ws : va_W} {H : Heap} {locs : List Loc} {ls : Array Slot} (hp : lc_hp sxPF s dC dI kA A τ s.heap sxP0 σ ρ φ ws H locs) (hl : lv_has ls 4 [(3, .int (nI i)), (2, .ref (ρ 1)), (1, .ref (ρ 0)), (0, .ref b)]) (next : ∀ σ' ρ' φ' w1 H1 locs1, ρ' 0 = ρ 0 → ρ' 1 = ρ 1 → lc_hp sxPF s dC dI kA A τ s.heap sxP0 σ' ρ' φ' w1 H1 locs1 → W p l e room_1 s m #[Value.ref b] below meth c H1 locs1 cells slots (lw_Z below #[Value.ref b] s) (F0 m 1190 ls [])) : W p l e room_1 s m #[Value.ref b] below meth c H locs cells slots (lw_Z below #[Value.ref b] s) (F0 m 1012 ls []) := by
  obtain ⟨hx, hb, hr, hml, hown, hts, hX, hbl, hlocks, hgv⟩ := id C0
  have hb : c.code = cL_law := hb

  obtain ⟨σ1, w1, hp1, z1, v1, v2, v3, v4, v5⟩ := law_args hp ((.negSucc 2147483647), (.ofNat 2147483647)) (xs (i + 1)) (xs (i + 2)) (xs (i + 3)) (xs (i + 4)) (xs (i + 5)) (law_full _).1 (law_full _).2
  refine lv_aload_n hx hb dL_law_1012 rfl (lv_at hl 2 rfl) ?_
  refine law_ld (k := 1) hx hb hX hbl hbA hp.2.2.2.1 hl hL hi (by decide) (by decide) dL_law_1013 dL_law_1014 dL_law_1015 dL_law_1016 dL_law_1017 ?_
  refine law_ld (k := 2) hx hb hX hbl hbA hp.2.2.2.1 hl hL hi (by decide) (by decide) dL_law_1018 dL_law_1019 dL_law_1020 dL_law_1021 dL_law_1022 ?_
  refine law_op (st2 := [.int (xs (i + 2)), .int (xs (i + 1)), .ref (ρ 1)]) hc hl.1 hp1 hcs sxmI122 sxmI436 (ix1 := 139) (ix2 := 142) rfl rfl w1 lawk_look dL_law_1023 dL_law_1038 (by decide) (by show _ = ([sx_val σ1 ρ (2, 0, 0), sx_val σ1 ρ (0, 16, 0), sx_val σ1 ρ (0, 17, 0)] : List Value).reverse; rw [v1, v2]; rfl) (by show _ = ([sx_val σ1 ρ (2, 1, 0), sx_val σ1 ρ (0, 16, 0), sx_val σ1 ρ (0, 17, 0)] : List Value).reverse; rw [v1, v2]; rfl) (fun H1 locs1 hS1 v k => ?_) (fun σ2 ρ2 φ2 w2 H2 locs2 v e0 e1 hp2 => ?_)
  · refine lv_pop hx hb dL_law_1026 rfl ?_
    refine lv_aload_n hx hb dL_law_1027 rfl (lv_at hl 1 rfl) ?_
    refine law_ld (k := 1) hx hb hX hbl hbA hS1 hl hL hi (by decide) (by decide) dL_law_1028 dL_law_1029 dL_law_1030 dL_law_1031 dL_law_1032 ?_
    refine law_ld (k := 2) hx hb hX hbl hbA hS1 hl hL hi (by decide) (by decide) dL_law_1033 dL_law_1034 dL_law_1035 dL_law_1036 dL_law_1037 ?_
    exact k
  · refine lv_pop hx hb dL_law_1041 rfl ?_
    refine lv_goto (tgt := 1190) hx hb dL_law_1042 (by decide) ?_
    exact next σ2 ρ2 φ2 w2 H2 locs2 e0 e1 hp2
theorem law_seed {p : Program} {l : Launch} {e : Env} {s : State} {m : MethodId} {below : List Frame} {meth : Method} {c : Code} {b L : Nat} {xs : Nat → Int32} {dC : Nat → ClassId} {dI : Nat → Nat → Nat} {kA : Nat → ClassId} {A : Nat → Prop} (C0 : lw_At p s m meth c b L xs) (hc : lc_cx l p s m #[Value.ref b] c dC dI kA A s.heap) (hbA : ¬ A b) {cells slots : Nat} (hcs : cells ≤ 600000 ∧ slots ≤ 7302249) {i : Nat} (hi : i + 6 ≤ L) (hL : L ≤ 3072) {τ : Nat → Option Nat} {σ : sxV} {ρ : sxR} {φ : sxF} {ws : va_W} {H : Heap} {locs : List Loc} {ls : Array Slot} (hp : lc_hp sxPF s dC dI kA A τ s.heap sxP0 σ ρ φ ws H locs) (hl : lv_has ls 4 [(3, .int (nI i)), (2, .ref (ρ 1)), (1, .ref (ρ 0)), (0, .ref b)]) (next : ∀ σ' ρ' φ' w1 H1 locs1, ρ' 0 = ρ 0 → ρ' 1 = ρ 1 → lc_hp sxPF s dC dI kA A τ s.heap sxP0 σ' ρ' φ' w1 H1 locs1 → W p l e room_1 s m #[Value.ref b] below meth c H1 locs1 cells slots (lw_Z below #[Value.ref b] s) (F0 m 1190 ls [])) : W p l e room_1 s m #[Value.ref b] below meth c H locs cells slots (lw_Z below #[Value.ref b] s) (F0 m 1045 ls []) := by
  obtain ⟨hx, hb, hr, hml, hown, hts, hX, hbl, hlocks, hgv⟩ := id C0
  have hb : c.code = cL_law := hb

  obtain ⟨σ1, w1, hp1, z1, v1, v2, v3, v4, v5⟩ := law_args hp ((.negSucc 2147483647), (.ofNat 2147483647)) (xs (i + 1)) (xs (i + 2)) (xs (i + 3)) (xs (i + 4)) (xs (i + 5)) (law_full _).1 (law_full _).2
  refine lv_aload_n hx hb dL_law_1045 rfl (lv_at hl 2 rfl) ?_
  refine law_ld (k := 1) hx hb hX hbl hbA hp.2.2.2.1 hl hL hi (by decide) (by decide) dL_law_1046 dL_law_1047 dL_law_1048 dL_law_1049 dL_law_1050 ?_
  refine law_opq (st2 := [.int (xs (i + 1)), .ref (ρ 1)]) hc hl.1 hp1 hcs sxmI465 sxmI437 (ix1 := 143) (ix2 := 146) rfl rfl w1 lawk_seed dL_law_1051 dL_law_1060 (by decide) (by show _ = ([sx_val σ1 ρ (2, 0, 0), sx_val σ1 ρ (0, 16, 0)] : List Value).reverse; rw [v1]; rfl) (by show _ = ([sx_val σ1 ρ (2, 1, 0), sx_val σ1 ρ (0, 16, 0)] : List Value).reverse; rw [v1]; rfl) (fun H1 locs1 hS1 v k => ?_) (fun σ2 ρ2 φ2 w2 H2 locs2 v e0 e1 hp2 => ?_)
  · refine lv_aload_n hx hb dL_law_1054 rfl (lv_at hl 1 rfl) ?_
    refine law_ld (k := 1) hx hb hX hbl hbA hS1 hl hL hi (by decide) (by decide) dL_law_1055 dL_law_1056 dL_law_1057 dL_law_1058 dL_law_1059 ?_
    exact k
  · refine lv_icmp_eq (tgt := 1190) hx hb dL_law_1063 (by decide) (fun _ => ?_) (fun h => absurd rfl h)
    exact next σ2 ρ2 φ2 w2 H2 locs2 e0 e1 hp2
theorem law_laundries {p : Program} {l : Launch} {e : Env} {s : State} {m : MethodId} {below : List Frame} {meth : Method} {c : Code} {b L : Nat} {xs : Nat → Int32} {dC : Nat → ClassId} {dI : Nat → Nat → Nat} {kA : Nat → ClassId} {A : Nat → Prop} (C0 : lw_At p s m meth c b L xs) (hc : lc_cx l p s m #[Value.ref b] c dC dI kA A s.heap) (hbA : ¬ A b) {cells slots : Nat} (hcs : cells ≤ 600000 ∧ slots ≤ 7302249) {i : Nat} (hi : i + 6 ≤ L) (hL : L ≤ 3072) {τ : Nat → Option Nat} {σ : sxV} {ρ : sxR} {φ : sxF} {ws : va_W} {H : Heap} {locs : List Loc} {ls : Array Slot} (hp : lc_hp sxPF s dC dI kA A τ s.heap sxP0 σ ρ φ ws H locs) (hl : lv_has ls 4 [(3, .int (nI i)), (2, .ref (ρ 1)), (1, .ref (ρ 0)), (0, .ref b)]) (next : ∀ σ' ρ' φ' w1 H1 locs1, ρ' 0 = ρ 0 → ρ' 1 = ρ 1 → lc_hp sxPF s dC dI kA A τ s.heap sxP0 σ' ρ' φ' w1 H1 locs1 → W p l e room_1 s m #[Value.ref b] below meth c H1 locs1 cells slots (lw_Z below #[Value.ref b] s) (F0 m 1190 ls [])) : W p l e room_1 s m #[Value.ref b] below meth c H locs cells slots (lw_Z below #[Value.ref b] s) (F0 m 1068 ls []) := by
  obtain ⟨hx, hb, hr, hml, hown, hts, hX, hbl, hlocks, hgv⟩ := id C0
  have hb : c.code = cL_law := hb

  obtain ⟨σ1, w1, hp1, z1, v1, v2, v3, v4, v5⟩ := law_args hp ((.negSucc 2147483647), (.ofNat 2147483647)) (xs (i + 1)) (xs (i + 2)) (xs (i + 3)) (xs (i + 4)) (xs (i + 5)) (law_full _).1 (law_full _).2
  refine lv_aload_n hx hb dL_law_1068 rfl (lv_at hl 2 rfl) ?_
  refine law_ld (k := 1) hx hb hX hbl hbA hp.2.2.2.1 hl hL hi (by decide) (by decide) dL_law_1069 dL_law_1070 dL_law_1071 dL_law_1072 dL_law_1073 ?_
  refine law_ld (k := 2) hx hb hX hbl hbA hp.2.2.2.1 hl hL hi (by decide) (by decide) dL_law_1074 dL_law_1075 dL_law_1076 dL_law_1077 dL_law_1078 ?_
  refine law_ld (k := 3) hx hb hX hbl hbA hp.2.2.2.1 hl hL hi (by decide) (by decide) dL_law_1079 dL_law_1080 dL_law_1081 dL_law_1082 dL_law_1083 ?_
  refine law_ld (k := 4) hx hb hX hbl hbA hp.2.2.2.1 hl hL hi (by decide) (by decide) dL_law_1084 dL_law_1085 dL_law_1086 dL_law_1087 dL_law_1088 ?_
  refine law_op (st2 := [.int (xs (i + 4)), .int (xs (i + 3)), .int (xs (i + 2)), .int (xs (i + 1)), .ref (ρ 1)]) hc hl.1 hp1 hcs sxmI110 sxmI447 (ix1 := 147) (ix2 := 150) rfl rfl w1 lawk_laundries dL_law_1089 dL_law_1114 (by decide) (by show _ = ([sx_val σ1 ρ (2, 0, 0), sx_val σ1 ρ (0, 16, 0), sx_val σ1 ρ (0, 17, 0), sx_val σ1 ρ (0, 18, 0), sx_val σ1 ρ (0, 19, 0)] : List Value).reverse; rw [v1, v2, v3, v4]; rfl) (by show _ = ([sx_val σ1 ρ (2, 1, 0), sx_val σ1 ρ (0, 16, 0), sx_val σ1 ρ (0, 17, 0), sx_val σ1 ρ (0, 18, 0), sx_val σ1 ρ (0, 19, 0)] : List Value).reverse; rw [v1, v2, v3, v4]; rfl) (fun H1 locs1 hS1 v k => ?_) (fun σ2 ρ2 φ2 w2 H2 locs2 v e0 e1 hp2 => ?_)
  · refine lv_pop hx hb dL_law_1092 rfl ?_
    refine lv_aload_n hx hb dL_law_1093 rfl (lv_at hl 1 rfl) ?_
    refine law_ld (k := 1) hx hb hX hbl hbA hS1 hl hL hi (by decide) (by decide) dL_law_1094 dL_law_1095 dL_law_1096 dL_law_1097 dL_law_1098 ?_
    refine law_ld (k := 2) hx hb hX hbl hbA hS1 hl hL hi (by decide) (by decide) dL_law_1099 dL_law_1100 dL_law_1101 dL_law_1102 dL_law_1103 ?_
    refine law_ld (k := 3) hx hb hX hbl hbA hS1 hl hL hi (by decide) (by decide) dL_law_1104 dL_law_1105 dL_law_1106 dL_law_1107 dL_law_1108 ?_
    refine law_ld (k := 4) hx hb hX hbl hbA hS1 hl hL hi (by decide) (by decide) dL_law_1109 dL_law_1110 dL_law_1111 dL_law_1112 dL_law_1113 ?_
    exact k
  · refine lv_pop hx hb dL_law_1117 rfl ?_
    refine lv_goto (tgt := 1190) hx hb dL_law_1118 (by decide) ?_
    exact next σ2 ρ2 φ2 w2 H2 locs2 e0 e1 hp2
theorem law_count {p : Program} {l : Launch} {e : Env} {s : State} {m : MethodId} {below : List Frame} {meth : Method} {c : Code} {b L : Nat} {xs : Nat → Int32} {dC : Nat → ClassId} {dI : Nat → Nat → Nat} {kA : Nat → ClassId} {A : Nat → Prop} (C0 : lw_At p s m meth c b L xs) (hc : lc_cx l p s m #[Value.ref b] c dC dI kA A s.heap) (hbA : ¬ A b) {cells slots : Nat} (hcs : cells ≤ 600000 ∧ slots ≤ 7302249) {i : Nat} (hi : i + 6 ≤ L) (hL : L ≤ 3072) {τ : Nat → Option Nat} {σ : sxV} {ρ : sxR} {φ : sxF} {ws : va_W} {H : Heap} {locs : List Loc} {ls : Array Slot} (hp : lc_hp sxPF s dC dI kA A τ s.heap sxP0 σ ρ φ ws H locs) (hl : lv_has ls 4 [(3, .int (nI i)), (2, .ref (ρ 1)), (1, .ref (ρ 0)), (0, .ref b)]) (next : ∀ σ' ρ' φ' w1 H1 locs1, ρ' 0 = ρ 0 → ρ' 1 = ρ 1 → lc_hp sxPF s dC dI kA A τ s.heap sxP0 σ' ρ' φ' w1 H1 locs1 → W p l e room_1 s m #[Value.ref b] below meth c H1 locs1 cells slots (lw_Z below #[Value.ref b] s) (F0 m 1190 ls [])) : W p l e room_1 s m #[Value.ref b] below meth c H locs cells slots (lw_Z below #[Value.ref b] s) (F0 m 1121 ls []) := by
  obtain ⟨hx, hb, hr, hml, hown, hts, hX, hbl, hlocks, hgv⟩ := id C0
  have hb : c.code = cL_law := hb

  obtain ⟨σ1, w1, hp1, z1, v1, v2, v3, v4, v5⟩ := law_args hp ((.negSucc 2147483647), (.ofNat 2147483647)) (xs (i + 1)) (xs (i + 2)) (xs (i + 3)) (xs (i + 4)) (xs (i + 5)) (law_full _).1 (law_full _).2
  refine lv_aload_n hx hb dL_law_1121 rfl (lv_at hl 2 rfl) ?_
  refine law_ld (k := 1) hx hb hX hbl hbA hp.2.2.2.1 hl hL hi (by decide) (by decide) dL_law_1122 dL_law_1123 dL_law_1124 dL_law_1125 dL_law_1126 ?_
  refine law_op (st2 := [.int (xs (i + 1)), .ref (ρ 1)]) hc hl.1 hp1 hcs sxmI38 sxmI448 (ix1 := 151) (ix2 := 154) rfl rfl w1 lawk_count dL_law_1127 dL_law_1137 (by decide) (by show _ = ([sx_val σ1 ρ (2, 0, 0), sx_val σ1 ρ (0, 16, 0)] : List Value).reverse; rw [v1]; rfl) (by show _ = ([sx_val σ1 ρ (2, 1, 0), sx_val σ1 ρ (0, 16, 0)] : List Value).reverse; rw [v1]; rfl) (fun H1 locs1 hS1 v k => ?_) (fun σ2 ρ2 φ2 w2 H2 locs2 v e0 e1 hp2 => ?_)
  · refine lv_pop hx hb dL_law_1130 rfl ?_
    refine lv_aload_n hx hb dL_law_1131 rfl (lv_at hl 1 rfl) ?_
    refine law_ld (k := 1) hx hb hX hbl hbA hS1 hl hL hi (by decide) (by decide) dL_law_1132 dL_law_1133 dL_law_1134 dL_law_1135 dL_law_1136 ?_
    exact k
  · refine lv_pop hx hb dL_law_1140 rfl ?_
    refine lv_goto (tgt := 1190) hx hb dL_law_1141 (by decide) ?_
    exact next σ2 ρ2 φ2 w2 H2 locs2 e0 e1 hp2
theorem law_image_0 {p : Program} {l : Launch} {e : Env} {s : State} {m : MethodId} {below : List Frame} {meth : Method} {c : Code} {b L : Nat} {xs : Nat → Int32} {dC : Nat → ClassId} {dI : Nat → Nat → Nat} {kA : Nat → ClassId} {A : Nat → Prop} (C0 : lw_At p s m meth c b L xs) (hc : lc_cx l p s m #[Value.ref b] c dC dI kA A s.heap) (hbA : ¬ A b) {cells slots : Nat} (hcs : cells ≤ 600000 ∧ slots ≤ 7302249) {i : Nat} (hi : i + 6 ≤ L) (hL : L ≤ 3072) {τ : Nat → Option Nat} {σ : sxV} {ρ : sxR} {φ : sxF} {ws : va_W} {H : Heap} {locs : List Loc} {ls : Array Slot} (hp : lc_hp sxPF s dC dI kA A τ s.heap sxP0 σ ρ φ ws H locs) (hl : lv_has ls 4 [(3, .int (nI i)), (2, .ref (ρ 1)), (1, .ref (ρ 0)), (0, .ref b)]) (hv : xs (i + 1) = (0 : Int32)) (next : ∀ σ' ρ' φ' w1 H1 locs1, ρ' 0 = ρ 0 → ρ' 1 = ρ 1 → lc_hp sxPF s dC dI kA A τ s.heap sxP0 σ' ρ' φ' w1 H1 locs1 → W p l e room_1 s m #[Value.ref b] below meth c H1 locs1 cells slots (lw_Z below #[Value.ref b] s) (F0 m 1190 ls [])) : W p l e room_1 s m #[Value.ref b] below meth c H locs cells slots (lw_Z below #[Value.ref b] s) (F0 m 1144 ls []) := by
  obtain ⟨hx, hb, hr, hml, hown, hts, hX, hbl, hlocks, hgv⟩ := id C0
  have hb : c.code = cL_law := hb

  obtain ⟨σ1, w1, hp1, z1, v1, v2, v3, v4, v5⟩ := law_args hp ((.ofNat 0), (.ofNat 0)) (xs (i + 1)) (xs (i + 2)) (xs (i + 3)) (xs (i + 4)) (xs (i + 5)) (by rw [hv]; decide) (by rw [hv]; decide)
  refine lv_aload_n hx hb dL_law_1144 rfl (lv_at hl 2 rfl) ?_
  refine law_ld (k := 1) hx hb hX hbl hbA hp.2.2.2.1 hl hL hi (by decide) (by decide) dL_law_1145 dL_law_1146 dL_law_1147 dL_law_1148 dL_law_1149 ?_
  refine law_op (st2 := [.int (xs (i + 1)), .ref (ρ 1)]) hc hl.1 hp1 hcs sxmI468 sxmI450 (ix1 := 155) (ix2 := 158) rfl rfl w1 lawk_image_0 dL_law_1150 dL_law_1160 (by decide) (by show _ = ([sx_val σ1 ρ (2, 0, 0), sx_val σ1 ρ (0, 0, 0)] : List Value).reverse; rw [show sx_val σ1 ρ (0, 0, 0) = .int (xs (i + 1)) by rw [hv]; show Value.int (Int32.ofInt (σ1 0 + 0)) = _; rw [z1]; rfl]; rfl) (by show _ = ([sx_val σ1 ρ (2, 1, 0), sx_val σ1 ρ (0, 0, 0)] : List Value).reverse; rw [show sx_val σ1 ρ (0, 0, 0) = .int (xs (i + 1)) by rw [hv]; show Value.int (Int32.ofInt (σ1 0 + 0)) = _; rw [z1]; rfl]; rfl) (fun H1 locs1 hS1 v k => ?_) (fun σ2 ρ2 φ2 w2 H2 locs2 v e0 e1 hp2 => ?_)
  · refine lv_pop hx hb dL_law_1153 rfl ?_
    refine lv_aload_n hx hb dL_law_1154 rfl (lv_at hl 1 rfl) ?_
    refine law_ld (k := 1) hx hb hX hbl hbA hS1 hl hL hi (by decide) (by decide) dL_law_1155 dL_law_1156 dL_law_1157 dL_law_1158 dL_law_1159 ?_
    exact k
  · refine lv_pop hx hb dL_law_1163 rfl ?_
    refine lv_goto (tgt := 1190) hx hb dL_law_1164 (by decide) ?_
    exact next σ2 ρ2 φ2 w2 H2 locs2 e0 e1 hp2
theorem law_image_1 {p : Program} {l : Launch} {e : Env} {s : State} {m : MethodId} {below : List Frame} {meth : Method} {c : Code} {b L : Nat} {xs : Nat → Int32} {dC : Nat → ClassId} {dI : Nat → Nat → Nat} {kA : Nat → ClassId} {A : Nat → Prop} (C0 : lw_At p s m meth c b L xs) (hc : lc_cx l p s m #[Value.ref b] c dC dI kA A s.heap) (hbA : ¬ A b) {cells slots : Nat} (hcs : cells ≤ 600000 ∧ slots ≤ 7302249) {i : Nat} (hi : i + 6 ≤ L) (hL : L ≤ 3072) {τ : Nat → Option Nat} {σ : sxV} {ρ : sxR} {φ : sxF} {ws : va_W} {H : Heap} {locs : List Loc} {ls : Array Slot} (hp : lc_hp sxPF s dC dI kA A τ s.heap sxP0 σ ρ φ ws H locs) (hl : lv_has ls 4 [(3, .int (nI i)), (2, .ref (ρ 1)), (1, .ref (ρ 0)), (0, .ref b)]) (hv : xs (i + 1) = (1 : Int32)) (next : ∀ σ' ρ' φ' w1 H1 locs1, ρ' 0 = ρ 0 → ρ' 1 = ρ 1 → lc_hp sxPF s dC dI kA A τ s.heap sxP0 σ' ρ' φ' w1 H1 locs1 → W p l e room_1 s m #[Value.ref b] below meth c H1 locs1 cells slots (lw_Z below #[Value.ref b] s) (F0 m 1190 ls [])) : W p l e room_1 s m #[Value.ref b] below meth c H locs cells slots (lw_Z below #[Value.ref b] s) (F0 m 1144 ls []) := by
  obtain ⟨hx, hb, hr, hml, hown, hts, hX, hbl, hlocks, hgv⟩ := id C0
  have hb : c.code = cL_law := hb

  obtain ⟨σ1, w1, hp1, z1, v1, v2, v3, v4, v5⟩ := law_args hp ((.ofNat 1), (.ofNat 1)) (xs (i + 1)) (xs (i + 2)) (xs (i + 3)) (xs (i + 4)) (xs (i + 5)) (by rw [hv]; decide) (by rw [hv]; decide)
  refine lv_aload_n hx hb dL_law_1144 rfl (lv_at hl 2 rfl) ?_
  refine law_ld (k := 1) hx hb hX hbl hbA hp.2.2.2.1 hl hL hi (by decide) (by decide) dL_law_1145 dL_law_1146 dL_law_1147 dL_law_1148 dL_law_1149 ?_
  refine law_op (st2 := [.int (xs (i + 1)), .ref (ρ 1)]) hc hl.1 hp1 hcs sxmI471 sxmI452 (ix1 := 155) (ix2 := 158) rfl rfl w1 lawk_image_1 dL_law_1150 dL_law_1160 (by decide) (by show _ = ([sx_val σ1 ρ (2, 0, 0), sx_val σ1 ρ (0, 0, 1)] : List Value).reverse; rw [show sx_val σ1 ρ (0, 0, 1) = .int (xs (i + 1)) by rw [hv]; show Value.int (Int32.ofInt (σ1 0 + 1)) = _; rw [z1]; rfl]; rfl) (by show _ = ([sx_val σ1 ρ (2, 1, 0), sx_val σ1 ρ (0, 0, 1)] : List Value).reverse; rw [show sx_val σ1 ρ (0, 0, 1) = .int (xs (i + 1)) by rw [hv]; show Value.int (Int32.ofInt (σ1 0 + 1)) = _; rw [z1]; rfl]; rfl) (fun H1 locs1 hS1 v k => ?_) (fun σ2 ρ2 φ2 w2 H2 locs2 v e0 e1 hp2 => ?_)
  · refine lv_pop hx hb dL_law_1153 rfl ?_
    refine lv_aload_n hx hb dL_law_1154 rfl (lv_at hl 1 rfl) ?_
    refine law_ld (k := 1) hx hb hX hbl hbA hS1 hl hL hi (by decide) (by decide) dL_law_1155 dL_law_1156 dL_law_1157 dL_law_1158 dL_law_1159 ?_
    exact k
  · refine lv_pop hx hb dL_law_1163 rfl ?_
    refine lv_goto (tgt := 1190) hx hb dL_law_1164 (by decide) ?_
    exact next σ2 ρ2 φ2 w2 H2 locs2 e0 e1 hp2
theorem law_image_2 {p : Program} {l : Launch} {e : Env} {s : State} {m : MethodId} {below : List Frame} {meth : Method} {c : Code} {b L : Nat} {xs : Nat → Int32} {dC : Nat → ClassId} {dI : Nat → Nat → Nat} {kA : Nat → ClassId} {A : Nat → Prop} (C0 : lw_At p s m meth c b L xs) (hc : lc_cx l p s m #[Value.ref b] c dC dI kA A s.heap) (hbA : ¬ A b) {cells slots : Nat} (hcs : cells ≤ 600000 ∧ slots ≤ 7302249) {i : Nat} (hi : i + 6 ≤ L) (hL : L ≤ 3072) {τ : Nat → Option Nat} {σ : sxV} {ρ : sxR} {φ : sxF} {ws : va_W} {H : Heap} {locs : List Loc} {ls : Array Slot} (hp : lc_hp sxPF s dC dI kA A τ s.heap sxP0 σ ρ φ ws H locs) (hl : lv_has ls 4 [(3, .int (nI i)), (2, .ref (ρ 1)), (1, .ref (ρ 0)), (0, .ref b)]) (hv : xs (i + 1) = (2 : Int32)) (next : ∀ σ' ρ' φ' w1 H1 locs1, ρ' 0 = ρ 0 → ρ' 1 = ρ 1 → lc_hp sxPF s dC dI kA A τ s.heap sxP0 σ' ρ' φ' w1 H1 locs1 → W p l e room_1 s m #[Value.ref b] below meth c H1 locs1 cells slots (lw_Z below #[Value.ref b] s) (F0 m 1190 ls [])) : W p l e room_1 s m #[Value.ref b] below meth c H locs cells slots (lw_Z below #[Value.ref b] s) (F0 m 1144 ls []) := by
  obtain ⟨hx, hb, hr, hml, hown, hts, hX, hbl, hlocks, hgv⟩ := id C0
  have hb : c.code = cL_law := hb

  obtain ⟨σ1, w1, hp1, z1, v1, v2, v3, v4, v5⟩ := law_args hp ((.ofNat 2), (.ofNat 2)) (xs (i + 1)) (xs (i + 2)) (xs (i + 3)) (xs (i + 4)) (xs (i + 5)) (by rw [hv]; decide) (by rw [hv]; decide)
  refine lv_aload_n hx hb dL_law_1144 rfl (lv_at hl 2 rfl) ?_
  refine law_ld (k := 1) hx hb hX hbl hbA hp.2.2.2.1 hl hL hi (by decide) (by decide) dL_law_1145 dL_law_1146 dL_law_1147 dL_law_1148 dL_law_1149 ?_
  refine law_op (st2 := [.int (xs (i + 1)), .ref (ρ 1)]) hc hl.1 hp1 hcs sxmI474 sxmI454 (ix1 := 155) (ix2 := 158) rfl rfl w1 lawk_image_2 dL_law_1150 dL_law_1160 (by decide) (by show _ = ([sx_val σ1 ρ (2, 0, 0), sx_val σ1 ρ (0, 0, 2)] : List Value).reverse; rw [show sx_val σ1 ρ (0, 0, 2) = .int (xs (i + 1)) by rw [hv]; show Value.int (Int32.ofInt (σ1 0 + 2)) = _; rw [z1]; rfl]; rfl) (by show _ = ([sx_val σ1 ρ (2, 1, 0), sx_val σ1 ρ (0, 0, 2)] : List Value).reverse; rw [show sx_val σ1 ρ (0, 0, 2) = .int (xs (i + 1)) by rw [hv]; show Value.int (Int32.ofInt (σ1 0 + 2)) = _; rw [z1]; rfl]; rfl) (fun H1 locs1 hS1 v k => ?_) (fun σ2 ρ2 φ2 w2 H2 locs2 v e0 e1 hp2 => ?_)
  · refine lv_pop hx hb dL_law_1153 rfl ?_
    refine lv_aload_n hx hb dL_law_1154 rfl (lv_at hl 1 rfl) ?_
    refine law_ld (k := 1) hx hb hX hbl hbA hS1 hl hL hi (by decide) (by decide) dL_law_1155 dL_law_1156 dL_law_1157 dL_law_1158 dL_law_1159 ?_
    exact k
  · refine lv_pop hx hb dL_law_1163 rfl ?_
    refine lv_goto (tgt := 1190) hx hb dL_law_1164 (by decide) ?_
    exact next σ2 ρ2 φ2 w2 H2 locs2 e0 e1 hp2
theorem law_image_3 {p : Program} {l : Launch} {e : Env} {s : State} {m : MethodId} {below : List Frame} {meth : Method} {c : Code} {b L : Nat} {xs : Nat → Int32} {dC : Nat → ClassId} {dI : Nat → Nat → Nat} {kA : Nat → ClassId} {A : Nat → Prop} (C0 : lw_At p s m meth c b L xs) (hc : lc_cx l p s m #[Value.ref b] c dC dI kA A s.heap) (hbA : ¬ A b) {cells slots : Nat} (hcs : cells ≤ 600000 ∧ slots ≤ 7302249) {i : Nat} (hi : i + 6 ≤ L) (hL : L ≤ 3072) {τ : Nat → Option Nat} {σ : sxV} {ρ : sxR} {φ : sxF} {ws : va_W} {H : Heap} {locs : List Loc} {ls : Array Slot} (hp : lc_hp sxPF s dC dI kA A τ s.heap sxP0 σ ρ φ ws H locs) (hl : lv_has ls 4 [(3, .int (nI i)), (2, .ref (ρ 1)), (1, .ref (ρ 0)), (0, .ref b)]) (hv : xs (i + 1) = (3 : Int32)) (next : ∀ σ' ρ' φ' w1 H1 locs1, ρ' 0 = ρ 0 → ρ' 1 = ρ 1 → lc_hp sxPF s dC dI kA A τ s.heap sxP0 σ' ρ' φ' w1 H1 locs1 → W p l e room_1 s m #[Value.ref b] below meth c H1 locs1 cells slots (lw_Z below #[Value.ref b] s) (F0 m 1190 ls [])) : W p l e room_1 s m #[Value.ref b] below meth c H locs cells slots (lw_Z below #[Value.ref b] s) (F0 m 1144 ls []) := by
  obtain ⟨hx, hb, hr, hml, hown, hts, hX, hbl, hlocks, hgv⟩ := id C0
  have hb : c.code = cL_law := hb

  obtain ⟨σ1, w1, hp1, z1, v1, v2, v3, v4, v5⟩ := law_args hp ((.ofNat 3), (.ofNat 3)) (xs (i + 1)) (xs (i + 2)) (xs (i + 3)) (xs (i + 4)) (xs (i + 5)) (by rw [hv]; decide) (by rw [hv]; decide)
  refine lv_aload_n hx hb dL_law_1144 rfl (lv_at hl 2 rfl) ?_
  refine law_ld (k := 1) hx hb hX hbl hbA hp.2.2.2.1 hl hL hi (by decide) (by decide) dL_law_1145 dL_law_1146 dL_law_1147 dL_law_1148 dL_law_1149 ?_
  refine law_op (st2 := [.int (xs (i + 1)), .ref (ρ 1)]) hc hl.1 hp1 hcs sxmI477 sxmI456 (ix1 := 155) (ix2 := 158) rfl rfl w1 lawk_image_3 dL_law_1150 dL_law_1160 (by decide) (by show _ = ([sx_val σ1 ρ (2, 0, 0), sx_val σ1 ρ (0, 0, 3)] : List Value).reverse; rw [show sx_val σ1 ρ (0, 0, 3) = .int (xs (i + 1)) by rw [hv]; show Value.int (Int32.ofInt (σ1 0 + 3)) = _; rw [z1]; rfl]; rfl) (by show _ = ([sx_val σ1 ρ (2, 1, 0), sx_val σ1 ρ (0, 0, 3)] : List Value).reverse; rw [show sx_val σ1 ρ (0, 0, 3) = .int (xs (i + 1)) by rw [hv]; show Value.int (Int32.ofInt (σ1 0 + 3)) = _; rw [z1]; rfl]; rfl) (fun H1 locs1 hS1 v k => ?_) (fun σ2 ρ2 φ2 w2 H2 locs2 v e0 e1 hp2 => ?_)
  · refine lv_pop hx hb dL_law_1153 rfl ?_
    refine lv_aload_n hx hb dL_law_1154 rfl (lv_at hl 1 rfl) ?_
    refine law_ld (k := 1) hx hb hX hbl hbA hS1 hl hL hi (by decide) (by decide) dL_law_1155 dL_law_1156 dL_law_1157 dL_law_1158 dL_law_1159 ?_
    exact k
  · refine lv_pop hx hb dL_law_1163 rfl ?_
    refine lv_goto (tgt := 1190) hx hb dL_law_1164 (by decide) ?_
    exact next σ2 ρ2 φ2 w2 H2 locs2 e0 e1 hp2
theorem law_image_4 {p : Program} {l : Launch} {e : Env} {s : State} {m : MethodId} {below : List Frame} {meth : Method} {c : Code} {b L : Nat} {xs : Nat → Int32} {dC : Nat → ClassId} {dI : Nat → Nat → Nat} {kA : Nat → ClassId} {A : Nat → Prop} (C0 : lw_At p s m meth c b L xs) (hc : lc_cx l p s m #[Value.ref b] c dC dI kA A s.heap) (hbA : ¬ A b) {cells slots : Nat} (hcs : cells ≤ 600000 ∧ slots ≤ 7302249) {i : Nat} (hi : i + 6 ≤ L) (hL : L ≤ 3072) {τ : Nat → Option Nat} {σ : sxV} {ρ : sxR} {φ : sxF} {ws : va_W} {H : Heap} {locs : List Loc} {ls : Array Slot} (hp : lc_hp sxPF s dC dI kA A τ s.heap sxP0 σ ρ φ ws H locs) (hl : lv_has ls 4 [(3, .int (nI i)), (2, .ref (ρ 1)), (1, .ref (ρ 0)), (0, .ref b)]) (hv : (-2147483648) ≤ (xs (i + 1)).toInt ∧ (xs (i + 1)).toInt ≤ (-1)) (next : ∀ σ' ρ' φ' w1 H1 locs1, ρ' 0 = ρ 0 → ρ' 1 = ρ 1 → lc_hp sxPF s dC dI kA A τ s.heap sxP0 σ' ρ' φ' w1 H1 locs1 → W p l e room_1 s m #[Value.ref b] below meth c H1 locs1 cells slots (lw_Z below #[Value.ref b] s) (F0 m 1190 ls [])) : W p l e room_1 s m #[Value.ref b] below meth c H locs cells slots (lw_Z below #[Value.ref b] s) (F0 m 1144 ls []) := by
  obtain ⟨hx, hb, hr, hml, hown, hts, hX, hbl, hlocks, hgv⟩ := id C0
  have hb : c.code = cL_law := hb

  obtain ⟨σ1, w1, hp1, z1, v1, v2, v3, v4, v5⟩ := law_args hp ((.negSucc 2147483647), (.negSucc 0)) (xs (i + 1)) (xs (i + 2)) (xs (i + 3)) (xs (i + 4)) (xs (i + 5)) hv.1 hv.2
  refine lv_aload_n hx hb dL_law_1144 rfl (lv_at hl 2 rfl) ?_
  refine law_ld (k := 1) hx hb hX hbl hbA hp.2.2.2.1 hl hL hi (by decide) (by decide) dL_law_1145 dL_law_1146 dL_law_1147 dL_law_1148 dL_law_1149 ?_
  refine law_op (st2 := [.int (xs (i + 1)), .ref (ρ 1)]) hc hl.1 hp1 hcs sxmI478 sxmI457 (ix1 := 155) (ix2 := 158) rfl rfl w1 lawk_image_4 dL_law_1150 dL_law_1160 (by decide) (by show _ = ([sx_val σ1 ρ (2, 0, 0), sx_val σ1 ρ (0, 16, 0)] : List Value).reverse; rw [v1]; rfl) (by show _ = ([sx_val σ1 ρ (2, 1, 0), sx_val σ1 ρ (0, 16, 0)] : List Value).reverse; rw [v1]; rfl) (fun H1 locs1 hS1 v k => ?_) (fun σ2 ρ2 φ2 w2 H2 locs2 v e0 e1 hp2 => ?_)
  · refine lv_pop hx hb dL_law_1153 rfl ?_
    refine lv_aload_n hx hb dL_law_1154 rfl (lv_at hl 1 rfl) ?_
    refine law_ld (k := 1) hx hb hX hbl hbA hS1 hl hL hi (by decide) (by decide) dL_law_1155 dL_law_1156 dL_law_1157 dL_law_1158 dL_law_1159 ?_
    exact k
  · refine lv_pop hx hb dL_law_1163 rfl ?_
    refine lv_goto (tgt := 1190) hx hb dL_law_1164 (by decide) ?_
    exact next σ2 ρ2 φ2 w2 H2 locs2 e0 e1 hp2
theorem law_image_5 {p : Program} {l : Launch} {e : Env} {s : State} {m : MethodId} {below : List Frame} {meth : Method} {c : Code} {b L : Nat} {xs : Nat → Int32} {dC : Nat → ClassId} {dI : Nat → Nat → Nat} {kA : Nat → ClassId} {A : Nat → Prop} (C0 : lw_At p s m meth c b L xs) (hc : lc_cx l p s m #[Value.ref b] c dC dI kA A s.heap) (hbA : ¬ A b) {cells slots : Nat} (hcs : cells ≤ 600000 ∧ slots ≤ 7302249) {i : Nat} (hi : i + 6 ≤ L) (hL : L ≤ 3072) {τ : Nat → Option Nat} {σ : sxV} {ρ : sxR} {φ : sxF} {ws : va_W} {H : Heap} {locs : List Loc} {ls : Array Slot} (hp : lc_hp sxPF s dC dI kA A τ s.heap sxP0 σ ρ φ ws H locs) (hl : lv_has ls 4 [(3, .int (nI i)), (2, .ref (ρ 1)), (1, .ref (ρ 0)), (0, .ref b)]) (hv : (4) ≤ (xs (i + 1)).toInt ∧ (xs (i + 1)).toInt ≤ (2147483647)) (next : ∀ σ' ρ' φ' w1 H1 locs1, ρ' 0 = ρ 0 → ρ' 1 = ρ 1 → lc_hp sxPF s dC dI kA A τ s.heap sxP0 σ' ρ' φ' w1 H1 locs1 → W p l e room_1 s m #[Value.ref b] below meth c H1 locs1 cells slots (lw_Z below #[Value.ref b] s) (F0 m 1190 ls [])) : W p l e room_1 s m #[Value.ref b] below meth c H locs cells slots (lw_Z below #[Value.ref b] s) (F0 m 1144 ls []) := by
  obtain ⟨hx, hb, hr, hml, hown, hts, hX, hbl, hlocks, hgv⟩ := id C0
  have hb : c.code = cL_law := hb

  obtain ⟨σ1, w1, hp1, z1, v1, v2, v3, v4, v5⟩ := law_args hp ((.ofNat 4), (.ofNat 2147483647)) (xs (i + 1)) (xs (i + 2)) (xs (i + 3)) (xs (i + 4)) (xs (i + 5)) hv.1 hv.2
  refine lv_aload_n hx hb dL_law_1144 rfl (lv_at hl 2 rfl) ?_
  refine law_ld (k := 1) hx hb hX hbl hbA hp.2.2.2.1 hl hL hi (by decide) (by decide) dL_law_1145 dL_law_1146 dL_law_1147 dL_law_1148 dL_law_1149 ?_
  refine law_op (st2 := [.int (xs (i + 1)), .ref (ρ 1)]) hc hl.1 hp1 hcs sxmI479 sxmI458 (ix1 := 155) (ix2 := 158) rfl rfl w1 lawk_image_5 dL_law_1150 dL_law_1160 (by decide) (by show _ = ([sx_val σ1 ρ (2, 0, 0), sx_val σ1 ρ (0, 16, 0)] : List Value).reverse; rw [v1]; rfl) (by show _ = ([sx_val σ1 ρ (2, 1, 0), sx_val σ1 ρ (0, 16, 0)] : List Value).reverse; rw [v1]; rfl) (fun H1 locs1 hS1 v k => ?_) (fun σ2 ρ2 φ2 w2 H2 locs2 v e0 e1 hp2 => ?_)
  · refine lv_pop hx hb dL_law_1153 rfl ?_
    refine lv_aload_n hx hb dL_law_1154 rfl (lv_at hl 1 rfl) ?_
    refine law_ld (k := 1) hx hb hX hbl hbA hS1 hl hL hi (by decide) (by decide) dL_law_1155 dL_law_1156 dL_law_1157 dL_law_1158 dL_law_1159 ?_
    exact k
  · refine lv_pop hx hb dL_law_1163 rfl ?_
    refine lv_goto (tgt := 1190) hx hb dL_law_1164 (by decide) ?_
    exact next σ2 ρ2 φ2 w2 H2 locs2 e0 e1 hp2
theorem law_back_0 {p : Program} {l : Launch} {e : Env} {s : State} {m : MethodId} {below : List Frame} {meth : Method} {c : Code} {b L : Nat} {xs : Nat → Int32} {dC : Nat → ClassId} {dI : Nat → Nat → Nat} {kA : Nat → ClassId} {A : Nat → Prop} (C0 : lw_At p s m meth c b L xs) (hc : lc_cx l p s m #[Value.ref b] c dC dI kA A s.heap) (hbA : ¬ A b) {cells slots : Nat} (hcs : cells ≤ 600000 ∧ slots ≤ 7302249) {i : Nat} (hi : i + 6 ≤ L) (hL : L ≤ 3072) {τ : Nat → Option Nat} {σ : sxV} {ρ : sxR} {φ : sxF} {ws : va_W} {H : Heap} {locs : List Loc} {ls : Array Slot} (hp : lc_hp sxPF s dC dI kA A τ s.heap sxP0 σ ρ φ ws H locs) (hl : lv_has ls 4 [(3, .int (nI i)), (2, .ref (ρ 1)), (1, .ref (ρ 0)), (0, .ref b)]) (hv : xs (i + 1) = (0 : Int32)) (next : ∀ σ' ρ' φ' w1 H1 locs1, ρ' 0 = ρ 0 → ρ' 1 = ρ 1 → lc_hp sxPF s dC dI kA A τ s.heap sxP0 σ' ρ' φ' w1 H1 locs1 → W p l e room_1 s m #[Value.ref b] below meth c H1 locs1 cells slots (lw_Z below #[Value.ref b] s) (F0 m 1190 ls [])) : W p l e room_1 s m #[Value.ref b] below meth c H locs cells slots (lw_Z below #[Value.ref b] s) (F0 m 1167 ls []) := by
  obtain ⟨hx, hb, hr, hml, hown, hts, hX, hbl, hlocks, hgv⟩ := id C0
  have hb : c.code = cL_law := hb

  obtain ⟨σ1, w1, hp1, z1, v1, v2, v3, v4, v5⟩ := law_args hp ((.ofNat 0), (.ofNat 0)) (xs (i + 1)) (xs (i + 2)) (xs (i + 3)) (xs (i + 4)) (xs (i + 5)) (by rw [hv]; decide) (by rw [hv]; decide)
  refine lv_aload_n hx hb dL_law_1167 rfl (lv_at hl 2 rfl) ?_
  refine law_ld (k := 1) hx hb hX hbl hbA hp.2.2.2.1 hl hL hi (by decide) (by decide) dL_law_1168 dL_law_1169 dL_law_1170 dL_law_1171 dL_law_1172 ?_
  refine law_op (st2 := [.int (xs (i + 1)), .ref (ρ 1)]) hc hl.1 hp1 hcs sxmI481 sxmI459 (ix1 := 159) (ix2 := 162) rfl rfl w1 lawk_back_0 dL_law_1173 dL_law_1183 (by decide) (by show _ = ([sx_val σ1 ρ (2, 0, 0), sx_val σ1 ρ (0, 0, 0)] : List Value).reverse; rw [show sx_val σ1 ρ (0, 0, 0) = .int (xs (i + 1)) by rw [hv]; show Value.int (Int32.ofInt (σ1 0 + 0)) = _; rw [z1]; rfl]; rfl) (by show _ = ([sx_val σ1 ρ (2, 1, 0), sx_val σ1 ρ (0, 0, 0)] : List Value).reverse; rw [show sx_val σ1 ρ (0, 0, 0) = .int (xs (i + 1)) by rw [hv]; show Value.int (Int32.ofInt (σ1 0 + 0)) = _; rw [z1]; rfl]; rfl) (fun H1 locs1 hS1 v k => ?_) (fun σ2 ρ2 φ2 w2 H2 locs2 v e0 e1 hp2 => ?_)
  · refine lv_pop hx hb dL_law_1176 rfl ?_
    refine lv_aload_n hx hb dL_law_1177 rfl (lv_at hl 1 rfl) ?_
    refine law_ld (k := 1) hx hb hX hbl hbA hS1 hl hL hi (by decide) (by decide) dL_law_1178 dL_law_1179 dL_law_1180 dL_law_1181 dL_law_1182 ?_
    exact k
  · refine lv_pop hx hb dL_law_1186 rfl ?_
    refine lv_goto (tgt := 1190) hx hb dL_law_1187 (by decide) ?_
    exact next σ2 ρ2 φ2 w2 H2 locs2 e0 e1 hp2
theorem law_back_1 {p : Program} {l : Launch} {e : Env} {s : State} {m : MethodId} {below : List Frame} {meth : Method} {c : Code} {b L : Nat} {xs : Nat → Int32} {dC : Nat → ClassId} {dI : Nat → Nat → Nat} {kA : Nat → ClassId} {A : Nat → Prop} (C0 : lw_At p s m meth c b L xs) (hc : lc_cx l p s m #[Value.ref b] c dC dI kA A s.heap) (hbA : ¬ A b) {cells slots : Nat} (hcs : cells ≤ 600000 ∧ slots ≤ 7302249) {i : Nat} (hi : i + 6 ≤ L) (hL : L ≤ 3072) {τ : Nat → Option Nat} {σ : sxV} {ρ : sxR} {φ : sxF} {ws : va_W} {H : Heap} {locs : List Loc} {ls : Array Slot} (hp : lc_hp sxPF s dC dI kA A τ s.heap sxP0 σ ρ φ ws H locs) (hl : lv_has ls 4 [(3, .int (nI i)), (2, .ref (ρ 1)), (1, .ref (ρ 0)), (0, .ref b)]) (hv : xs (i + 1) = (1 : Int32)) (next : ∀ σ' ρ' φ' w1 H1 locs1, ρ' 0 = ρ 0 → ρ' 1 = ρ 1 → lc_hp sxPF s dC dI kA A τ s.heap sxP0 σ' ρ' φ' w1 H1 locs1 → W p l e room_1 s m #[Value.ref b] below meth c H1 locs1 cells slots (lw_Z below #[Value.ref b] s) (F0 m 1190 ls [])) : W p l e room_1 s m #[Value.ref b] below meth c H locs cells slots (lw_Z below #[Value.ref b] s) (F0 m 1167 ls []) := by
  obtain ⟨hx, hb, hr, hml, hown, hts, hX, hbl, hlocks, hgv⟩ := id C0
  have hb : c.code = cL_law := hb

  obtain ⟨σ1, w1, hp1, z1, v1, v2, v3, v4, v5⟩ := law_args hp ((.ofNat 1), (.ofNat 1)) (xs (i + 1)) (xs (i + 2)) (xs (i + 3)) (xs (i + 4)) (xs (i + 5)) (by rw [hv]; decide) (by rw [hv]; decide)
  refine lv_aload_n hx hb dL_law_1167 rfl (lv_at hl 2 rfl) ?_
  refine law_ld (k := 1) hx hb hX hbl hbA hp.2.2.2.1 hl hL hi (by decide) (by decide) dL_law_1168 dL_law_1169 dL_law_1170 dL_law_1171 dL_law_1172 ?_
  refine law_op (st2 := [.int (xs (i + 1)), .ref (ρ 1)]) hc hl.1 hp1 hcs sxmI483 sxmI460 (ix1 := 159) (ix2 := 162) rfl rfl w1 lawk_back_1 dL_law_1173 dL_law_1183 (by decide) (by show _ = ([sx_val σ1 ρ (2, 0, 0), sx_val σ1 ρ (0, 0, 1)] : List Value).reverse; rw [show sx_val σ1 ρ (0, 0, 1) = .int (xs (i + 1)) by rw [hv]; show Value.int (Int32.ofInt (σ1 0 + 1)) = _; rw [z1]; rfl]; rfl) (by show _ = ([sx_val σ1 ρ (2, 1, 0), sx_val σ1 ρ (0, 0, 1)] : List Value).reverse; rw [show sx_val σ1 ρ (0, 0, 1) = .int (xs (i + 1)) by rw [hv]; show Value.int (Int32.ofInt (σ1 0 + 1)) = _; rw [z1]; rfl]; rfl) (fun H1 locs1 hS1 v k => ?_) (fun σ2 ρ2 φ2 w2 H2 locs2 v e0 e1 hp2 => ?_)
  · refine lv_pop hx hb dL_law_1176 rfl ?_
    refine lv_aload_n hx hb dL_law_1177 rfl (lv_at hl 1 rfl) ?_
    refine law_ld (k := 1) hx hb hX hbl hbA hS1 hl hL hi (by decide) (by decide) dL_law_1178 dL_law_1179 dL_law_1180 dL_law_1181 dL_law_1182 ?_
    exact k
  · refine lv_pop hx hb dL_law_1186 rfl ?_
    refine lv_goto (tgt := 1190) hx hb dL_law_1187 (by decide) ?_
    exact next σ2 ρ2 φ2 w2 H2 locs2 e0 e1 hp2
theorem law_back_2 {p : Program} {l : Launch} {e : Env} {s : State} {m : MethodId} {below : List Frame} {meth : Method} {c : Code} {b L : Nat} {xs : Nat → Int32} {dC : Nat → ClassId} {dI : Nat → Nat → Nat} {kA : Nat → ClassId} {A : Nat → Prop} (C0 : lw_At p s m meth c b L xs) (hc : lc_cx l p s m #[Value.ref b] c dC dI kA A s.heap) (hbA : ¬ A b) {cells slots : Nat} (hcs : cells ≤ 600000 ∧ slots ≤ 7302249) {i : Nat} (hi : i + 6 ≤ L) (hL : L ≤ 3072) {τ : Nat → Option Nat} {σ : sxV} {ρ : sxR} {φ : sxF} {ws : va_W} {H : Heap} {locs : List Loc} {ls : Array Slot} (hp : lc_hp sxPF s dC dI kA A τ s.heap sxP0 σ ρ φ ws H locs) (hl : lv_has ls 4 [(3, .int (nI i)), (2, .ref (ρ 1)), (1, .ref (ρ 0)), (0, .ref b)]) (hv : xs (i + 1) = (2 : Int32)) (next : ∀ σ' ρ' φ' w1 H1 locs1, ρ' 0 = ρ 0 → ρ' 1 = ρ 1 → lc_hp sxPF s dC dI kA A τ s.heap sxP0 σ' ρ' φ' w1 H1 locs1 → W p l e room_1 s m #[Value.ref b] below meth c H1 locs1 cells slots (lw_Z below #[Value.ref b] s) (F0 m 1190 ls [])) : W p l e room_1 s m #[Value.ref b] below meth c H locs cells slots (lw_Z below #[Value.ref b] s) (F0 m 1167 ls []) := by
  obtain ⟨hx, hb, hr, hml, hown, hts, hX, hbl, hlocks, hgv⟩ := id C0
  have hb : c.code = cL_law := hb

  obtain ⟨σ1, w1, hp1, z1, v1, v2, v3, v4, v5⟩ := law_args hp ((.ofNat 2), (.ofNat 2)) (xs (i + 1)) (xs (i + 2)) (xs (i + 3)) (xs (i + 4)) (xs (i + 5)) (by rw [hv]; decide) (by rw [hv]; decide)
  refine lv_aload_n hx hb dL_law_1167 rfl (lv_at hl 2 rfl) ?_
  refine law_ld (k := 1) hx hb hX hbl hbA hp.2.2.2.1 hl hL hi (by decide) (by decide) dL_law_1168 dL_law_1169 dL_law_1170 dL_law_1171 dL_law_1172 ?_
  refine law_op (st2 := [.int (xs (i + 1)), .ref (ρ 1)]) hc hl.1 hp1 hcs sxmI485 sxmI461 (ix1 := 159) (ix2 := 162) rfl rfl w1 lawk_back_2 dL_law_1173 dL_law_1183 (by decide) (by show _ = ([sx_val σ1 ρ (2, 0, 0), sx_val σ1 ρ (0, 0, 2)] : List Value).reverse; rw [show sx_val σ1 ρ (0, 0, 2) = .int (xs (i + 1)) by rw [hv]; show Value.int (Int32.ofInt (σ1 0 + 2)) = _; rw [z1]; rfl]; rfl) (by show _ = ([sx_val σ1 ρ (2, 1, 0), sx_val σ1 ρ (0, 0, 2)] : List Value).reverse; rw [show sx_val σ1 ρ (0, 0, 2) = .int (xs (i + 1)) by rw [hv]; show Value.int (Int32.ofInt (σ1 0 + 2)) = _; rw [z1]; rfl]; rfl) (fun H1 locs1 hS1 v k => ?_) (fun σ2 ρ2 φ2 w2 H2 locs2 v e0 e1 hp2 => ?_)
  · refine lv_pop hx hb dL_law_1176 rfl ?_
    refine lv_aload_n hx hb dL_law_1177 rfl (lv_at hl 1 rfl) ?_
    refine law_ld (k := 1) hx hb hX hbl hbA hS1 hl hL hi (by decide) (by decide) dL_law_1178 dL_law_1179 dL_law_1180 dL_law_1181 dL_law_1182 ?_
    exact k
  · refine lv_pop hx hb dL_law_1186 rfl ?_
    refine lv_goto (tgt := 1190) hx hb dL_law_1187 (by decide) ?_
    exact next σ2 ρ2 φ2 w2 H2 locs2 e0 e1 hp2
theorem law_back_3 {p : Program} {l : Launch} {e : Env} {s : State} {m : MethodId} {below : List Frame} {meth : Method} {c : Code} {b L : Nat} {xs : Nat → Int32} {dC : Nat → ClassId} {dI : Nat → Nat → Nat} {kA : Nat → ClassId} {A : Nat → Prop} (C0 : lw_At p s m meth c b L xs) (hc : lc_cx l p s m #[Value.ref b] c dC dI kA A s.heap) (hbA : ¬ A b) {cells slots : Nat} (hcs : cells ≤ 600000 ∧ slots ≤ 7302249) {i : Nat} (hi : i + 6 ≤ L) (hL : L ≤ 3072) {τ : Nat → Option Nat} {σ : sxV} {ρ : sxR} {φ : sxF} {ws : va_W} {H : Heap} {locs : List Loc} {ls : Array Slot} (hp : lc_hp sxPF s dC dI kA A τ s.heap sxP0 σ ρ φ ws H locs) (hl : lv_has ls 4 [(3, .int (nI i)), (2, .ref (ρ 1)), (1, .ref (ρ 0)), (0, .ref b)]) (hv : xs (i + 1) = (3 : Int32)) (next : ∀ σ' ρ' φ' w1 H1 locs1, ρ' 0 = ρ 0 → ρ' 1 = ρ 1 → lc_hp sxPF s dC dI kA A τ s.heap sxP0 σ' ρ' φ' w1 H1 locs1 → W p l e room_1 s m #[Value.ref b] below meth c H1 locs1 cells slots (lw_Z below #[Value.ref b] s) (F0 m 1190 ls [])) : W p l e room_1 s m #[Value.ref b] below meth c H locs cells slots (lw_Z below #[Value.ref b] s) (F0 m 1167 ls []) := by
  obtain ⟨hx, hb, hr, hml, hown, hts, hX, hbl, hlocks, hgv⟩ := id C0
  have hb : c.code = cL_law := hb

  obtain ⟨σ1, w1, hp1, z1, v1, v2, v3, v4, v5⟩ := law_args hp ((.ofNat 3), (.ofNat 3)) (xs (i + 1)) (xs (i + 2)) (xs (i + 3)) (xs (i + 4)) (xs (i + 5)) (by rw [hv]; decide) (by rw [hv]; decide)
  refine lv_aload_n hx hb dL_law_1167 rfl (lv_at hl 2 rfl) ?_
  refine law_ld (k := 1) hx hb hX hbl hbA hp.2.2.2.1 hl hL hi (by decide) (by decide) dL_law_1168 dL_law_1169 dL_law_1170 dL_law_1171 dL_law_1172 ?_
  refine law_op (st2 := [.int (xs (i + 1)), .ref (ρ 1)]) hc hl.1 hp1 hcs sxmI487 sxmI462 (ix1 := 159) (ix2 := 162) rfl rfl w1 lawk_back_3 dL_law_1173 dL_law_1183 (by decide) (by show _ = ([sx_val σ1 ρ (2, 0, 0), sx_val σ1 ρ (0, 0, 3)] : List Value).reverse; rw [show sx_val σ1 ρ (0, 0, 3) = .int (xs (i + 1)) by rw [hv]; show Value.int (Int32.ofInt (σ1 0 + 3)) = _; rw [z1]; rfl]; rfl) (by show _ = ([sx_val σ1 ρ (2, 1, 0), sx_val σ1 ρ (0, 0, 3)] : List Value).reverse; rw [show sx_val σ1 ρ (0, 0, 3) = .int (xs (i + 1)) by rw [hv]; show Value.int (Int32.ofInt (σ1 0 + 3)) = _; rw [z1]; rfl]; rfl) (fun H1 locs1 hS1 v k => ?_) (fun σ2 ρ2 φ2 w2 H2 locs2 v e0 e1 hp2 => ?_)
  · refine lv_pop hx hb dL_law_1176 rfl ?_
    refine lv_aload_n hx hb dL_law_1177 rfl (lv_at hl 1 rfl) ?_
    refine law_ld (k := 1) hx hb hX hbl hbA hS1 hl hL hi (by decide) (by decide) dL_law_1178 dL_law_1179 dL_law_1180 dL_law_1181 dL_law_1182 ?_
    exact k
  · refine lv_pop hx hb dL_law_1186 rfl ?_
    refine lv_goto (tgt := 1190) hx hb dL_law_1187 (by decide) ?_
    exact next σ2 ρ2 φ2 w2 H2 locs2 e0 e1 hp2
theorem law_back_4 {p : Program} {l : Launch} {e : Env} {s : State} {m : MethodId} {below : List Frame} {meth : Method} {c : Code} {b L : Nat} {xs : Nat → Int32} {dC : Nat → ClassId} {dI : Nat → Nat → Nat} {kA : Nat → ClassId} {A : Nat → Prop} (C0 : lw_At p s m meth c b L xs) (hc : lc_cx l p s m #[Value.ref b] c dC dI kA A s.heap) (hbA : ¬ A b) {cells slots : Nat} (hcs : cells ≤ 600000 ∧ slots ≤ 7302249) {i : Nat} (hi : i + 6 ≤ L) (hL : L ≤ 3072) {τ : Nat → Option Nat} {σ : sxV} {ρ : sxR} {φ : sxF} {ws : va_W} {H : Heap} {locs : List Loc} {ls : Array Slot} (hp : lc_hp sxPF s dC dI kA A τ s.heap sxP0 σ ρ φ ws H locs) (hl : lv_has ls 4 [(3, .int (nI i)), (2, .ref (ρ 1)), (1, .ref (ρ 0)), (0, .ref b)]) (hv : (-2147483648) ≤ (xs (i + 1)).toInt ∧ (xs (i + 1)).toInt ≤ (-1)) (next : ∀ σ' ρ' φ' w1 H1 locs1, ρ' 0 = ρ 0 → ρ' 1 = ρ 1 → lc_hp sxPF s dC dI kA A τ s.heap sxP0 σ' ρ' φ' w1 H1 locs1 → W p l e room_1 s m #[Value.ref b] below meth c H1 locs1 cells slots (lw_Z below #[Value.ref b] s) (F0 m 1190 ls [])) : W p l e room_1 s m #[Value.ref b] below meth c H locs cells slots (lw_Z below #[Value.ref b] s) (F0 m 1167 ls []) := by
  obtain ⟨hx, hb, hr, hml, hown, hts, hX, hbl, hlocks, hgv⟩ := id C0
  have hb : c.code = cL_law := hb

  obtain ⟨σ1, w1, hp1, z1, v1, v2, v3, v4, v5⟩ := law_args hp ((.negSucc 2147483647), (.negSucc 0)) (xs (i + 1)) (xs (i + 2)) (xs (i + 3)) (xs (i + 4)) (xs (i + 5)) hv.1 hv.2
  refine lv_aload_n hx hb dL_law_1167 rfl (lv_at hl 2 rfl) ?_
  refine law_ld (k := 1) hx hb hX hbl hbA hp.2.2.2.1 hl hL hi (by decide) (by decide) dL_law_1168 dL_law_1169 dL_law_1170 dL_law_1171 dL_law_1172 ?_
  refine law_op (st2 := [.int (xs (i + 1)), .ref (ρ 1)]) hc hl.1 hp1 hcs sxmI488 sxmI463 (ix1 := 159) (ix2 := 162) rfl rfl w1 lawk_back_4 dL_law_1173 dL_law_1183 (by decide) (by show _ = ([sx_val σ1 ρ (2, 0, 0), sx_val σ1 ρ (0, 16, 0)] : List Value).reverse; rw [v1]; rfl) (by show _ = ([sx_val σ1 ρ (2, 1, 0), sx_val σ1 ρ (0, 16, 0)] : List Value).reverse; rw [v1]; rfl) (fun H1 locs1 hS1 v k => ?_) (fun σ2 ρ2 φ2 w2 H2 locs2 v e0 e1 hp2 => ?_)
  · refine lv_pop hx hb dL_law_1176 rfl ?_
    refine lv_aload_n hx hb dL_law_1177 rfl (lv_at hl 1 rfl) ?_
    refine law_ld (k := 1) hx hb hX hbl hbA hS1 hl hL hi (by decide) (by decide) dL_law_1178 dL_law_1179 dL_law_1180 dL_law_1181 dL_law_1182 ?_
    exact k
  · refine lv_pop hx hb dL_law_1186 rfl ?_
    refine lv_goto (tgt := 1190) hx hb dL_law_1187 (by decide) ?_
    exact next σ2 ρ2 φ2 w2 H2 locs2 e0 e1 hp2
theorem law_back_5 {p : Program} {l : Launch} {e : Env} {s : State} {m : MethodId} {below : List Frame} {meth : Method} {c : Code} {b L : Nat} {xs : Nat → Int32} {dC : Nat → ClassId} {dI : Nat → Nat → Nat} {kA : Nat → ClassId} {A : Nat → Prop} (C0 : lw_At p s m meth c b L xs) (hc : lc_cx l p s m #[Value.ref b] c dC dI kA A s.heap) (hbA : ¬ A b) {cells slots : Nat} (hcs : cells ≤ 600000 ∧ slots ≤ 7302249) {i : Nat} (hi : i + 6 ≤ L) (hL : L ≤ 3072) {τ : Nat → Option Nat} {σ : sxV} {ρ : sxR} {φ : sxF} {ws : va_W} {H : Heap} {locs : List Loc} {ls : Array Slot} (hp : lc_hp sxPF s dC dI kA A τ s.heap sxP0 σ ρ φ ws H locs) (hl : lv_has ls 4 [(3, .int (nI i)), (2, .ref (ρ 1)), (1, .ref (ρ 0)), (0, .ref b)]) (hv : (4) ≤ (xs (i + 1)).toInt ∧ (xs (i + 1)).toInt ≤ (2147483647)) (next : ∀ σ' ρ' φ' w1 H1 locs1, ρ' 0 = ρ 0 → ρ' 1 = ρ 1 → lc_hp sxPF s dC dI kA A τ s.heap sxP0 σ' ρ' φ' w1 H1 locs1 → W p l e room_1 s m #[Value.ref b] below meth c H1 locs1 cells slots (lw_Z below #[Value.ref b] s) (F0 m 1190 ls [])) : W p l e room_1 s m #[Value.ref b] below meth c H locs cells slots (lw_Z below #[Value.ref b] s) (F0 m 1167 ls []) := by
  obtain ⟨hx, hb, hr, hml, hown, hts, hX, hbl, hlocks, hgv⟩ := id C0
  have hb : c.code = cL_law := hb

  obtain ⟨σ1, w1, hp1, z1, v1, v2, v3, v4, v5⟩ := law_args hp ((.ofNat 4), (.ofNat 2147483647)) (xs (i + 1)) (xs (i + 2)) (xs (i + 3)) (xs (i + 4)) (xs (i + 5)) hv.1 hv.2
  refine lv_aload_n hx hb dL_law_1167 rfl (lv_at hl 2 rfl) ?_
  refine law_ld (k := 1) hx hb hX hbl hbA hp.2.2.2.1 hl hL hi (by decide) (by decide) dL_law_1168 dL_law_1169 dL_law_1170 dL_law_1171 dL_law_1172 ?_
  refine law_op (st2 := [.int (xs (i + 1)), .ref (ρ 1)]) hc hl.1 hp1 hcs sxmI489 sxmI464 (ix1 := 159) (ix2 := 162) rfl rfl w1 lawk_back_5 dL_law_1173 dL_law_1183 (by decide) (by show _ = ([sx_val σ1 ρ (2, 0, 0), sx_val σ1 ρ (0, 16, 0)] : List Value).reverse; rw [v1]; rfl) (by show _ = ([sx_val σ1 ρ (2, 1, 0), sx_val σ1 ρ (0, 16, 0)] : List Value).reverse; rw [v1]; rfl) (fun H1 locs1 hS1 v k => ?_) (fun σ2 ρ2 φ2 w2 H2 locs2 v e0 e1 hp2 => ?_)
  · refine lv_pop hx hb dL_law_1176 rfl ?_
    refine lv_aload_n hx hb dL_law_1177 rfl (lv_at hl 1 rfl) ?_
    refine law_ld (k := 1) hx hb hX hbl hbA hS1 hl hL hi (by decide) (by decide) dL_law_1178 dL_law_1179 dL_law_1180 dL_law_1181 dL_law_1182 ?_
    exact k
  · refine lv_pop hx hb dL_law_1186 rfl ?_
    refine lv_goto (tgt := 1190) hx hb dL_law_1187 (by decide) ?_
    exact next σ2 ρ2 φ2 w2 H2 locs2 e0 e1 hp2
