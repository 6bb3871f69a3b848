/-! the lemmas: their cores -/
theorem P6.ne {t v : Int} {c d : Nat → Int} (h : P6 t v c d) {j : Nat} (hj : (j : Int) ≠ t) : d j = c j := by
  have h1 := h.1
  rw [h.2 j, if_neg (by omega)]
theorem P6.eq {t v : Int} {c d : Nat → Int} (h : P6 t v c d) {j : Nat} (hj : (j : Int) = t) : d j = v := by
  have h1 := h.1
  rw [h.2 j, if_pos (by omega)]
theorem P5.at {t v : Int} {c : Nat → Int} (h : P5 t v c) {j : Nat} (hj : (j : Int) = t) : c j = v := by
  have e : j = t.toNat := by omega
  rw [e]
  exact h.2
theorem lc_sxLa (vx vy vr : Int) (b_x : (-2147483648) ≤ vx ∧ vx ≤ 2147483647) (b_y : 0 ≤ vy ∧ vy ≤ 2147483647) (b_r : (-2147483648) ≤ vr ∧ vr ≤ 2147483647) (p1 : vr = (Int32.ofInt vx &&& Int32.ofInt vy).toInt) : 0 ≤ 1 * vy + (-1) * vr + 0 := by
  have t := t_of32 (n := vy) (by omega) (by omega)
  have q := t_and_le (Int32.ofInt vx) (Int32.ofInt vy) (by rw [t]; omega)
  rw [← p1, t] at q
  omega
theorem lc_rd3 (vf vn vm vv : Int) (cc : Nat → Int) (b_f : 0 ≤ vf ∧ vf ≤ 1) (b_n : 0 ≤ vn ∧ vn ≤ 7) (b_m : 0 ≤ vm ∧ vm ≤ 8) (b_v : (-2147483648) ≤ vv ∧ vv ≤ 2147483647) (p1 : SDp vf vn vm cc) (p2 : P5 3 vv cc) : (0 ≤ 1 * vv + (-1) * vn + 0) ∧ (0 ≤ 1 * vn + (-1) * vv + 0) := by
  have e := p1.1
  have q := p2.at (j := 3) rfl
  omega
theorem lc_rd4 (vf vn vm vv : Int) (cc : Nat → Int) (b_f : 0 ≤ vf ∧ vf ≤ 1) (b_n : 0 ≤ vn ∧ vn ≤ 7) (b_m : 0 ≤ vm ∧ vm ≤ 8) (b_v : (-2147483648) ≤ vv ∧ vv ≤ 2147483647) (p1 : SDp vf vn vm cc) (p2 : P5 4 vv cc) : (0 ≤ 1 * vv + (-1) * vm + 0) ∧ (0 ≤ 1 * vm + (-1) * vv + 0) := by
  have e := p1.2.1
  have q := p2.at (j := 4) rfl
  omega
theorem lc_rd107 (vf vn vm vv : Int) (cc : Nat → Int) (b_f : 0 ≤ vf ∧ vf ≤ 1) (b_n : 0 ≤ vn ∧ vn ≤ 7) (b_m : 0 ≤ vm ∧ vm ≤ 8) (b_v : (-2147483648) ≤ vv ∧ vv ≤ 2147483647) (p1 : SDp vf vn vm cc) (p2 : P5 107 vv cc) : (0 ≤ 1 * vv + 0) ∧ (0 ≤ (-1) * vv + 10) := by
  have e := p1.2.2.2.2.1
  have q := p2.at (j := 107) rfl
  omega
theorem lc_rdon (vf vn vm vt vv : Int) (cc : Nat → Int) (b_f : 0 ≤ vf ∧ vf ≤ 1) (b_n : 0 ≤ vn ∧ vn ≤ 7) (b_m : 0 ≤ vm ∧ vm ≤ 8) (b_t : 11 ≤ vt ∧ vt ≤ 17) (b_v : (-2147483648) ≤ vv ∧ vv ≤ 2147483647) (p1 : SDp vf vn vm cc) (p2 : P5 vt vv cc) : (0 ≤ 1 * vv + 0) ∧ (0 ≤ (-1) * vv + 6) := by
  obtain ⟨a1, a2, a3, a4, a5, a6, a7, a8, a9⟩ := p1
  have e := a6 (vt.toNat - 11) (by omega)
  have q := p2.at (j := 11 + (vt.toNat - 11)) (by omega)
  omega
theorem lc_rdnote (vf vn vm vt vv vq : Int) (cc : Nat → Int) (b_f : 0 ≤ vf ∧ vf ≤ 1) (b_n : 0 ≤ vn ∧ vn ≤ 7) (b_m : 0 ≤ vm ∧ vm ≤ 8) (b_t : 78 ≤ vt ∧ vt ≤ 107) (b_v : (-2147483648) ≤ vv ∧ vv ≤ 2147483647) (b_q : 0 ≤ vq ∧ vq ≤ 10) (f1 : 0 ≤ 1 * vt + (-3) * vq + (-78)) (f2 : 0 ≤ (-1) * vt + 3 * vq + 78) (p1 : SDp vf vn vm cc) (p2 : P5 vt vv cc) : (0 ≤ 1 * vv + 0) ∧ (0 ≤ (-1) * vv + 6) := by
  obtain ⟨a1, a2, a3, a4, a5, a6, a7, a8, a9⟩ := p1
  have e := a8 vq.toNat (by omega)
  have q := p2.at (j := 78 + 3 * vq.toNat) (by omega)
  omega
theorem lc_rdmix (vf vn vm vt vv vi vj : Int) (cc : Nat → Int) (b_f : 0 ≤ vf ∧ vf ≤ 1) (b_n : 0 ≤ vn ∧ vn ≤ 7) (b_m : 0 ≤ vm ∧ vm ≤ 8) (b_t : (-2147483648) ≤ vt ∧ vt ≤ 2147483647) (b_v : (-2147483648) ≤ vv ∧ vv ≤ 2147483647) (b_i : 0 ≤ vi ∧ vi ≤ 7) (b_j : 1 ≤ vj ∧ vj ≤ 2) (f1 : 0 ≤ 1 * vt + (-3) * vi + (-1) * vj + (-53)) (f2 : 0 ≤ (-1) * vt + 3 * vi + 1 * vj + 53) (f3 : 0 ≤ 1 * vm + (-1) * vi + (-1)) (p1 : SDp vf vn vm cc) (p2 : P5 vt vv cc) : (0 ≤ 1 * vv + 0) ∧ (0 ≤ (-1) * vv + 1 * vn + (-1)) := by
  obtain ⟨a1, a2, a3, a4, a5, a6, a7, a8, a9⟩ := p1
  have e := a7 vi.toNat (by omega)
  rcases (show vj = 1 ∨ vj = 2 by omega) with h | h
  · have q := p2.at (j := 54 + 3 * vi.toNat) (by omega)
    omega
  · have q := p2.at (j := 55 + 3 * vi.toNat) (by omega)
    omega
theorem sd_upd {f n m t v : Int} {c d : Nat → Int} (h : SDp f n m c) (u : P6 t v c d) (h3 : t ≠ 3) (h4 : t ≠ 4) (h107 : t = 107 → 0 ≤ v ∧ v ≤ 10) (hon : 11 ≤ t → t ≤ 17 → 0 ≤ v ∧ v ≤ 6) (hmx : ¬ (53 ≤ t ∧ t ≤ 76)) (hns : ∀ k : Nat, k < 10 → t = 78 + 3 * k → 0 ≤ v ∧ v ≤ 6) (hpm : f = 1 → ¬ (11 ≤ t ∧ t ≤ 17)) : SDp f n m d := by
  obtain ⟨a1, a2, a3, a4, a5, a6, a7, a8, a9⟩ := h
  have q : ∀ j : Nat, (j : Int) ≠ t → d j = c j := fun j hj => u.ne hj
  refine ⟨?_, ?_, a3, a4, ?_, fun i hi => ?_, fun k hk => ?_, fun k hk => ?_, fun hf x hx => ?_⟩
  · rw [q 3 (by omega)]
    exact a1
  · rw [q 4 (by omega)]
    exact a2
  · by_cases e : t = 107
    · rw [u.eq (j := 107) (by omega)]
      exact h107 e
    · rw [q 107 (by omega)]
      exact a5
  · by_cases e : ((11 + i : Nat) : Int) = t
    · rw [u.eq e]
      exact hon (by omega) (by omega)
    · rw [q _ e]
      exact a6 i hi
  · have b := a7 k hk
    rw [q (54 + 3 * k) (by omega), q (55 + 3 * k) (by omega)]
    exact b
  · by_cases e : ((78 + 3 * k : Nat) : Int) = t
    · rw [u.eq e]
      exact hns k hk (by omega)
    · rw [q _ e]
      exact a8 k hk
  · obtain ⟨b, hb, e⟩ := a9 hf x hx
    have hp := hpm hf
    exact ⟨b, hb, by rw [q _ (by omega)]; exact e⟩
theorem sd_weak {f n m : Int} {c : Nat → Int} (h : SDp f n m c) : SDp 0 n m c := ⟨h.1, h.2.1, h.2.2.1, h.2.2.2.1, h.2.2.2.2.1, h.2.2.2.2.2.1, h.2.2.2.2.2.2.1, h.2.2.2.2.2.2.2.1, fun e => absurd e (by decide)⟩
theorem lc_uplo (vf vn vm vt vv : Int) (cc cd : Nat → Int) (b_f : 0 ≤ vf ∧ vf ≤ 1) (b_n : 0 ≤ vn ∧ vn ≤ 7) (b_m : 0 ≤ vm ∧ vm ≤ 8) (b_t : 5 ≤ vt ∧ vt ≤ 10) (b_v : (-2147483648) ≤ vv ∧ vv ≤ 2147483647) (p1 : SDp vf vn vm cc) (p2 : P6 vt vv cc cd) : SDp vf vn vm cd := by
  exact sd_upd p1 p2 (by omega) (by omega) (fun _ => by omega) (fun _ _ => by omega) (by omega) (fun k _ _ => by omega) (fun _ => by omega)
theorem lc_uphi (vf vn vm vt vv : Int) (cc cd : Nat → Int) (b_f : 0 ≤ vf ∧ vf ≤ 1) (b_n : 0 ≤ vn ∧ vn ≤ 7) (b_m : 0 ≤ vm ∧ vm ≤ 8) (b_t : 18 ≤ vt ∧ vt ≤ 52) (b_v : (-2147483648) ≤ vv ∧ vv ≤ 2147483647) (p1 : SDp vf vn vm cc) (p2 : P6 vt vv cc cd) : SDp vf vn vm cd := by
  exact sd_upd p1 p2 (by omega) (by omega) (fun _ => by omega) (fun _ _ => by omega) (by omega) (fun k _ _ => by omega) (fun _ => by omega)
theorem lc_up107 (vf vn vm vv : Int) (cc cd : Nat → Int) (b_f : 0 ≤ vf ∧ vf ≤ 1) (b_n : 0 ≤ vn ∧ vn ≤ 7) (b_m : 0 ≤ vm ∧ vm ≤ 8) (b_v : 0 ≤ vv ∧ vv ≤ 10) (p1 : SDp vf vn vm cc) (p2 : P6 107 vv cc cd) : SDp vf vn vm cd := by
  exact sd_upd p1 p2 (by omega) (by omega) (fun _ => by omega) (fun _ _ => by omega) (by omega) (fun k _ _ => by omega) (fun _ => by omega)
theorem lc_upn0 (vf vn vm vt vv vq : Int) (cc cd : Nat → Int) (b_f : 0 ≤ vf ∧ vf ≤ 1) (b_n : 0 ≤ vn ∧ vn ≤ 7) (b_m : 0 ≤ vm ∧ vm ≤ 8) (b_t : (-2147483648) ≤ vt ∧ vt ≤ 2147483647) (b_v : (-2147483648) ≤ vv ∧ vv ≤ 2147483647) (b_q : 0 ≤ vq ∧ vq ≤ 9) (f1 : 0 ≤ 1 * vt + (-3) * vq + (-77)) (f2 : 0 ≤ (-1) * vt + 3 * vq + 77) (p1 : SDp vf vn vm cc) (p2 : P6 vt vv cc cd) : SDp vf vn vm cd := by
  exact sd_upd p1 p2 (by omega) (by omega) (fun _ => by omega) (fun _ _ => by omega) (by omega) (fun k _ _ => by omega) (fun _ => by omega)
theorem lc_upn1 (vf vn vm vt vv vq : Int) (cc cd : Nat → Int) (b_f : 0 ≤ vf ∧ vf ≤ 1) (b_n : 0 ≤ vn ∧ vn ≤ 7) (b_m : 0 ≤ vm ∧ vm ≤ 8) (b_t : (-2147483648) ≤ vt ∧ vt ≤ 2147483647) (b_v : 0 ≤ vv ∧ vv ≤ 6) (b_q : 0 ≤ vq ∧ vq ≤ 9) (f1 : 0 ≤ 1 * vt + (-3) * vq + (-78)) (f2 : 0 ≤ (-1) * vt + 3 * vq + 78) (p1 : SDp vf vn vm cc) (p2 : P6 vt vv cc cd) : SDp vf vn vm cd := by
  exact sd_upd p1 p2 (by omega) (by omega) (fun _ => by omega) (fun _ _ => by omega) (by omega) (fun k _ _ => by omega) (fun _ => by omega)
theorem lc_upn2 (vf vn vm vt vv vq : Int) (cc cd : Nat → Int) (b_f : 0 ≤ vf ∧ vf ≤ 1) (b_n : 0 ≤ vn ∧ vn ≤ 7) (b_m : 0 ≤ vm ∧ vm ≤ 8) (b_t : (-2147483648) ≤ vt ∧ vt ≤ 2147483647) (b_v : (-2147483648) ≤ vv ∧ vv ≤ 2147483647) (b_q : 0 ≤ vq ∧ vq ≤ 9) (f1 : 0 ≤ 1 * vt + (-3) * vq + (-79)) (f2 : 0 ≤ (-1) * vt + 3 * vq + 79) (p1 : SDp vf vn vm cc) (p2 : P6 vt vv cc cd) : SDp vf vn vm cd := by
  exact sd_upd p1 p2 (by omega) (by omega) (fun _ => by omega) (fun _ _ => by omega) (by omega) (fun k _ _ => by omega) (fun _ => by omega)
theorem lc_upon (vf vn vm vt vv : Int) (cc cd : Nat → Int) (b_f : 0 ≤ vf ∧ vf ≤ 1) (b_n : 0 ≤ vn ∧ vn ≤ 7) (b_m : 0 ≤ vm ∧ vm ≤ 8) (b_t : 11 ≤ vt ∧ vt ≤ 17) (b_v : 0 ≤ vv ∧ vv ≤ 6) (p1 : SDp vf vn vm cc) (p2 : P6 vt vv cc cd) : SDp 0 vn vm cd := by
  exact sd_upd (sd_weak p1) p2 (by omega) (by omega) (fun _ => by omega) (fun _ _ => by omega) (by omega) (fun k _ _ => by omega) (fun h => absurd h (by decide))
theorem lc_swap (vn vm va vb vs vv : Int) (cc cd ce : Nat → Int) (b_n : 0 ≤ vn ∧ vn ≤ 7) (b_m : 0 ≤ vm ∧ vm ≤ 8) (b_a : 0 ≤ va ∧ va ≤ 6) (b_b : 0 ≤ vb ∧ vb ≤ 6) (b_s : (-2147483648) ≤ vs ∧ vs ≤ 2147483647) (b_v : (-2147483648) ≤ vv ∧ vv ≤ 2147483647) (f1 : 0 ≤ 1 * vn + (-1) * va + (-1)) (f2 : 0 ≤ 1 * vn + (-1) * vb + (-1)) (p1 : SDp 1 vn vm cc) (p2 : P5 (va + 11) vs cc) (p3 : P5 (vb + 11) vv cc) (p4 : P6 (va + 11) vv cc cd) (p5 : P6 (vb + 11) vs cd ce) : SDp 1 vn vm ce := by
  obtain ⟨a1, a2, a3, a4, a5, a6, a7, a8, a9⟩ := p1
  have ha := p2.at (j := 11 + va.toNat) (by omega)
  have hb := p3.at (j := 11 + vb.toNat) (by omega)
  have q : ∀ j : Nat, (j : Int) ≠ va + 11 → (j : Int) ≠ vb + 11 → ce j = cc j := fun j h1 h2 => by rw [p5.ne h2, p4.ne h1]
  have qb : ce (11 + vb.toNat) = vs := p5.eq (by omega)
  have qa : va ≠ vb → ce (11 + va.toNat) = vv := fun h => by rw [p5.ne (by omega)]; exact p4.eq (by omega)
  have oa := a6 va.toNat (by omega)
  have ob := a6 vb.toNat (by omega)
  refine ⟨?_, ?_, a3, a4, ?_, fun i hi => ?_, fun k hk => ?_, fun k hk => ?_, fun hf x hx => ?_⟩
  · rw [q 3 (by omega) (by omega)]
    exact a1
  · rw [q 4 (by omega) (by omega)]
    exact a2
  · rw [q 107 (by omega) (by omega)]
    exact a5
  · by_cases e : i = vb.toNat
    · rw [e, qb]
      omega
    · by_cases e2 : i = va.toNat
      · rw [e2, qa (by omega)]
        omega
      · rw [q _ (by omega) (by omega)]
        exact a6 i hi
  · have b := a7 k hk
    rw [q (54 + 3 * k) (by omega) (by omega), q (55 + 3 * k) (by omega) (by omega)]
    exact b
  · rw [q _ (by omega) (by omega)]
    exact a8 k hk
  · obtain ⟨b, hb1, e⟩ := a9 hf x hx
    by_cases e1 : b = va.toNat
    · exact ⟨vb.toNat, by omega, by rw [qb, ← ha, ← e1]; exact e⟩
    · by_cases e2 : b = vb.toNat
      · exact ⟨va.toNat, by omega, by rw [qa (by omega), ← hb, ← e2]; exact e⟩
      · exact ⟨b, hb1, by rw [q _ (by omega) (by omega)]; exact e⟩
theorem lc_nf0 (vs : Int) (cc : Nat → Int) (b_s : (-2147483648) ≤ vs ∧ vs ≤ 2147483647) : NFp 0 vs cc := by
  exact fun i hi => by omega
theorem lc_nf1 (vb vs vv : Int) (cc : Nat → Int) (b_b : 0 ≤ vb ∧ vb ≤ 6) (b_s : (-2147483648) ≤ vs ∧ vs ≤ 2147483647) (b_v : (-2147483648) ≤ vv ∧ vv ≤ 2147483647) (p1 : NFp vb vs cc) (p2 : P5 (vb + 11) vv cc) (p3 : vv ≠ vs) : NFp (vb + 1) vs cc := by
  intro i hi
  by_cases e : (i : Int) = vb
  · rw [p2.at (j := 11 + i) (by omega)]
    exact p3
  · exact p1 i (by omega)
theorem lc_nfe (vn vm vb vs : Int) (cc : Nat → Int) (b_n : 0 ≤ vn ∧ vn ≤ 7) (b_m : 0 ≤ vm ∧ vm ≤ 8) (b_b : 0 ≤ vb ∧ vb ≤ 7) (b_s : 0 ≤ vs ∧ vs ≤ 6) (f1 : 0 ≤ 1 * vn + (-1) * vs + (-1)) (p1 : SDp 1 vn vm cc) (p2 : NFp vb vs cc) : 0 ≤ 1 * vn + (-1) * vb + (-1) := by
  obtain ⟨a1, a2, a3, a4, a5, a6, a7, a8, a9⟩ := p1
  obtain ⟨b, hb, e⟩ := a9 rfl vs.toNat (by omega)
  by_cases h : (b : Int) < vb
  · exact absurd (by rw [e]; omega) (p2 b h)
  · omega
theorem of_toInt (x : Int32) : Int32.ofInt x.toInt = x := Int32.ofInt_toInt x
theorem bt_all : ∀ s : Fin 256, ∀ k : Fin 8, (Int32.ofInt (s.val : Int) >>> (Int32.ofInt (k.val : Int) &&& 31) &&& Int32.ofInt 1).toInt = 0 → (s.val : Int) + 1 ≤ (Int32.ofInt (s.val : Int) ||| (Int32.ofInt 1 <<< (Int32.ofInt (k.val : Int) &&& 31))).toInt := by decide +kernel
theorem lc_bt (vs vk vw vr : Int) (b_s : 0 ≤ vs ∧ vs ≤ 255) (b_k : 0 ≤ vk ∧ vk ≤ 7) (b_w : (-2147483648) ≤ vw ∧ vw ≤ 2147483647) (b_r : 0 ≤ vr ∧ vr ≤ 0) (p1 : vw = (Int32.ofInt vs >>> (Int32.ofInt vk &&& 31)).toInt) (p2 : vr = (Int32.ofInt vw &&& Int32.ofInt 1).toInt) : BTp vs vk := by
  unfold BTp
  rw [p1, of_toInt] at p2
  omega
theorem lc_btor (vs vk vo vr : Int) (b_s : 0 ≤ vs ∧ vs ≤ 255) (b_k : 0 ≤ vk ∧ vk ≤ 7) (b_o : (-2147483648) ≤ vo ∧ vo ≤ 2147483647) (b_r : (-2147483648) ≤ vr ∧ vr ≤ 2147483647) (p1 : BTp vs vk) (p2 : vo = (Int32.ofInt 1 <<< (Int32.ofInt vk &&& 31)).toInt) (p3 : vr = (Int32.ofInt vs ||| Int32.ofInt vo).toInt) : 0 ≤ 1 * vr + (-1) * vs + (-1) := by
  have q := bt_all ⟨vs.toNat, by omega⟩ ⟨vk.toNat, by omega⟩
  have e1 : ((vs.toNat : Nat) : Int) = vs := by omega
  have e2 : ((vk.toNat : Nat) : Int) = vk := by omega
  simp only [e1, e2] at q
  rw [p2, of_toInt] at p3
  have r := q p1
  rw [← p3] at r
  omega
theorem CPp.to {k o p : Int} {d a s : Nat → Int} (h : CPp k o p d a s) (i : Nat) {j l : Nat} (hi : (i : Int) < k) (hj : j = o.toNat + i) (hl : l = p.toNat + i) : d j = s l := by
  rw [hj, hl]
  exact h.1 i hi
theorem ons_ext {o o' : Nat} {c c' : Nat → Int} (h : ONS o c) (e : ∀ i, i < 7 → c' (o' + i) = c (o + i)) : ONS o' c' := fun i hi => by
  rw [e i hi]
  exact h i hi
theorem prm_ext {n : Int} {o o' : Nat} {c c' : Nat → Int} (hn : n ≤ 7) (h : PRM n o c) (e : ∀ i, i < 7 → c' (o' + i) = c (o + i)) : PRM n o' c' := fun x hx => by
  obtain ⟨b, hb, eb⟩ := h x hx
  exact ⟨b, hb, by rw [e b (by omega)]; exact eb⟩
theorem sd_blk {f n m : Int} {a d : Nat → Int} (h : SDp f n m a) (e : ∀ j : Nat, (j < 10 ∨ 39 ≤ j) → d j = a j) (h1 : ONS 11 d) (h2 : PRM n 11 d) : SDp 1 n m d := by
  obtain ⟨a1, a2, a3, a4, a5, a6, a7, a8, a9⟩ := h
  refine ⟨?_, ?_, a3, a4, ?_, h1, fun k hk => ?_, fun k hk => ?_, fun _ => h2⟩
  · rw [e 3 (by omega)]
    exact a1
  · rw [e 4 (by omega)]
    exact a2
  · rw [e 107 (by omega)]
    exact a5
  · rw [e (54 + 3 * k) (by omega), e (55 + 3 * k) (by omega)]
    exact a7 k hk
  · rw [e (78 + 3 * k) (by omega)]
    exact a8 k hk
theorem sd_ext {f n m : Int} {a d : Nat → Int} (h : SDp f n m a) (e : ∀ j : Nat, j < 108 → d j = a j) : SDp f n m d := by
  obtain ⟨a1, a2, a3, a4, a5, a6, a7, a8, a9⟩ := h
  refine ⟨?_, ?_, a3, a4, ?_, fun i hi => ?_, fun k hk => ?_, fun k hk => ?_, fun hf x hx => ?_⟩
  · rw [e 3 (by omega)]
    exact a1
  · rw [e 4 (by omega)]
    exact a2
  · rw [e 107 (by omega)]
    exact a5
  · rw [e (11 + i) (by omega)]
    exact a6 i hi
  · rw [e (54 + 3 * k) (by omega), e (55 + 3 * k) (by omega)]
    exact a7 k hk
  · rw [e (78 + 3 * k) (by omega)]
    exact a8 k hk
  · obtain ⟨b, hb, eb⟩ := a9 hf x hx
    exact ⟨b, hb, by rw [e (11 + b) (by omega)]; exact eb⟩
theorem lc_cp0 (vo vp : Int) (cd cs : Nat → Int) (b_o : 0 ≤ vo ∧ vo ≤ 600) (b_p : 0 ≤ vp ∧ vp ≤ 600) : CPp 0 vo vp cd cd cs := by
  exact ⟨fun i hi => by omega, fun _ _ => rfl⟩
theorem lc_cp1 (vk vo vp vt vu vv : Int) (cd ca cs ce : Nat → Int) (b_k : 0 ≤ vk ∧ vk ≤ 600) (b_o : 0 ≤ vo ∧ vo ≤ 600) (b_p : 0 ≤ vp ∧ vp ≤ 600) (b_t : (-2147483648) ≤ vt ∧ vt ≤ 2147483647) (b_u : (-2147483648) ≤ vu ∧ vu ≤ 2147483647) (b_v : (-2147483648) ≤ vv ∧ vv ≤ 2147483647) (f1 : 0 ≤ 1 * vt + (-1) * vo + (-1) * vk + 0) (f2 : 0 ≤ (-1) * vt + 1 * vo + 1 * vk + 0) (f3 : 0 ≤ 1 * vu + (-1) * vp + (-1) * vk + 0) (f4 : 0 ≤ (-1) * vu + 1 * vp + 1 * vk + 0) (p1 : CPp vk vo vp cd ca cs) (p2 : P5 vu vv cs) (p3 : P6 vt vv cd ce) : CPp (vk + 1) vo vp ce ca cs := by
  refine ⟨fun i hi => ?_, fun j hj => ?_⟩
  · by_cases e : (i : Int) = vk
    · rw [p3.eq (by omega), ← p2.at (j := vp.toNat + i) (by omega)]
    · rw [p3.ne (by omega)]
      exact p1.1 i (by omega)
  · rw [p3.ne (by omega)]
    exact p1.2 j (by omega)
theorem lc_mk29 (vu : Int) (b_u : 0 ≤ vu ∧ vu ≤ 20) : ∃ vo : Int, (0 ≤ vo ∧ vo ≤ 580) ∧ (0 ≤ 1 * vo + (-29) * vu + 0) ∧ (0 ≤ (-1) * vo + 29 * vu + 0) := by
  exact ⟨29 * vu, by omega, by omega, by omega⟩
theorem lc_mk108 (vu : Int) (b_u : 0 ≤ vu ∧ vu ≤ 3) : ∃ vo : Int, (0 ≤ vo ∧ vo ≤ 324) ∧ (0 ≤ 1 * vo + (-108) * vu + 0) ∧ (0 ≤ (-1) * vo + 108 * vu + 0) := by
  exact ⟨108 * vu, by omega, by omega, by omega⟩
theorem lc_kpe (vk vn vm : Int) (cd ca cs : Nat → Int) (b_k : 29 ≤ vk ∧ vk ≤ 29) (b_n : 0 ≤ vn ∧ vn ≤ 7) (b_m : 0 ≤ vm ∧ vm ≤ 8) (p1 : CPp vk 0 10 cd ca cs) (p2 : SDp 1 vn vm cs) : PKp vn cd := by
  obtain ⟨a1, a2, a3, a4, a5, a6, a7, a8, a9⟩ := p2
  have e : ∀ i, i < 7 → cd (1 + i) = cs (11 + i) := fun i hi => p1.to (1 + i) (by omega) (by omega) (by omega)
  exact ⟨ons_ext a6 e, prm_ext a3.2 (a9 rfl) e⟩
theorem lc_lbe (vk vf vn vm : Int) (cd ca cs : Nat → Int) (b_k : 29 ≤ vk ∧ vk ≤ 29) (b_f : 0 ≤ vf ∧ vf ≤ 1) (b_n : 0 ≤ vn ∧ vn ≤ 7) (b_m : 0 ≤ vm ∧ vm ≤ 8) (p1 : CPp vk 10 0 cd ca cs) (p2 : SDp vf vn vm ca) (p3 : PKp vn cs) : SDp 1 vn vm cd := by
  have b := p2.2.2.1
  have e : ∀ i, i < 7 → cd (11 + i) = cs (1 + i) := fun i hi => p1.to (1 + i) (by omega) (by omega) (by omega)
  exact sd_blk p2 (fun j hj => p1.2 j (by omega)) (ons_ext p3.1 e) (prm_ext b.2 p3.2 e)
theorem lc_kae (vk vo vu vn vm : Int) (cd ca cs : Nat → Int) (b_k : 29 ≤ vk ∧ vk ≤ 29) (b_o : 0 ≤ vo ∧ vo ≤ 600) (b_u : 0 ≤ vu ∧ vu ≤ 19) (b_n : 0 ≤ vn ∧ vn ≤ 7) (b_m : 0 ≤ vm ∧ vm ≤ 8) (f1 : 0 ≤ 1 * vo + (-29) * vu + 0) (f2 : 0 ≤ (-1) * vo + 29 * vu + 0) (p1 : CPp vk vo 10 cd ca cs) (p2 : WSp vu vn ca) (p3 : SDp 1 vn vm cs) : WSp (vu + 1) vn cd := by
  obtain ⟨a1, a2, a3, a4, a5, a6, a7, a8, a9⟩ := p3
  intro j hj
  by_cases h : (j : Int) = vu
  · have e : ∀ i, i < 7 → cd (29 * j + 1 + i) = cs (11 + i) := fun i hi => p1.to (1 + i) (by omega) (by omega) (by omega)
    exact ⟨ons_ext a6 e, prm_ext a3.2 (a9 rfl) e⟩
  · have e : ∀ i, i < 7 → cd (29 * j + 1 + i) = ca (29 * j + 1 + i) := fun i hi => p1.2 _ (by omega)
    have q := p2 j (by omega)
    exact ⟨ons_ext q.1 e, prm_ext a3.2 q.2 e⟩
theorem lc_ude (vk vo vu vf vn vm : Int) (cd ca cs : Nat → Int) (b_k : 29 ≤ vk ∧ vk ≤ 29) (b_o : 0 ≤ vo ∧ vo ≤ 600) (b_u : 0 ≤ vu ∧ vu ≤ 19) (b_f : 0 ≤ vf ∧ vf ≤ 1) (b_n : 0 ≤ vn ∧ vn ≤ 7) (b_m : 0 ≤ vm ∧ vm ≤ 8) (f1 : 0 ≤ 1 * vo + (-29) * vu + 0) (f2 : 0 ≤ (-1) * vo + 29 * vu + 0) (p1 : CPp vk 10 vo cd ca cs) (p2 : WSp (vu + 1) vn cs) (p3 : SDp vf vn vm ca) : (SDp 1 vn vm cd) ∧ (WSp vu vn cs) := by
  have b := p3.2.2.1
  have q := p2 vu.toNat (by omega)
  have e : ∀ i, i < 7 → cd (11 + i) = cs (29 * vu.toNat + 1 + i) := fun i hi => p1.to (1 + i) (by omega) (by omega) (by omega)
  exact ⟨sd_blk p3 (fun j hj => p1.2 j (by omega)) (ons_ext q.1 e) (prm_ext b.2 q.2 e), fun j hj => p2 j (by omega)⟩
theorem lc_ime (vk vo vu vn vm : Int) (cd ca cs : Nat → Int) (b_k : 108 ≤ vk ∧ vk ≤ 108) (b_o : 0 ≤ vo ∧ vo ≤ 600) (b_u : 0 ≤ vu ∧ vu ≤ 3) (b_n : 0 ≤ vn ∧ vn ≤ 7) (b_m : 0 ≤ vm ∧ vm ≤ 8) (f1 : 0 ≤ 1 * vo + (-108) * vu + 0) (f2 : 0 ≤ (-1) * vo + 108 * vu + 0) (p1 : CPp vk vo 0 cd ca cs) (p2 : IMp ca) (p3 : SDp 1 vn vm cs) : IMp cd := by
  intro k hk
  by_cases h : (k : Int) = vu
  · exact ⟨vn, vm, sd_ext p3 fun j hj => p1.to j (by omega) (by omega) (by omega)⟩
  · obtain ⟨n, m, q⟩ := p2 k hk
    exact ⟨n, m, sd_ext q fun j hj => p1.2 _ (by omega)⟩
theorem lc_bke (vk vo vu : Int) (cd ca cs : Nat → Int) (b_k : 108 ≤ vk ∧ vk ≤ 108) (b_o : 0 ≤ vo ∧ vo ≤ 600) (b_u : 0 ≤ vu ∧ vu ≤ 3) (f1 : 0 ≤ 1 * vo + (-108) * vu + 0) (f2 : 0 ≤ (-1) * vo + 108 * vu + 0) (p1 : CPp vk 0 vo cd ca cs) (p2 : IMp cs) : ∃ vn vm : Int, (0 ≤ vn ∧ vn ≤ 7) ∧ (0 ≤ vm ∧ vm ≤ 8) ∧ (SDp 1 vn vm cd) := by
  obtain ⟨n, m, q⟩ := p2 vu.toNat (by omega)
  exact ⟨n, m, q.2.2.1, q.2.2.2.1, sd_ext q fun j hj => p1.to j (by omega) (by omega) (by omega)⟩
theorem lc_ws0 (vn : Int) (cc : Nat → Int) (b_n : 0 ≤ vn ∧ vn ≤ 7) : WSp 0 vn cc := by
  exact fun j hj => by omega
theorem lc_sh0 (cc : Nat → Int) : SHp 29 cc cc := by
  intro j
  rw [if_neg (by omega)]
theorem lc_sh1 (vk vv : Int) (cc ca cd : Nat → Int) (b_k : 29 ≤ vk ∧ vk ≤ 579) (b_v : (-2147483648) ≤ vv ∧ vv ≤ 2147483647) (p1 : SHp vk cc ca) (p2 : P5 vk vv cc) (p3 : P6 (vk + -29) vv cc cd) : SHp (vk + 1) cd ca := by
  intro j
  have h1 := p1 j
  have h2 := p1 (j + 29)
  by_cases e : (j : Int) = vk + -29
  · rw [p3.eq e, if_pos (by omega), ← p2.at (j := j + 29) (by omega), h2, if_neg (by omega)]
  · rw [p3.ne e, h1]
    by_cases g : (j : Int) + 29 < vk
    · rw [if_pos g, if_pos (by omega)]
    · rw [if_neg g, if_neg (by omega)]
theorem lc_she (vk vn vu : Int) (cc ca : Nat → Int) (b_k : 580 ≤ vk ∧ vk ≤ 580) (b_n : 0 ≤ vn ∧ vn ≤ 7) (b_u : 20 ≤ vu ∧ vu ≤ 20) (p1 : SHp vk cc ca) (p2 : WSp vu vn ca) : WSp (vu + -1) vn cc := by
  intro j hj
  have q := p2 (j + 1) (by omega)
  have e : ∀ i, i < 7 → cc (29 * j + 1 + i) = ca (29 * (j + 1) + 1 + i) := fun i hi => by
    rw [p1 (29 * j + 1 + i), if_pos (by omega)]
    exact congrArg ca (by omega)
  exact ⟨ons_ext q.1 e, prm_ext b_n.2 q.2 e⟩
theorem lc_bg0 (vf vn vm : Int) (cc : Nat → Int) (b_f : 0 ≤ vf ∧ vf ≤ 1) (b_n : 0 ≤ vn ∧ vn ≤ 7) (b_m : 0 ≤ vm ∧ vm ≤ 8) (p1 : SDp vf vn vm cc) : BGp 0 vn vm cc := by
  exact ⟨sd_weak p1, fun i hi => by omega⟩
theorem lc_bg1 (vb vn vm : Int) (cc cd : Nat → Int) (b_b : 0 ≤ vb ∧ vb ≤ 6) (b_n : 0 ≤ vn ∧ vn ≤ 7) (b_m : 0 ≤ vm ∧ vm ≤ 8) (p1 : BGp vb vn vm cc) (p2 : P6 (vb + 11) vb cc cd) : BGp (vb + 1) vn vm cd := by
  refine ⟨sd_upd p1.1 p2 (by omega) (by omega) (fun _ => by omega) (fun _ _ => by omega) (by omega) (fun k _ _ => by omega) (fun h => absurd h (by decide)), fun i hi => ?_⟩
  by_cases e : (i : Int) = vb
  · rw [p2.eq (by omega)]
    omega
  · rw [p2.ne (by omega)]
    exact p1.2 i (by omega)
theorem lc_bg2 (vb vn vm vt vv : Int) (cc cd : Nat → Int) (b_b : 0 ≤ vb ∧ vb ≤ 7) (b_n : 0 ≤ vn ∧ vn ≤ 7) (b_m : 0 ≤ vm ∧ vm ≤ 8) (b_t : 18 ≤ vt ∧ vt ≤ 52) (b_v : (-2147483648) ≤ vv ∧ vv ≤ 2147483647) (p1 : BGp vb vn vm cc) (p2 : P6 vt vv cc cd) : BGp vb vn vm cd := by
  refine ⟨sd_upd p1.1 p2 (by omega) (by omega) (fun _ => by omega) (fun _ _ => by omega) (by omega) (fun k _ _ => by omega) (fun h => absurd h (by decide)), fun i hi => ?_⟩
  rw [p2.ne (by omega)]
  exact p1.2 i hi
theorem lc_bge (vb vn vm : Int) (cc : Nat → Int) (b_b : 7 ≤ vb ∧ vb ≤ 7) (b_n : 0 ≤ vn ∧ vn ≤ 7) (b_m : 0 ≤ vm ∧ vm ≤ 8) (p1 : BGp vb vn vm cc) : SDp 1 vn vm cc := by
  obtain ⟨⟨a1, a2, a3, a4, a5, a6, a7, a8, a9⟩, h⟩ := p1
  exact ⟨a1, a2, a3, a4, a5, a6, a7, a8, fun _ x hx => ⟨x, hx, h x (by omega)⟩⟩
theorem and15 {z : Int} (h1 : 0 ≤ z) (h2 : z ≤ 2147483647) : (Int32.ofInt z &&& Int32.ofInt 15).toInt = z % 16 := by
  have e : z = ((z.toNat : Nat) : Int) := by omega
  rw [e]
  generalize z.toNat = n at *
  have hn : n < 2147483648 := by omega
  have : (Int32.ofInt (n : Int) &&& Int32.ofInt 15) = Int32.ofInt ((n % 16 : Nat) : Int) := by
    apply Int32.toBitVec_inj.mp
    rw [Int32.toBitVec_and]
    have q1 : (Int32.ofInt (n : Int)).toBitVec = BitVec.ofNat 32 n := by
      rw [Int32.toBitVec_ofInt]
      exact BitVec.ofInt_natCast 32 n
    have q2 : (Int32.ofInt ((n % 16 : Nat) : Int)).toBitVec = BitVec.ofNat 32 (n % 16) := by
      rw [Int32.toBitVec_ofInt]
      exact BitVec.ofInt_natCast 32 _
    have q3 : (Int32.ofInt 15).toBitVec = BitVec.ofNat 32 15 := rfl
    rw [q1, q2, q3]
    apply BitVec.eq_of_toNat_eq
    rw [BitVec.toNat_and, BitVec.toNat_ofNat, BitVec.toNat_ofNat, BitVec.toNat_ofNat]
    have : n % 2 ^ 32 &&& 15 % 2 ^ 32 = n % 2 ^ 32 % 16 := by
      have := Nat.and_two_pow_sub_one_eq_mod (n % 2 ^ 32) 4
      simpa using this
    rw [this]
    omega
  rw [this, t_of32 (by omega) (by omega)]
  omega
theorem shr4 {z : Int} (h1 : 0 ≤ z) (h2 : z ≤ 2147483647) : (Int32.ofInt z >>> (Int32.ofInt 4 &&& 31)).toInt = z / 16 := by
  have e : (Int32.ofInt 4 &&& 31) = 4 := by decide
  rw [e]
  show (Int32.ofInt z >>> (4 : Int32)).toBitVec.toInt = z / 16
  rw [Int32.toBitVec_shiftRight]
  have e2 : ((4 : Int32).toBitVec.smod 32) = 4#32 := by decide
  rw [e2]
  show ((Int32.ofInt z).toBitVec.sshiftRight 4).toInt = z / 16
  rw [BitVec.toInt_sshiftRight, Int.shiftRight_eq_div_pow]
  have e3 : (Int32.ofInt z).toBitVec.toInt = z := t_of32 (by omega) (by omega)
  rw [e3]
  rfl
theorem clq_get {G C L : Nat → Int} (h : RUp G C L) {t : Nat} (ht : t < 6) {j : Nat} (hj : (j : Int) < L t) : CLq G C t j 400 := (h t ht).2 j hj
theorem lc_rus (vt vk vj va vx vy : Int) (cG cC cL : Nat → Int) (b_t : 0 ≤ vt ∧ vt ≤ 5) (b_k : (-2147483648) ≤ vk ∧ vk ≤ 2147483647) (b_j : 0 ≤ vj ∧ vj ≤ 11) (b_a : (-2147483648) ≤ va ∧ va ≤ 2147483647) (b_x : (-2147483648) ≤ vx ∧ vx ≤ 2147483647) (b_y : (-2147483648) ≤ vy ∧ vy ≤ 2147483647) (f1 : 0 ≤ 1 * va + (-48) * vt + (-4) * vj + 0) (f2 : 0 ≤ (-1) * va + 48 * vt + 4 * vj + 0) (f3 : 0 ≤ 1 * vk + (-1) * vj + (-1)) (p1 : RUp cG cC cL) (p2 : P5 vt vk cL) (p3 : P5 va vx cC) (p4 : P5 (va + 1) vy cC) : (0 ≤ 1 * vx + 0) ∧ (0 ≤ 1 * vy + (-1) * vx + 0) ∧ (0 ≤ (-1) * vy + 400) ∧ (DEp vt vx vy 1 cG) := by
  have e0 := p2.at (j := vt.toNat) (by omega)
  have q := clq_get p1 (t := vt.toNat) (by omega) (j := vj.toNat) (by rw [e0]; omega)
  have e1 := p3.at (j := 48 * vt.toNat + 4 * vj.toNat) (by omega)
  have e2 := p4.at (j := 48 * vt.toNat + 4 * vj.toNat + 1) (by omega)
  obtain ⟨q1, q2, q3⟩ := q
  rw [e1, e2] at q1
  rw [e2] at q2
  have e3 : ((vt.toNat : Nat) : Int) = vt := by omega
  rw [e3] at q1
  have b := q1.1
  exact ⟨by omega, by omega, by omega, q1⟩
theorem lc_rut (vt vk vj va vx vy : Int) (cG cC cL : Nat → Int) (b_t : 0 ≤ vt ∧ vt ≤ 5) (b_k : (-2147483648) ≤ vk ∧ vk ≤ 2147483647) (b_j : 0 ≤ vj ∧ vj ≤ 11) (b_a : (-2147483648) ≤ va ∧ va ≤ 2147483647) (b_x : 0 ≤ vx ∧ vx ≤ 400) (b_y : (-2147483648) ≤ vy ∧ vy ≤ 2147483647) (f1 : 0 ≤ 1 * va + (-48) * vt + (-4) * vj + 0) (f2 : 0 ≤ (-1) * va + 48 * vt + 4 * vj + 0) (f3 : 0 ≤ 1 * vk + (-1) * vj + (-1)) (p1 : RUp cG cC cL) (p2 : P5 vt vk cL) (p3 : P5 (va + 2) vx cC) (p4 : P5 (va + 3) vy cC) : (0 ≤ 1 * vx + 0) ∧ (0 ≤ 1 * vy + (-1) * vx + 0) ∧ (0 ≤ (-1) * vy + 400) ∧ (DEp vt vx vy 1 cG) := by
  have e0 := p2.at (j := vt.toNat) (by omega)
  have q := clq_get p1 (t := vt.toNat) (by omega) (j := vj.toNat) (by rw [e0]; omega)
  have e1 := p3.at (j := 48 * vt.toNat + 4 * vj.toNat + 2) (by omega)
  have e2 := p4.at (j := 48 * vt.toNat + 4 * vj.toNat + 3) (by omega)
  obtain ⟨q1, q2, q3⟩ := q
  rw [e1, e2] at q3
  have e3 : ((vt.toNat : Nat) : Int) = vt := by omega
  rw [e3] at q3
  rcases q3 with q3 | ⟨q3, q4⟩
  · omega
  · have b := q3.1
    exact ⟨by omega, by omega, by omega, q3⟩
theorem lc_de0 (vt vb : Int) (cG : Nat → Int) (b_t : 0 ≤ vt ∧ vt ≤ 5) (b_b : 0 ≤ vb ∧ vb ≤ 400) : DEp vt vb vb 0 cG := by
  refine ⟨⟨by omega, by omega⟩, by omega, ?_⟩
  rw [show (vb - vb).toNat = 0 by omega]
  rfl
theorem dep_ext {G H : Nat → Int} {lo : Nat} : ∀ k : Nat, (∀ i, i < k → H (lo + i) = G (lo + i)) → dep H lo k = dep G lo k
  | 0, _ => rfl
  | k + 1, h => by
    unfold dep
    rw [dep_ext k fun i hi => h i (by omega), h k (by omega)]
theorem dep_some {G : Nat → Int} {lo : Nat} : ∀ (m k : Nat) {x : Nat}, dep G lo (k + m) = some x → ∃ y, dep G lo k = some y
  | 0, k, x, h => ⟨x, h⟩
  | m + 1, k, x, h => by
    have h2 : dep G lo ((k + m) + 1) = some x := h
    unfold dep at h2
    split at h2
    · cases h2
    · rename_i d hd
      exact dep_some m k hd
theorem de_step {G : Nat → Int} {t b e i j a z : Int} (b_t : 0 ≤ t) (h1 : DEp t b i j G) (h2 : DEp t b e 1 G) (h3 : i < e) (h4 : a = 400 * t + i) (h5 : P5 a z G) : ∃ j' : Nat, sd_one z j.toNat = some j' ∧ DEp t b (i + 1) j' G := by
  obtain ⟨⟨q1, q2⟩, q3, q4⟩ := h1
  obtain ⟨⟨r1, r2⟩, r3, r4⟩ := h2
  have e1 : (e - b).toNat = ((i - b).toNat + 1) + (e - i - 1).toNat := by omega
  rw [e1] at r4
  obtain ⟨y, hy⟩ := dep_some _ _ r4
  have hy2 := hy
  unfold dep at hy
  rw [q4] at hy
  have ez := h5.at (j := 400 * t.toNat + b.toNat + (i - b).toNat) (by omega)
  rw [ez] at hy
  refine ⟨y, hy, ⟨by omega, by omega⟩, by omega, ?_⟩
  rw [show (i + 1 - b).toNat = (i - b).toNat + 1 by omega]
  exact hy2
theorem one_nn {z : Int} {d x : Nat} (h : sd_one z d = some x) : 0 ≤ z := by
  unfold sd_one at h
  split at h
  · cases h
  · omega
theorem one_n {z : Int} {d x : Nat} (h : sd_one z d = some x) (hz : z % 16 = 0) : d < 60 ∧ x = d + 1 := by
  unfold sd_one at h
  rw [if_neg (by have := one_nn h; omega), if_pos hz] at h
  split at h
  · cases h
    omega
  · cases h
theorem one_w {z : Int} {d x : Nat} (h : sd_one z d = some x) (hz : z % 16 = 1) : d < 60 ∧ z / 16 ≤ 11 ∧ x = d + 1 := by
  unfold sd_one at h
  rw [if_neg (by have := one_nn h; omega), if_neg (by omega), if_pos hz] at h
  split at h
  · cases h
    omega
  · cases h
theorem one_t {z : Int} {d x : Nat} (h : sd_one z d = some x) (hz : z % 16 = 11) : (1 ≤ d ∧ d ≤ 60) ∧ x = d := by
  unfold sd_one at h
  rw [if_neg (by have := one_nn h; omega), if_neg (by omega), if_neg (by omega), if_pos hz] at h
  split at h
  · cases h
    omega
  · cases h
theorem one_o {z : Int} {d x : Nat} (h : sd_one z d = some x) (h0 : z % 16 ≠ 0) (h1 : z % 16 ≠ 1) (h2 : z % 16 ≠ 11) : (2 ≤ d ∧ d ≤ 60) ∧ x = d - 1 := by
  unfold sd_one at h
  rw [if_neg (by have := one_nn h; omega), if_neg h0, if_neg h1, if_neg h2] at h
  split at h
  · cases h
    omega
  · cases h
theorem lc_dn (vt vb ve vi vj va vz_ vs : Int) (cG : Nat → Int) (b_t : 0 ≤ vt ∧ vt ≤ 5) (b_b : 0 ≤ vb ∧ vb ≤ 400) (b_e : 0 ≤ ve ∧ ve ≤ 400) (b_i : 0 ≤ vi ∧ vi ≤ 399) (b_j : 0 ≤ vj ∧ vj ≤ 64) (b_a : (-2147483648) ≤ va ∧ va ≤ 2147483647) (b_z_ : (-2147483648) ≤ vz_ ∧ vz_ ≤ 2147483647) (b_s : 0 ≤ vs ∧ vs ≤ 0) (f1 : 0 ≤ 1 * ve + (-1) * vi + (-1)) (f2 : 0 ≤ 1 * va + (-400) * vt + (-1) * vi + 0) (f3 : 0 ≤ (-1) * va + 400 * vt + 1 * vi + 0) (p1 : DEp vt vb vi vj cG) (p2 : DEp vt vb ve 1 cG) (p3 : P5 va vz_ cG) (p4 : vs = (Int32.ofInt vz_ &&& Int32.ofInt 15).toInt) : (0 ≤ (-1) * vj + 59) ∧ (DEp vt vb (vi + 1) (vj + 1) cG) := by
  obtain ⟨x, h1, h2⟩ := de_step b_t.1 p1 p2 (by omega) (by omega) p3
  have hz := one_nn h1
  rw [and15 hz b_z_.2] at p4
  have q := one_n h1 (by omega)
  rw [show ((x : Nat) : Int) = vj + 1 by omega] at h2
  exact ⟨by omega, h2⟩
theorem lc_dw (vt vb ve vi vj va vz_ vs vv va2 vy : Int) (cG : Nat → Int) (b_t : 0 ≤ vt ∧ vt ≤ 5) (b_b : 0 ≤ vb ∧ vb ≤ 400) (b_e : 0 ≤ ve ∧ ve ≤ 400) (b_i : 0 ≤ vi ∧ vi ≤ 399) (b_j : 0 ≤ vj ∧ vj ≤ 64) (b_a : (-2147483648) ≤ va ∧ va ≤ 2147483647) (b_z_ : (-2147483648) ≤ vz_ ∧ vz_ ≤ 2147483647) (b_s : 1 ≤ vs ∧ vs ≤ 1) (b_v : (-2147483648) ≤ vv ∧ vv ≤ 2147483647) (b_a2 : (-2147483648) ≤ va2 ∧ va2 ≤ 2147483647) (b_y : (-2147483648) ≤ vy ∧ vy ≤ 2147483647) (f1 : 0 ≤ 1 * ve + (-1) * vi + (-1)) (f2 : 0 ≤ 1 * va + (-400) * vt + (-1) * vi + 0) (f3 : 0 ≤ (-1) * va + 400 * vt + 1 * vi + 0) (f4 : 0 ≤ 1 * va2 + (-400) * vt + (-1) * vi + 0) (f5 : 0 ≤ (-1) * va2 + 400 * vt + 1 * vi + 0) (p1 : DEp vt vb vi vj cG) (p2 : DEp vt vb ve 1 cG) (p3 : P5 va vz_ cG) (p4 : vs = (Int32.ofInt vz_ &&& Int32.ofInt 15).toInt) (p5 : P5 va2 vy cG) (p6 : vv = (Int32.ofInt vy >>> (Int32.ofInt 4 &&& 31)).toInt) : (0 ≤ (-1) * vj + 59) ∧ (0 ≤ 1 * vv + 0) ∧ (0 ≤ (-1) * vv + 11) ∧ (DEp vt vb (vi + 1) (vj + 1) cG) := by
  obtain ⟨x, h1, h2⟩ := de_step b_t.1 p1 p2 (by omega) (by omega) p3
  have hz := one_nn h1
  rw [and15 hz b_z_.2] at p4
  have q := one_w h1 (by omega)
  have e1 := p3.at (j := va.toNat) (by omega)
  have e2 := p5.at (j := va.toNat) (by omega)
  have ey : vy = vz_ := by omega
  rw [ey, shr4 hz b_z_.2] at p6
  rw [show ((x : Nat) : Int) = vj + 1 by omega] at h2
  exact ⟨by omega, by omega, by omega, h2⟩
theorem lc_dt (vt vb ve vi vj va vz_ vs : Int) (cG : Nat → Int) (b_t : 0 ≤ vt ∧ vt ≤ 5) (b_b : 0 ≤ vb ∧ vb ≤ 400) (b_e : 0 ≤ ve ∧ ve ≤ 400) (b_i : 0 ≤ vi ∧ vi ≤ 399) (b_j : 0 ≤ vj ∧ vj ≤ 64) (b_a : (-2147483648) ≤ va ∧ va ≤ 2147483647) (b_z_ : (-2147483648) ≤ vz_ ∧ vz_ ≤ 2147483647) (b_s : 11 ≤ vs ∧ vs ≤ 11) (f1 : 0 ≤ 1 * ve + (-1) * vi + (-1)) (f2 : 0 ≤ 1 * va + (-400) * vt + (-1) * vi + 0) (f3 : 0 ≤ (-1) * va + 400 * vt + 1 * vi + 0) (p1 : DEp vt vb vi vj cG) (p2 : DEp vt vb ve 1 cG) (p3 : P5 va vz_ cG) (p4 : vs = (Int32.ofInt vz_ &&& Int32.ofInt 15).toInt) : (0 ≤ 1 * vj + (-1)) ∧ (0 ≤ (-1) * vj + 60) ∧ (DEp vt vb (vi + 1) vj cG) := by
  obtain ⟨x, h1, h2⟩ := de_step b_t.1 p1 p2 (by omega) (by omega) p3
  have hz := one_nn h1
  rw [and15 hz b_z_.2] at p4
  have q := one_t h1 (by omega)
  rw [show ((x : Nat) : Int) = vj by omega] at h2
  exact ⟨by omega, by omega, h2⟩
theorem lc_do (vt vb ve vi vj va vz_ vs : Int) (cG : Nat → Int) (b_t : 0 ≤ vt ∧ vt ≤ 5) (b_b : 0 ≤ vb ∧ vb ≤ 400) (b_e : 0 ≤ ve ∧ ve ≤ 400) (b_i : 0 ≤ vi ∧ vi ≤ 399) (b_j : 0 ≤ vj ∧ vj ≤ 64) (b_a : (-2147483648) ≤ va ∧ va ≤ 2147483647) (b_z_ : (-2147483648) ≤ vz_ ∧ vz_ ≤ 2147483647) (b_s : 2 ≤ vs ∧ vs ≤ 15) (f1 : 0 ≤ 1 * ve + (-1) * vi + (-1)) (f2 : 0 ≤ 1 * va + (-400) * vt + (-1) * vi + 0) (f3 : 0 ≤ (-1) * va + 400 * vt + 1 * vi + 0) (p1 : DEp vt vb vi vj cG) (p2 : DEp vt vb ve 1 cG) (p3 : P5 va vz_ cG) (p4 : vs = (Int32.ofInt vz_ &&& Int32.ofInt 15).toInt) (p5 : vs ≠ 11) : (0 ≤ 1 * vj + (-2)) ∧ (0 ≤ (-1) * vj + 60) ∧ (DEp vt vb (vi + 1) (vj + -1) cG) := by
  obtain ⟨x, h1, h2⟩ := de_step b_t.1 p1 p2 (by omega) (by omega) p3
  have hz := one_nn h1
  rw [and15 hz b_z_.2] at p4
  have q := one_o h1 (by omega) (by omega) (by omega)
  rw [show ((x : Nat) : Int) = vj + -1 by omega] at h2
  exact ⟨by omega, by omega, h2⟩
theorem lc_dend (vt vb ve vi vj : Int) (cG : Nat → Int) (b_t : 0 ≤ vt ∧ vt ≤ 5) (b_b : 0 ≤ vb ∧ vb ≤ 400) (b_e : 0 ≤ ve ∧ ve ≤ 400) (b_i : 0 ≤ vi ∧ vi ≤ 400) (b_j : 0 ≤ vj ∧ vj ≤ 64) (f1 : 0 ≤ 1 * vi + (-1) * ve + 0) (f2 : 0 ≤ (-1) * vi + 1 * ve + 0) (p1 : DEp vt vb vi vj cG) (p2 : DEp vt vb ve 1 cG) : (0 ≤ 1 * vj + (-1)) ∧ (0 ≤ (-1) * vj + 1) := by
  obtain ⟨⟨q1, q2⟩, q3, q4⟩ := p1
  obtain ⟨⟨r1, r2⟩, r3, r4⟩ := p2
  rw [show vi = ve by omega, r4] at q4
  have e : (1 : Int).toNat = vj.toNat := Option.some.inj q4
  omega
theorem lc_q9 (vi vq : Int) (b_i : 0 ≤ vi ∧ vi ≤ 29) (b_q : 0 ≤ vq ∧ vq ≤ 10) (f1 : 0 ≤ 1 * vi + (-3) * vq + 0) (f2 : 0 ≤ (-1) * vi + 3 * vq + 0) : (0 ≤ (-1) * vi + 27) ∧ (0 ≤ (-1) * vq + 9) := by
  omega
theorem w20_ge (i : Nat) : 1 ≤ w20 i := by
  unfold w20
  split <;> decide
theorem orm_ext {n : Int} {c d : Nat → Int} : ∀ k : Nat, (∀ i, i < k → d i = c i) → ORm n d k = ORm n c k
  | 0, _ => rfl
  | k + 1, h => by
    unfold ORm
    rw [orm_ext k fun i hi => h i (by omega), h k (by omega)]
theorem orm_nn {n : Int} {c : Nat → Int} : ∀ k : Nat, (∀ i, i < k → c i ≤ n + 1) → 0 ≤ ORm n c k
  | 0, _ => Int.le_refl 0
  | k + 1, h => by
    unfold ORm
    have h1 := orm_nn k fun i hi => h i (by omega)
    have h2 := h k (by omega)
    have h3 := w20_ge k
    have h4 : 0 ≤ (n + 1 - c k) * w20 k := Int.mul_nonneg (by omega) (by omega)
    omega
theorem orm_s (n : Int) (c : Nat → Int) (k : Nat) : ORm n c (k + 1) = ORm n c k + (n + 1 - c k) * w20 k := rfl
theorem mul_ge {a w : Int} (h : 1 ≤ a) (hw : 1 ≤ w) : w ≤ a * w := by
  have := Int.mul_le_mul_of_nonneg_right h (show 0 ≤ w by omega)
  omega
theorem lc_or0 (vn : Int) (cc cd : Nat → Int) (b_n : 0 ≤ vn ∧ vn ≤ 7) (p1 : P6 0 (-1) cc cd) : ∃ vmu : Int, (0 ≤ vmu ∧ vmu ≤ 1000000000000000) ∧ (ORp 0 vn vmu cd) := by
  have e := p1.eq (j := 0) rfl
  have em : ORm vn cd 1 = (vn + 2) * 25600000000 := by
    show 0 + (vn + 1 - cd 0) * 25600000000 = _
    rw [e]
    omega
  refine ⟨ORm vn cd 1, ?_, ⟨by omega, by omega⟩, fun i hi => by omega, fun _ => ?_, rfl⟩
  · rw [em]
    omega
  · show -1 ≤ cd 0 ∧ cd 0 ≤ vn - 1
    rw [e]
    omega
theorem lc_orv (vk vn vmu vv : Int) (cc : Nat → Int) (b_k : 0 ≤ vk ∧ vk ≤ 6) (b_n : 0 ≤ vn ∧ vn ≤ 7) (b_mu : 0 ≤ vmu ∧ vmu ≤ 1000000000000000) (b_v : (-2147483648) ≤ vv ∧ vv ≤ 2147483647) (f1 : 0 ≤ 1 * vn + (-1) * vk + (-1)) (p1 : ORp vk vn vmu cc) (p2 : P5 vk vv cc) : (0 ≤ 1 * vv + 1) ∧ (0 ≤ (-1) * vv + 1 * vn + (-1)) := by
  have q := p1.2.2.1 b_k.1
  have e := p2.at (j := vk.toNat) (by omega)
  rw [e] at q
  omega
theorem lc_or1 (vk vn vmu : Int) (cc : Nat → Int) (b_k : 0 ≤ vk ∧ vk ≤ 7) (b_n : 0 ≤ vn ∧ vn ≤ 7) (b_mu : 0 ≤ vmu ∧ vmu ≤ 1000000000000000) (f1 : 0 ≤ 1 * vk + (-1) * vn + 0) (p1 : ORp vk vn vmu cc) : ∃ vnu : Int, (0 ≤ vnu ∧ vnu ≤ 1000000000000000) ∧ (0 ≤ 1 * vmu + (-1) * vnu + (-1)) ∧ (ORp (vk + -1) vn vnu cc) := by
  obtain ⟨h1, h2, h3, h4⟩ := p1
  have hk := h3 b_k.1
  rw [show (vk + 1).toNat = vk.toNat + 1 by omega, orm_s] at h4
  have hw := mul_ge (a := vn + 1 - cc vk.toNat) (by omega) (w20_ge vk.toNat)
  have hw1 := w20_ge vk.toNat
  have hn : 0 ≤ ORm vn cc vk.toNat := orm_nn _ fun i hi => by have := h2 i (by omega); omega
  refine ⟨ORm vn cc vk.toNat, by omega, by omega, ⟨by omega, by omega⟩, fun i hi => h2 i (by omega), fun h => ?_, by rw [show (vk + -1 + 1).toNat = vk.toNat by omega]⟩
  have := h2 (vk + -1).toNat (by omega)
  omega
theorem lc_or2 (vk vn vmu vv : Int) (cc cd : Nat → Int) (b_k : 0 ≤ vk ∧ vk ≤ 6) (b_n : 0 ≤ vn ∧ vn ≤ 7) (b_mu : 0 ≤ vmu ∧ vmu ≤ 1000000000000000) (b_v : (-2147483648) ≤ vv ∧ vv ≤ 2147483647) (f1 : 0 ≤ 1 * vn + (-1) * vk + (-1)) (p1 : ORp vk vn vmu cc) (p2 : P5 vk vv cc) (p3 : P6 vk (vv + 1) cc cd) : ∃ vnu : Int, (0 ≤ vnu ∧ vnu ≤ 1000000000000000) ∧ (0 ≤ 1 * vmu + (-1) * vnu + (-1)) ∧ (ORp (vk + -1) vn vnu cd) := by
  obtain ⟨h1, h2, h3, h4⟩ := p1
  have hk := h3 b_k.1
  rw [show (vk + 1).toNat = vk.toNat + 1 by omega, orm_s] at h4
  have hw := mul_ge (a := vn + 1 - cc vk.toNat) (by omega) (w20_ge vk.toNat)
  have hw1 := w20_ge vk.toNat
  have hn : 0 ≤ ORm vn cc vk.toNat := orm_nn _ fun i hi => by have := h2 i (by omega); omega
  have he : ORm vn cd vk.toNat = ORm vn cc vk.toNat := orm_ext _ fun i hi => p3.ne (by omega)
  refine ⟨ORm vn cc vk.toNat, by omega, by omega, ⟨by omega, by omega⟩, fun i hi => ?_, fun h => ?_, by rw [show (vk + -1 + 1).toNat = vk.toNat by omega, he]⟩
  · rw [p3.ne (by omega)]
    exact h2 i (by omega)
  · rw [p3.ne (by omega)]
    have := h2 (vk + -1).toNat (by omega)
    omega
theorem lc_or3 (vk vn vmu vv : Int) (cc cd : Nat → Int) (b_k : 0 ≤ vk ∧ vk ≤ 6) (b_n : 0 ≤ vn ∧ vn ≤ 7) (b_mu : 0 ≤ vmu ∧ vmu ≤ 1000000000000000) (b_v : (-2147483648) ≤ vv ∧ vv ≤ 2147483647) (f1 : 0 ≤ 1 * vn + (-1) * vk + (-1)) (f2 : 0 ≤ 1 * vn + (-1) * vv + (-2)) (p1 : ORp vk vn vmu cc) (p2 : P5 vk vv cc) (p3 : P6 vk (vv + 1) cc cd) : ∃ vnu : Int, (0 ≤ vnu ∧ vnu ≤ 1000000000000000) ∧ (0 ≤ 1 * vmu + (-1) * vnu + (-1)) ∧ (ORp vk vn vnu cd) := by
  obtain ⟨h1, h2, h3, h4⟩ := p1
  have hk := h3 b_k.1
  have ev := p2.at (j := vk.toNat) (by omega)
  have ed := p3.eq (j := vk.toNat) (by omega)
  rw [show (vk + 1).toNat = vk.toNat + 1 by omega, orm_s] at h4
  have hw1 := w20_ge vk.toNat
  have hn : 0 ≤ ORm vn cc vk.toNat := orm_nn _ fun i hi => by have := h2 i (by omega); omega
  have he : ORm vn cd vk.toNat = ORm vn cc vk.toNat := orm_ext _ fun i hi => p3.ne (by omega)
  have hm : (vn + 1 - cc vk.toNat) * w20 vk.toNat = (vn + 1 - (vv + 1)) * w20 vk.toNat + w20 vk.toNat := by
    rw [ev, show vn + 1 - vv = (vn + 1 - (vv + 1)) + 1 by omega, Int.add_mul, Int.one_mul]
  have hp : 0 ≤ (vn + 1 - (vv + 1)) * w20 vk.toNat := Int.mul_nonneg (by omega) (by omega)
  refine ⟨ORm vn cd (vk + 1).toNat, ?_, ?_, ⟨by omega, by omega⟩, fun i hi => ?_, fun h => ?_, rfl⟩
  · rw [show (vk + 1).toNat = vk.toNat + 1 by omega, orm_s, he, ed]
    omega
  · rw [show (vk + 1).toNat = vk.toNat + 1 by omega, orm_s, he, ed]
    omega
  · rw [p3.ne (by omega)]
    exact h2 i (by omega)
  · rw [ed]
    omega
theorem lc_or4 (vk vn vmu vv : Int) (cc cd ce : Nat → Int) (b_k : 0 ≤ vk ∧ vk ≤ 6) (b_n : 0 ≤ vn ∧ vn ≤ 7) (b_mu : 0 ≤ vmu ∧ vmu ≤ 1000000000000000) (b_v : (-2147483648) ≤ vv ∧ vv ≤ 2147483647) (f1 : 0 ≤ 1 * vn + (-1) * vk + (-1)) (f2 : 0 ≤ 1 * vn + (-1) * vv + (-2)) (p1 : ORp vk vn vmu cc) (p2 : P5 vk vv cc) (p3 : P6 vk (vv + 1) cc cd) (p4 : P6 (vk + 1) (-1) cd ce) : ∃ vnu : Int, (0 ≤ vnu ∧ vnu ≤ 1000000000000000) ∧ (0 ≤ 1 * vmu + (-1) * vnu + (-1)) ∧ (ORp (vk + 1) vn vnu ce) := by
  obtain ⟨h1, h2, h3, h4⟩ := p1
  have hk := h3 b_k.1
  have ev := p2.at (j := vk.toNat) (by omega)
  have ed := p3.eq (j := vk.toNat) (by omega)
  have ed2 : ce vk.toNat = vv + 1 := by rw [p4.ne (by omega)]; exact ed
  have ed3 : ce (vk.toNat + 1) = -1 := p4.eq (by omega)
  rw [show (vk + 1).toNat = vk.toNat + 1 by omega, orm_s] at h4
  have hw1 := w20_ge vk.toNat
  have hw2 : (vn + 2) * w20 (vk.toNat + 1) + 1 ≤ w20 vk.toNat := by
    have : vk.toNat < 7 := by omega
    generalize vk.toNat = k at *
    match k, this with
    | 0, _ => show (vn + 2) * 1280000000 + 1 ≤ 25600000000; omega
    | 1, _ => show (vn + 2) * 64000000 + 1 ≤ 1280000000; omega
    | 2, _ => show (vn + 2) * 3200000 + 1 ≤ 64000000; omega
    | 3, _ => show (vn + 2) * 160000 + 1 ≤ 3200000; omega
    | 4, _ => show (vn + 2) * 8000 + 1 ≤ 160000; omega
    | 5, _ => show (vn + 2) * 400 + 1 ≤ 8000; omega
    | 6, _ => show (vn + 2) * 20 + 1 ≤ 400; omega
  have hw3 := w20_ge (vk.toNat + 1)
  have hn : 0 ≤ ORm vn cc vk.toNat := orm_nn _ fun i hi => by have := h2 i (by omega); omega
  have he : ORm vn ce vk.toNat = ORm vn cc vk.toNat := orm_ext _ fun i hi => by rw [p4.ne (by omega)]; exact p3.ne (by omega)
  have hm : (vn + 1 - cc vk.toNat) * w20 vk.toNat = (vn + 1 - (vv + 1)) * w20 vk.toNat + w20 vk.toNat := by
    rw [ev, show vn + 1 - vv = (vn + 1 - (vv + 1)) + 1 by omega, Int.add_mul, Int.one_mul]
  have hp : 0 ≤ (vn + 1 - (vv + 1)) * w20 vk.toNat := Int.mul_nonneg (by omega) (by omega)
  have hp2 : 0 ≤ (vn + 2) * w20 (vk.toNat + 1) := Int.mul_nonneg (by omega) (by omega)
  have hr : ORm vn ce (vk + 1 + 1).toNat = ORm vn cc vk.toNat + (vn + 1 - (vv + 1)) * w20 vk.toNat + (vn + 2) * w20 (vk.toNat + 1) := by
    rw [show (vk + 1 + 1).toNat = vk.toNat + 1 + 1 by omega, orm_s, orm_s, he, ed2, ed3, show vn + 1 - -1 = vn + 2 by omega]
  refine ⟨ORm vn ce (vk + 1 + 1).toNat, ?_, ?_, ⟨by omega, by omega⟩, fun i hi => ?_, fun h => ?_, rfl⟩
  · rw [hr]
    omega
  · rw [hr]
    omega
  · by_cases e : i = vk.toNat
    · rw [e, ed2]
      omega
    · rw [p4.ne (by omega), p3.ne (by omega)]
      exact h2 i (by omega)
  · rw [show (vk + 1).toNat = vk.toNat + 1 by omega, ed3]
    omega
theorem lc_orn (vk vn vmu : Int) (cc : Nat → Int) (b_k : 0 ≤ vk ∧ vk ≤ 7) (b_n : 0 ≤ vn ∧ vn ≤ 7) (b_mu : 0 ≤ vmu ∧ vmu ≤ 1000000000000000) (f1 : 0 ≤ 1 * vk + (-1) * vn + 0) (f2 : 0 ≤ (-1) * vk + 1 * vn + 0) (p1 : ORp vk vn vmu cc) : ORp vn vn vmu cc := by
  rw [show vn = vk by omega] at p1 ⊢
  exact p1
theorem lc_orx (vn vmu vt vx : Int) (cc : Nat → Int) (b_n : 0 ≤ vn ∧ vn ≤ 7) (b_mu : 0 ≤ vmu ∧ vmu ≤ 1000000000000000) (b_t : 0 ≤ vt ∧ vt ≤ 6) (b_x : (-2147483648) ≤ vx ∧ vx ≤ 2147483647) (f1 : 0 ≤ 1 * vn + (-1) * vt + (-1)) (p1 : ORp vn vn vmu cc) (p2 : P5 vt vx cc) : (0 ≤ 1 * vx + 0) ∧ (0 ≤ (-1) * vx + 1 * vn + (-1)) := by
  have q := p1.2.1 vt.toNat (by omega)
  have e := p2.at (j := vt.toNat) (by omega)
  rw [e] at q
  omega
theorem lc_sd0 (vf vn vm : Int) (cc : Nat → Int) (b_f : 0 ≤ vf ∧ vf ≤ 1) (b_n : 0 ≤ vn ∧ vn ≤ 7) (b_m : 0 ≤ vm ∧ vm ≤ 8) (p1 : SDp vf vn vm cc) : SDp 0 vn vm cc := by
  exact sd_weak p1
theorem w60_ge (i : Nat) : 1 ≤ w60 i := by
  unfold w60
  split <;> decide
theorem plm_ext {c d : Nat → Int} : ∀ k : Nat, (∀ i, i < k → d i = c i) → PLm d k = PLm c k
  | 0, _ => rfl
  | k + 1, h => by
    unfold PLm
    rw [plm_ext k fun i hi => h i (by omega), h k (by omega)]
theorem plm_nn {c : Nat → Int} : ∀ k : Nat, (∀ i, i < k → c i ≤ 49) → 0 ≤ PLm c k
  | 0, _ => Int.le_refl 0
  | k + 1, h => by
    unfold PLm
    have h1 := plm_nn k fun i hi => h i (by omega)
    have h2 := h k (by omega)
    have h3 := w60_ge k
    have h4 : 0 ≤ (50 - c k) * w60 k := Int.mul_nonneg (by omega) (by omega)
    omega
theorem plm_s (c : Nat → Int) (k : Nat) : PLm c (k + 1) = PLm c k + (50 - c k) * w60 k := rfl
theorem lc_pl0 (cc cd : Nat → Int) (p1 : P6 0 (-1) cc cd) : ∃ vmu : Int, (0 ≤ vmu ∧ vmu ≤ 1000000000000000) ∧ (PLp 0 vmu cd) := by
  have e := p1.eq (j := 0) rfl
  have em : PLm cd 1 = 51 * 12960000 := by
    show 0 + (50 - cd 0) * 12960000 = _
    rw [e]
    omega
  refine ⟨PLm cd 1, by omega, fun i hi => ?_, rfl⟩
  rw [show i = 0 by omega, e]
  omega
theorem lc_plq (vk vmu vv vx : Int) (cc cd : Nat → Int) (b_k : 0 ≤ vk ∧ vk ≤ 2) (b_mu : 0 ≤ vmu ∧ vmu ≤ 1000000000000000) (b_v : (-2147483648) ≤ vv ∧ vv ≤ 2147483647) (b_x : 0 ≤ vx ∧ vx ≤ 49) (f1 : 0 ≤ 1 * vx + (-1) * vv + (-1)) (p1 : PLp vk vmu cc) (p2 : P5 vk vv cc) (p3 : P6 vk vx cc cd) : ∃ vnu : Int, (0 ≤ vnu ∧ vnu ≤ 1000000000000000) ∧ (0 ≤ 1 * vmu + (-1) * vnu + (-1)) ∧ (PQp vk vnu cd) := by
  obtain ⟨h1, h2⟩ := p1
  have ev := p2.at (j := vk.toNat) (by omega)
  have ed := p3.eq (j := vk.toNat) (by omega)
  rw [show (vk + 1).toNat = vk.toNat + 1 by omega, plm_s] at h2
  have hw1 := w60_ge vk.toNat
  have hn : 0 ≤ PLm cc vk.toNat := plm_nn _ fun i hi => (h1 i (by omega)).2
  have he : PLm cd vk.toNat = PLm cc vk.toNat := plm_ext _ fun i hi => p3.ne (by omega)
  have hr : PLm cd (vk + 1).toNat = PLm cc vk.toNat + (50 - vx) * w60 vk.toNat := by
    rw [show (vk + 1).toNat = vk.toNat + 1 by omega, plm_s, he, ed]
  have hp : 0 ≤ (50 - vx) * w60 vk.toNat := Int.mul_nonneg (by omega) (by omega)
  have hm : (50 - vx) * w60 vk.toNat + w60 vk.toNat ≤ (50 - cc vk.toNat) * w60 vk.toNat := by
    have := Int.mul_le_mul_of_nonneg_right (show 50 - vx + 1 ≤ 50 - cc vk.toNat by omega) (show 0 ≤ w60 vk.toNat by omega)
    rw [Int.add_mul, Int.one_mul] at this
    exact this
  refine ⟨PLm cd (vk + 1).toNat + w60 vk.toNat - 1, by omega, by omega, fun i hi => ?_, rfl⟩
  by_cases e : i = vk.toNat
  · rw [e, ed]
    omega
  · rw [p3.ne (by omega)]
    exact h1 i hi
theorem lc_plp (vk vmu : Int) (cc cd : Nat → Int) (b_k : 0 ≤ vk ∧ vk ≤ 1) (b_mu : 0 ≤ vmu ∧ vmu ≤ 1000000000000000) (p1 : PQp vk vmu cc) (p2 : P6 (vk + 1) (-1) cc cd) : ∃ vnu : Int, (0 ≤ vnu ∧ vnu ≤ 1000000000000000) ∧ (0 ≤ 1 * vmu + (-1) * vnu + 0) ∧ (PLp (vk + 1) vnu cd) := by
  obtain ⟨h1, h2⟩ := p1
  have ed : cd (vk.toNat + 1) = -1 := p2.eq (by omega)
  have hn : 0 ≤ PLm cc (vk + 1).toNat := plm_nn _ fun i hi => (h1 i (by omega)).2
  have he : PLm cd (vk + 1).toNat = PLm cc (vk + 1).toNat := plm_ext _ fun i hi => p2.ne (by omega)
  have hr : PLm cd (vk + 1 + 1).toNat = PLm cc (vk + 1).toNat + 51 * w60 (vk.toNat + 1) := by
    rw [show (vk + 1 + 1).toNat = (vk + 1).toNat + 1 by omega, plm_s, he, show (vk + 1).toNat = vk.toNat + 1 by omega, ed]
    rfl
  have hw : 51 * w60 (vk.toNat + 1) + 1 ≤ w60 vk.toNat := by
    have : vk.toNat < 2 := by omega
    generalize vk.toNat = k at *
    match k, this with
    | 0, _ => decide
    | 1, _ => decide
  have hw3 := w60_ge (vk.toNat + 1)
  refine ⟨PLm cd (vk + 1 + 1).toNat, by omega, by omega, fun i hi => ?_, rfl⟩
  by_cases e : i = vk.toNat + 1
  · rw [e, ed]
    omega
  · rw [p2.ne (by omega)]
    exact h1 i (by omega)
theorem lc_pls (vk vmu : Int) (cc : Nat → Int) (b_k : 0 ≤ vk ∧ vk ≤ 2) (b_mu : 0 ≤ vmu ∧ vmu ≤ 1000000000000000) (p1 : PQp vk vmu cc) : ∃ vnu : Int, (0 ≤ vnu ∧ vnu ≤ 1000000000000000) ∧ (0 ≤ 1 * vmu + (-1) * vnu + 0) ∧ (PLp vk vnu cc) := by
  obtain ⟨h1, h2⟩ := p1
  have hn : 0 ≤ PLm cc (vk + 1).toNat := plm_nn _ fun i hi => (h1 i (by omega)).2
  have hw := w60_ge vk.toNat
  exact ⟨PLm cc (vk + 1).toNat, by omega, by omega, h1, rfl⟩
theorem lc_plo (vk vmu : Int) (cc : Nat → Int) (b_k : 0 ≤ vk ∧ vk ≤ 2) (b_mu : 0 ≤ vmu ∧ vmu ≤ 1000000000000000) (p1 : PLp vk vmu cc) : ∃ vnu : Int, (0 ≤ vnu ∧ vnu ≤ 1000000000000000) ∧ (0 ≤ 1 * vmu + (-1) * vnu + (-1)) ∧ (PLp (vk + -1) vnu cc) := by
  obtain ⟨h1, h2⟩ := p1
  rw [show (vk + 1).toNat = vk.toNat + 1 by omega, plm_s] at h2
  have hk := h1 vk.toNat (by omega)
  have hw := mul_ge (a := 50 - cc vk.toNat) (by omega) (w60_ge vk.toNat)
  have hw1 := w60_ge vk.toNat
  have hn : 0 ≤ PLm cc vk.toNat := plm_nn _ fun i hi => (h1 i (by omega)).2
  exact ⟨PLm cc vk.toNat, by omega, by omega, fun i hi => h1 i (by omega), by rw [show (vk + -1 + 1).toNat = vk.toNat by omega]⟩
theorem lc_lt1 (vk vv : Int) (cc : Nat → Int) (b_k : 0 ≤ vk ∧ vk ≤ 801) (b_v : 97 ≤ vv ∧ vv ≤ 122) (p1 : P5 vk vv cc) : LTp vk cc := by
  have e := p1.at (j := vk.toNat) (by omega)
  unfold LTp
  omega
theorem lc_lt2 (vk vt : Int) (cc : Nat → Int) (b_k : 0 ≤ vk ∧ vk ≤ 801) (b_t : 0 ≤ vt ∧ vt ≤ 400) (f1 : 0 ≤ 1 * vk + (-1) * vt + 0) : NLp vk vt cc := by
  intro h
  omega
theorem lc_lt3 (vk vt vv : Int) (cc : Nat → Int) (b_k : 0 ≤ vk ∧ vk ≤ 801) (b_t : 0 ≤ vt ∧ vt ≤ 400) (b_v : (-128) ≤ vv ∧ vv ≤ 96) (p1 : P5 vk vv cc) : NLp vk vt cc := by
  have e := p1.at (j := vk.toNat) (by omega)
  intro h
  have := h.2.1
  omega
theorem lc_lt4 (vk vt vv : Int) (cc : Nat → Int) (b_k : 0 ≤ vk ∧ vk ≤ 801) (b_t : 0 ≤ vt ∧ vt ≤ 400) (b_v : 123 ≤ vv ∧ vv ≤ 127) (p1 : P5 vk vv cc) : NLp vk vt cc := by
  have e := p1.at (j := vk.toNat) (by omega)
  intro h
  have := h.2.2
  omega
theorem lc_lt5 (vk vt : Int) (cc : Nat → Int) (b_k : 0 ≤ vk ∧ vk ≤ 801) (b_t : 0 ≤ vt ∧ vt ≤ 400) (f1 : 0 ≤ 1 * vt + (-1) * vk + (-1)) (p1 : LTp vk cc) (p2 : NLp vk vt cc) : False := by
  exact p2 ⟨by omega, p1⟩
theorem lc_dg1 (vk vv : Int) (cc : Nat → Int) (b_k : 0 ≤ vk ∧ vk ≤ 801) (b_v : 48 ≤ vv ∧ vv ≤ 57) (p1 : P5 vk vv cc) : DGp vk cc := by
  have e := p1.at (j := vk.toNat) (by omega)
  unfold DGp
  omega
theorem lc_dg2 (vk vt : Int) (cc : Nat → Int) (b_k : 0 ≤ vk ∧ vk ≤ 801) (b_t : 0 ≤ vt ∧ vt ≤ 400) (f1 : 0 ≤ 1 * vk + (-1) * vt + 0) : NDp vk vt cc := by
  intro h
  omega
theorem lc_dg3 (vk vt vv : Int) (cc : Nat → Int) (b_k : 0 ≤ vk ∧ vk ≤ 801) (b_t : 0 ≤ vt ∧ vt ≤ 400) (b_v : (-128) ≤ vv ∧ vv ≤ 47) (p1 : P5 vk vv cc) : NDp vk vt cc := by
  have e := p1.at (j := vk.toNat) (by omega)
  intro h
  have := h.2.1
  omega
theorem lc_dg4 (vk vt vv : Int) (cc : Nat → Int) (b_k : 0 ≤ vk ∧ vk ≤ 801) (b_t : 0 ≤ vt ∧ vt ≤ 400) (b_v : 58 ≤ vv ∧ vv ≤ 127) (p1 : P5 vk vv cc) : NDp vk vt cc := by
  have e := p1.at (j := vk.toNat) (by omega)
  intro h
  have := h.2.2
  omega
theorem lc_dg5 (vk vt : Int) (cc : Nat → Int) (b_k : 0 ≤ vk ∧ vk ≤ 801) (b_t : 0 ≤ vt ∧ vt ≤ 400) (f1 : 0 ≤ 1 * vt + (-1) * vk + (-1)) (p1 : DGp vk cc) (p2 : NDp vk vt cc) : False := by
  exact p2 ⟨by omega, p1⟩
theorem lc_lt6 (vk vv : Int) (cc : Nat → Int) (b_k : 0 ≤ vk ∧ vk ≤ 801) (b_v : (-2147483648) ≤ vv ∧ vv ≤ 2147483647) (p1 : LTp vk cc) (p2 : P5 vk vv cc) : 0 ≤ 1 * vv + (-97) := by
  have e := p2.at (j := vk.toNat) (by omega)
  have := p1.1
  omega
theorem de_ext {t b e j : Int} {G H : Nat → Int} (b_t : 0 ≤ t) (h : DEp t b e j G) (q : ∀ i : Nat, 400 * t + b ≤ i → (i : Int) < 400 * t + e → H i = G i) : DEp t b e j H := by
  obtain ⟨h1, h2, h3⟩ := h
  refine ⟨h1, h2, ?_⟩
  rw [dep_ext _ fun i hi => q _ (by omega) (by omega)]
  exact h3
theorem de_snoc {t b l d z : Int} {G H : Nat → Int} (b_t : 0 ≤ t) {d' : Nat} (h : DEp t b l d G) (u : P6 (400 * t + l) z G H) (ho : sd_one z d.toNat = some d') : DEp t b (l + 1) d' H := by
  have h' := de_ext b_t h (H := H) fun i h1 h2 => u.ne (by omega)
  obtain ⟨h1, h2, h3⟩ := h'
  refine ⟨⟨h1.1, by omega⟩, by omega, ?_⟩
  rw [show (l + 1 - b).toNat = (l - b).toNat + 1 by omega]
  unfold dep
  rw [h3, u.eq (j := 400 * t.toNat + b.toNat + (l - b).toNat) (by omega)]
  exact ho
theorem clq_ext {G H C : Nat → Int} {t j : Nat} {l l' : Int} (h : CLq G C t j l) (q : ∀ i : Nat, 400 * (t : Int) ≤ i → (i : Int) < 400 * t + l → H i = G i) (hl : l ≤ l') : CLq H C t j l' := by
  obtain ⟨h1, h2, h3⟩ := h
  have b1 := h1.1
  refine ⟨de_ext (Int.natCast_nonneg t) h1 fun i a b => q i (by omega) (by omega), by omega, ?_⟩
  rcases h3 with h3 | ⟨h3, h4⟩
  · exact Or.inl h3
  · have b2 := h3.1
    exact Or.inr ⟨de_ext (Int.natCast_nonneg t) h3 fun i a b => q i (by omega) (by omega), by omega⟩
theorem clq_c {G C D : Nat → Int} {t j : Nat} {l : Int} (h : CLq G C t j l) (q : ∀ i : Nat, 48 * t + 4 * j ≤ i → i ≤ 48 * t + 4 * j + 3 → D i = C i) : CLq G D t j l := by
  unfold CLq
  rw [q _ (by omega) (by omega), q _ (by omega) (by omega), q _ (by omega) (by omega), q _ (by omega) (by omega)]
  exact h
theorem pr_put {text p q b l d z : Int} {G C L H : Nat → Int} {d' : Nat} (b_text : 0 ≤ text ∧ text ≤ 5) (b_l : 0 ≤ l ∧ l ≤ 399) (h : PRp text p q b l d G C L) (u : P6 (400 * text + l) z G H) (ho : sd_one z d.toNat = some d') : PRp text p q b (l + 1) d' H C L := by
  obtain ⟨h1, h2, h3⟩ := h
  refine ⟨fun t ht => ⟨(h1 t ht).1, fun j hj => ?_⟩, ?_, de_snoc b_text.1 h3 u ho⟩
  · have hc := (h1 t ht).2 j hj
    by_cases e : (t : Int) = text
    · rw [if_pos e] at hc ⊢
      exact clq_ext hc (fun i a b => u.ne (by omega)) (by omega)
    · rw [if_neg e] at hc ⊢
      exact clq_ext hc (fun i a b => u.ne (by omega)) (by omega)
  · rcases h2 with h2 | ⟨h2, h4⟩
    · exact Or.inl h2
    · have b2 := h2.1
      exact Or.inr ⟨de_ext b_text.1 h2 fun i a b => u.ne (by omega), by omega⟩
theorem one_is_n {z : Int} {d : Nat} (h0 : 0 ≤ z) (hz : z % 16 = 0) (hd : d < 60) : sd_one z d = some (d + 1) := by
  unfold sd_one
  rw [if_neg (by omega), if_pos hz, if_pos hd]
theorem one_is_w {z : Int} {d : Nat} (h0 : 0 ≤ z) (hz : z % 16 = 1) (hd : d < 60 ∧ z / 16 ≤ 11) : sd_one z d = some (d + 1) := by
  unfold sd_one
  rw [if_neg (by omega), if_neg (by omega), if_pos hz, if_pos hd]
theorem one_is_t {z : Int} {d : Nat} (h0 : 0 ≤ z) (hz : z % 16 = 11) (hd : 1 ≤ d ∧ d ≤ 60) : sd_one z d = some d := by
  unfold sd_one
  rw [if_neg (by omega), if_neg (by omega), if_neg (by omega), if_pos hz, if_pos hd]
theorem one_is_o {z : Int} {d : Nat} (h0 : 0 ≤ z) (h1 : z % 16 ≠ 0) (h2 : z % 16 ≠ 1) (h3 : z % 16 ≠ 11) (hd : 2 ≤ d ∧ d ≤ 60) : sd_one z d = some (d - 1) := by
  unfold sd_one
  rw [if_neg (by omega), if_neg h1, if_neg h2, if_neg h3, if_pos hd]
theorem lc_pun (vtext vp vq vb vl vd vt vz_ vs vv : Int) (cG cC cL cH : Nat → Int) (b_text : 0 ≤ vtext ∧ vtext ≤ 5) (b_p : 0 ≤ vp ∧ vp ≤ 400) (b_q : 0 ≤ vq ∧ vq ≤ 400) (b_b : 0 ≤ vb ∧ vb ≤ 400) (b_l : 0 ≤ vl ∧ vl ≤ 399) (b_d : 0 ≤ vd ∧ vd ≤ 59) (b_t : (-2147483648) ≤ vt ∧ vt ≤ 2147483647) (b_z_ : (-2147483648) ≤ vz_ ∧ vz_ ≤ 2147483647) (b_s : 0 ≤ vs ∧ vs ≤ 0) (b_v : 0 ≤ vv ∧ vv ≤ 99999) (f1 : 0 ≤ 1 * vt + (-400) * vtext + (-1) * vl + 0) (f2 : 0 ≤ (-1) * vt + 400 * vtext + 1 * vl + 0) (f3 : 0 ≤ 1 * vz_ + (-1) * vs + (-16) * vv + 0) (f4 : 0 ≤ (-1) * vz_ + 1 * vs + 16 * vv + 0) (p1 : PRp vtext vp vq vb vl vd cG cC cL) (p2 : P6 vt vz_ cG cH) : PRp vtext vp vq vb (vl + 1) (vd + 1) cH cC cL := by
  rw [show vt = 400 * vtext + vl by omega] at p2
  have q := pr_put b_text b_l p1 p2 (one_is_n (d := vd.toNat) (by omega) (by omega) (by omega))
  rw [show ((vd.toNat + 1 : Nat) : Int) = vd + 1 by omega] at q
  exact q
theorem lc_puw (vtext vp vq vb vl vd vt vz_ vs vv : Int) (cG cC cL cH : Nat → Int) (b_text : 0 ≤ vtext ∧ vtext ≤ 5) (b_p : 0 ≤ vp ∧ vp ≤ 400) (b_q : 0 ≤ vq ∧ vq ≤ 400) (b_b : 0 ≤ vb ∧ vb ≤ 400) (b_l : 0 ≤ vl ∧ vl ≤ 399) (b_d : 0 ≤ vd ∧ vd ≤ 59) (b_t : (-2147483648) ≤ vt ∧ vt ≤ 2147483647) (b_z_ : (-2147483648) ≤ vz_ ∧ vz_ ≤ 2147483647) (b_s : 1 ≤ vs ∧ vs ≤ 1) (b_v : 0 ≤ vv ∧ vv ≤ 11) (f1 : 0 ≤ 1 * vt + (-400) * vtext + (-1) * vl + 0) (f2 : 0 ≤ (-1) * vt + 400 * vtext + 1 * vl + 0) (f3 : 0 ≤ 1 * vz_ + (-1) * vs + (-16) * vv + 0) (f4 : 0 ≤ (-1) * vz_ + 1 * vs + 16 * vv + 0) (p1 : PRp vtext vp vq vb vl vd cG cC cL) (p2 : P6 vt vz_ cG cH) : PRp vtext vp vq vb (vl + 1) (vd + 1) cH cC cL := by
  rw [show vt = 400 * vtext + vl by omega] at p2
  have q := pr_put b_text b_l p1 p2 (one_is_w (d := vd.toNat) (by omega) (by omega) (by omega))
  rw [show ((vd.toNat + 1 : Nat) : Int) = vd + 1 by omega] at q
  exact q
theorem lc_put (vtext vp vq vb vl vd vt vz_ vs vv : Int) (cG cC cL cH : Nat → Int) (b_text : 0 ≤ vtext ∧ vtext ≤ 5) (b_p : 0 ≤ vp ∧ vp ≤ 400) (b_q : 0 ≤ vq ∧ vq ≤ 400) (b_b : 0 ≤ vb ∧ vb ≤ 400) (b_l : 0 ≤ vl ∧ vl ≤ 399) (b_d : 1 ≤ vd ∧ vd ≤ 60) (b_t : (-2147483648) ≤ vt ∧ vt ≤ 2147483647) (b_z_ : (-2147483648) ≤ vz_ ∧ vz_ ≤ 2147483647) (b_s : 11 ≤ vs ∧ vs ≤ 11) (b_v : 0 ≤ vv ∧ vv ≤ 0) (f1 : 0 ≤ 1 * vt + (-400) * vtext + (-1) * vl + 0) (f2 : 0 ≤ (-1) * vt + 400 * vtext + 1 * vl + 0) (f3 : 0 ≤ 1 * vz_ + (-1) * vs + (-16) * vv + 0) (f4 : 0 ≤ (-1) * vz_ + 1 * vs + 16 * vv + 0) (p1 : PRp vtext vp vq vb vl vd cG cC cL) (p2 : P6 vt vz_ cG cH) : PRp vtext vp vq vb (vl + 1) vd cH cC cL := by
  rw [show vt = 400 * vtext + vl by omega] at p2
  have q := pr_put b_text b_l p1 p2 (one_is_t (d := vd.toNat) (by omega) (by omega) (by omega))
  rw [show ((vd.toNat : Nat) : Int) = vd by omega] at q
  exact q
theorem lc_puo (vtext vp vq vb vl vd vt vz_ vs vv : Int) (cG cC cL cH : Nat → Int) (b_text : 0 ≤ vtext ∧ vtext ≤ 5) (b_p : 0 ≤ vp ∧ vp ≤ 400) (b_q : 0 ≤ vq ∧ vq ≤ 400) (b_b : 0 ≤ vb ∧ vb ≤ 400) (b_l : 0 ≤ vl ∧ vl ≤ 399) (b_d : 2 ≤ vd ∧ vd ≤ 60) (b_t : (-2147483648) ≤ vt ∧ vt ≤ 2147483647) (b_z_ : (-2147483648) ≤ vz_ ∧ vz_ ≤ 2147483647) (b_s : 2 ≤ vs ∧ vs ≤ 10) (b_v : 0 ≤ vv ∧ vv ≤ 0) (f1 : 0 ≤ 1 * vt + (-400) * vtext + (-1) * vl + 0) (f2 : 0 ≤ (-1) * vt + 400 * vtext + 1 * vl + 0) (f3 : 0 ≤ 1 * vz_ + (-1) * vs + (-16) * vv + 0) (f4 : 0 ≤ (-1) * vz_ + 1 * vs + 16 * vv + 0) (p1 : PRp vtext vp vq vb vl vd cG cC cL) (p2 : P6 vt vz_ cG cH) : PRp vtext vp vq vb (vl + 1) (vd + -1) cH cC cL := by
  rw [show vt = 400 * vtext + vl by omega] at p2
  have q := pr_put b_text b_l p1 p2 (one_is_o (d := vd.toNat) (by omega) (by omega) (by omega) (by omega) (by omega))
  rw [show ((vd.toNat - 1 : Nat) : Int) = vd + -1 by omega] at q
  exact q
theorem lc_puq (vtext vp vq vb vl vd vt vz_ vs vv : Int) (cG cC cL cH : Nat → Int) (b_text : 0 ≤ vtext ∧ vtext ≤ 5) (b_p : 0 ≤ vp ∧ vp ≤ 400) (b_q : 0 ≤ vq ∧ vq ≤ 400) (b_b : 0 ≤ vb ∧ vb ≤ 400) (b_l : 0 ≤ vl ∧ vl ≤ 399) (b_d : 2 ≤ vd ∧ vd ≤ 60) (b_t : (-2147483648) ≤ vt ∧ vt ≤ 2147483647) (b_z_ : (-2147483648) ≤ vz_ ∧ vz_ ≤ 2147483647) (b_s : 12 ≤ vs ∧ vs ≤ 14) (b_v : 0 ≤ vv ∧ vv ≤ 0) (f1 : 0 ≤ 1 * vt + (-400) * vtext + (-1) * vl + 0) (f2 : 0 ≤ (-1) * vt + 400 * vtext + 1 * vl + 0) (f3 : 0 ≤ 1 * vz_ + (-1) * vs + (-16) * vv + 0) (f4 : 0 ≤ (-1) * vz_ + 1 * vs + 16 * vv + 0) (p1 : PRp vtext vp vq vb vl vd cG cC cL) (p2 : P6 vt vz_ cG cH) : PRp vtext vp vq vb (vl + 1) (vd + -1) cH cC cL := by
  rw [show vt = 400 * vtext + vl by omega] at p2
  have q := pr_put b_text b_l p1 p2 (one_is_o (d := vd.toNat) (by omega) (by omega) (by omega) (by omega) (by omega))
  rw [show ((vd.toNat - 1 : Nat) : Int) = vd + -1 by omega] at q
  exact q
theorem oc_ext {p : Int → Bool} {c d : Nat → Int} : ∀ k : Nat, (∀ i, i < k → d i = c i) → ocnt p d k = ocnt p c k
  | 0, _ => rfl
  | k + 1, h => by
    unfold ocnt
    rw [oc_ext k fun i hi => h i (by omega), h k (by omega)]
theorem oc_b {p : Int → Bool} {c : Nat → Int} : ∀ k : Nat, 0 ≤ ocnt p c k ∧ ocnt p c k ≤ k
  | 0 => ⟨Int.le_refl 0, Int.le_refl 0⟩
  | k + 1 => by
    unfold ocnt
    have := oc_b (p := p) (c := c) k
    split <;> omega
theorem oc_s (p : Int → Bool) (c : Nat → Int) (k : Nat) : ocnt p c (k + 1) = ocnt p c k + if p (c k) then 1 else 0 := rfl
theorem oc_z {p : Int → Bool} {c : Nat → Int} : ∀ k : Nat, (∀ i, i < k → p (c i) = false) → ocnt p c k = 0
  | 0, _ => rfl
  | k + 1, h => by
    rw [oc_s, oc_z k fun i hi => h i (by omega), h k (by omega)]
    rfl
theorem oc_p {p : Int → Bool} {c : Nat → Int} : ∀ k : Nat, ∀ i, i < k → p (c i) = true → 1 ≤ ocnt p c k
  | 0, i, hi, _ => by omega
  | k + 1, i, hi, h => by
    rw [oc_s]
    have hb := oc_b (p := p) (c := c) k
    by_cases e : i = k
    · rw [← e, h]
      rw [← e] at hb
      simp only [if_true]
      omega
    · have := oc_p k i (by omega) h
      split <;> omega
theorem op_push {o w y v : Int} {c d : Nat → Int} (b_o : 0 ≤ o) (h : OPp o w y c) (u : P6 o v c d) (hv : v = 11 ∨ v = 12 ∨ v = 13 ∨ v = 91) : (0 ≤ 1 * o + (-1) * y + 0) ∧ (0 ≤ 1 * o + (-1) * w + 0) ∧ OPp (o + 1) (w + if o_w v then 1 else 0) (y + if o_y v then 1 else 0) d := by
  obtain ⟨h1, h2, h3⟩ := h
  have b1 := oc_b (p := o_w) (c := c) o.toNat
  have b2 := oc_b (p := o_y) (c := c) o.toNat
  have e : d o.toNat = v := u.eq (by omega)
  refine ⟨by omega, by omega, fun i hi => ?_, ?_, ?_⟩
  · by_cases g : (i : Int) = o
    · rw [u.eq g]
      exact hv
    · rw [u.ne g]
      exact h1 i (by omega)
  · rw [show (o + 1).toNat = o.toNat + 1 by omega, oc_s, e, oc_ext _ fun i hi => u.ne (by omega), h2]
  · rw [show (o + 1).toNat = o.toNat + 1 by omega, oc_s, e, oc_ext _ fun i hi => u.ne (by omega), h3]
theorem lc_op0 (cc : Nat → Int) : OPp 0 0 0 cc := by
  exact ⟨fun i hi => by omega, rfl, rfl⟩
theorem lc_opn (vo vw vy vv : Int) (cc cd : Nat → Int) (b_o : 0 ≤ vo ∧ vo ≤ 399) (b_w : 0 ≤ vw ∧ vw ≤ 400) (b_y : 0 ≤ vy ∧ vy ≤ 400) (b_v : 11 ≤ vv ∧ vv ≤ 11) (p1 : OPp vo vw vy cc) (p2 : P6 vo vv cc cd) : (0 ≤ 1 * vo + (-1) * vy + 0) ∧ (0 ≤ 1 * vo + (-1) * vw + 0) ∧ (OPp (vo + 1) vw vy cd) := by
  have e : vv = 11 := by omega
  subst e
  obtain ⟨q1, q2, q3⟩ := op_push b_o.1 p1 p2 (by omega)
  exact ⟨q1, q2, by simpa [o_w, o_y] using q3⟩
theorem lc_opb (vo vw vy vv : Int) (cc cd : Nat → Int) (b_o : 0 ≤ vo ∧ vo ≤ 399) (b_w : 0 ≤ vw ∧ vw ≤ 400) (b_y : 0 ≤ vy ∧ vy ≤ 400) (b_v : 91 ≤ vv ∧ vv ≤ 91) (p1 : OPp vo vw vy cc) (p2 : P6 vo vv cc cd) : (0 ≤ 1 * vo + (-1) * vy + 0) ∧ (0 ≤ 1 * vo + (-1) * vw + 0) ∧ (OPp (vo + 1) vw (vy + 1) cd) := by
  have e : vv = 91 := by omega
  subst e
  obtain ⟨q1, q2, q3⟩ := op_push b_o.1 p1 p2 (by omega)
  exact ⟨q1, q2, by simpa [o_w, o_y] using q3⟩
theorem lc_opa (vo vw vy vv : Int) (cc cd : Nat → Int) (b_o : 0 ≤ vo ∧ vo ≤ 399) (b_w : 0 ≤ vw ∧ vw ≤ 400) (b_y : 0 ≤ vy ∧ vy ≤ 400) (b_v : 12 ≤ vv ∧ vv ≤ 13) (p1 : OPp vo vw vy cc) (p2 : P6 vo vv cc cd) : (0 ≤ 1 * vo + (-1) * vy + 0) ∧ (0 ≤ 1 * vo + (-1) * vw + 0) ∧ (OPp (vo + 1) (vw + 1) vy cd) := by
  rcases (show vv = 12 ∨ vv = 13 by omega) with e | e
  · subst e
    obtain ⟨q1, q2, q3⟩ := op_push b_o.1 p1 p2 (by omega)
    exact ⟨q1, q2, by simpa [o_w, o_y] using q3⟩
  · subst e
    obtain ⟨q1, q2, q3⟩ := op_push b_o.1 p1 p2 (by omega)
    exact ⟨q1, q2, by simpa [o_w, o_y] using q3⟩
theorem lc_oqa (vo vw vy vv : Int) (cc : Nat → Int) (b_o : 1 ≤ vo ∧ vo ≤ 400) (b_w : 0 ≤ vw ∧ vw ≤ 400) (b_y : 0 ≤ vy ∧ vy ≤ 400) (b_v : 12 ≤ vv ∧ vv ≤ 13) (p1 : OPp vo vw vy cc) (p2 : P5 (vo + -1) vv cc) : (0 ≤ 1 * vw + (-1)) ∧ (OPp (vo + -1) (vw + -1) vy cc) := by
  obtain ⟨h1, h2, h3⟩ := p1
  have e := p2.at (j := (vo + -1).toNat) (by omega)
  rw [show vo.toNat = (vo + -1).toNat + 1 by omega, oc_s, e] at h2 h3
  have b := oc_b (p := o_w) (c := cc) (vo + -1).toNat
  have w1 : o_w vv = true := by
    unfold o_w
    simp
    omega
  have y1 : o_y vv = false := by
    unfold o_y
    simp
    omega
  rw [w1] at h2
  rw [y1] at h3
  simp at h2 h3
  exact ⟨by omega, fun i hi => h1 i (by omega), by omega, h3⟩
theorem lc_oqn (vo vw vy vv : Int) (cc : Nat → Int) (b_o : 1 ≤ vo ∧ vo ≤ 400) (b_w : 0 ≤ vw ∧ vw ≤ 400) (b_y : 0 ≤ vy ∧ vy ≤ 400) (b_v : 11 ≤ vv ∧ vv ≤ 11) (p1 : OPp vo vw vy cc) (p2 : P5 (vo + -1) vv cc) : OPp (vo + -1) vw vy cc := by
  obtain ⟨h1, h2, h3⟩ := p1
  have e := p2.at (j := (vo + -1).toNat) (by omega)
  rw [show vo.toNat = (vo + -1).toNat + 1 by omega, oc_s, e] at h2 h3
  have w1 : o_w vv = false := by
    unfold o_w
    simp
    omega
  have y1 : o_y vv = false := by
    unfold o_y
    simp
    omega
  rw [w1] at h2
  rw [y1] at h3
  simp at h2 h3
  exact ⟨fun i hi => h1 i (by omega), h2, h3⟩
theorem lc_oqi (vo vw vy vv : Int) (cc : Nat → Int) (b_o : 1 ≤ vo ∧ vo ≤ 400) (b_w : 0 ≤ vw ∧ vw ≤ 400) (b_y : 0 ≤ vy ∧ vy ≤ 400) (b_v : (-2147483648) ≤ vv ∧ vv ≤ 2147483647) (p1 : OPp vo vw vy cc) (p2 : P5 (vo + -1) vv cc) (p3 : vv ≠ 13) (p4 : vv ≠ 12) (p5 : vv ≠ 11) : (0 ≤ 1 * vy + (-1)) ∧ (TIp vo cc) := by
  obtain ⟨h1, h2, h3⟩ := p1
  have e := p2.at (j := (vo + -1).toNat) (by omega)
  have q := h1 (vo + -1).toNat (by omega)
  rw [e] at q
  have e2 : cc (vo - 1).toNat = 91 := by
    rw [show (vo - 1).toNat = (vo + -1).toNat by omega, e]
    omega
  have := oc_p (p := o_y) (c := cc) vo.toNat (vo - 1).toNat (by omega) (by rw [e2]; rfl)
  exact ⟨by omega, by omega, e2⟩
theorem lc_oq0 (vo vw vy : Int) (cc : Nat → Int) (b_o : 0 ≤ vo ∧ vo ≤ 0) (b_w : 0 ≤ vw ∧ vw ≤ 400) (b_y : 0 ≤ vy ∧ vy ≤ 400) (p1 : OPp vo vw vy cc) : (0 ≤ (-1) * vw + 0) ∧ (0 ≤ (-1) * vy + 0) := by
  obtain ⟨h1, h2, h3⟩ := p1
  rw [show vo.toNat = 0 by omega] at h2 h3
  have e1 : vw = 0 := h2
  have e2 : vy = 0 := h3
  omega
theorem lc_oqp (vo vw vy : Int) (cc : Nat → Int) (b_o : 0 ≤ vo ∧ vo ≤ 400) (b_w : 0 ≤ vw ∧ vw ≤ 400) (b_y : 0 ≤ vy ∧ vy ≤ 400) (p1 : OPp vo vw vy cc) (p2 : TIp vo cc) : (0 ≤ 1 * vo + (-1)) ∧ (0 ≤ 1 * vy + (-1)) ∧ (OPp (vo + -1) vw (vy + -1) cc) := by
  obtain ⟨h1, h2, h3⟩ := p1
  have o1 := p2.1
  have e : cc (vo + -1).toNat = 91 := by
    rw [show (vo + -1).toNat = (vo - 1).toNat by omega]
    exact p2.2
  rw [show vo.toNat = (vo + -1).toNat + 1 by omega, oc_s, e] at h2 h3
  have b := oc_b (p := o_y) (c := cc) (vo + -1).toNat
  simp [o_w] at h2
  simp [o_y] at h3
  exact ⟨by omega, by omega, fun i hi => h1 i (by omega), h2, by omega⟩
theorem lc_ni0 (cc : Nat → Int) : NIp 0 cc := by
  exact fun i hi => by omega
theorem lc_ni1 (vk vv : Int) (cc : Nat → Int) (b_k : 0 ≤ vk ∧ vk ≤ 400) (b_v : (-2147483648) ≤ vv ∧ vv ≤ 2147483647) (p1 : NIp vk cc) (p2 : P5 vk vv cc) (p3 : vv ≠ 91) : NIp (vk + 1) cc := by
  intro i hi
  by_cases e : (i : Int) = vk
  · rw [p2.at e]
    exact p3
  · exact p1 i (by omega)
theorem lc_nie (vo vw vy vk : Int) (cc : Nat → Int) (b_o : 0 ≤ vo ∧ vo ≤ 400) (b_w : 0 ≤ vw ∧ vw ≤ 400) (b_y : 0 ≤ vy ∧ vy ≤ 400) (b_k : 0 ≤ vk ∧ vk ≤ 400) (f1 : 0 ≤ 1 * vk + (-1) * vo + 0) (p1 : OPp vo vw vy cc) (p2 : NIp vk cc) : 0 ≤ (-1) * vy + 0 := by
  obtain ⟨h1, h2, h3⟩ := p1
  have e := oc_z (p := o_y) (c := cc) vo.toNat fun i hi => by
    have := p2 i (by omega)
    unfold o_y
    simpa using this
  omega
theorem lc_nii (vo vw vy vk vv : Int) (cc : Nat → Int) (b_o : 0 ≤ vo ∧ vo ≤ 400) (b_w : 0 ≤ vw ∧ vw ≤ 400) (b_y : 0 ≤ vy ∧ vy ≤ 400) (b_k : 0 ≤ vk ∧ vk ≤ 400) (b_v : 91 ≤ vv ∧ vv ≤ 91) (f1 : 0 ≤ 1 * vo + (-1) * vk + (-1)) (p1 : OPp vo vw vy cc) (p2 : P5 vk vv cc) : 0 ≤ 1 * vy + (-1) := by
  obtain ⟨h1, h2, h3⟩ := p1
  have e := p2.at (j := vk.toNat) (by omega)
  have := oc_p (p := o_y) (c := cc) vo.toNat vk.toNat (by omega) (by rw [e, show vv = 91 by omega]; rfl)
  omega
theorem ruq_c {text l k a : Int} {G C D L : Nat → Int} (b_text : 0 ≤ text ∧ text ≤ 5) (h : RUq text l G C L) (hk : P5 text k L) (ha : a = 48 * text + 4 * k) (b_k : 0 ≤ k ∧ k ≤ 11) (q : ∀ i : Nat, ((i : Int) < a ∨ a + 3 < i) → D i = C i) : RUq text l G D L := by
  intro t ht
  have h1 := h t ht
  refine ⟨h1.1, fun j hj => clq_c (h1.2 j hj) fun i i1 i2 => q i ?_⟩
  by_cases e : (t : Int) = text
  · have e2 := hk.at (j := t) e
    omega
  · omega
theorem lc_f0 (vtext vk va vl : Int) (cG cC cL cD : Nat → Int) (b_text : 0 ≤ vtext ∧ vtext ≤ 5) (b_k : 0 ≤ vk ∧ vk ≤ 11) (b_a : (-2147483648) ≤ va ∧ va ≤ 2147483647) (b_l : 0 ≤ vl ∧ vl ≤ 400) (f1 : 0 ≤ 1 * va + (-48) * vtext + (-4) * vk + 0) (f2 : 0 ≤ (-1) * va + 48 * vtext + 4 * vk + 0) (p1 : RUq vtext vl cG cC cL) (p2 : P5 vtext vk cL) (p3 : P6 va vl cC cD) : PRp vtext 1 0 vl vl 0 cG cD cL := by
  refine ⟨ruq_c (a := va) b_text p1 p2 (by omega) b_k fun i hi => p3.ne (by omega), Or.inl (by decide), ⟨by omega, by omega⟩, by omega, ?_⟩
  rw [show (vl - vl).toNat = 0 by omega]
  rfl
theorem lc_prru (vtext vp vq vb vl vd : Int) (cG cC cL : Nat → Int) (b_text : 0 ≤ vtext ∧ vtext ≤ 5) (b_p : 0 ≤ vp ∧ vp ≤ 400) (b_q : 0 ≤ vq ∧ vq ≤ 400) (b_b : 0 ≤ vb ∧ vb ≤ 400) (b_l : 0 ≤ vl ∧ vl ≤ 400) (b_d : 0 ≤ vd ∧ vd ≤ 60) (p1 : PRp vtext vp vq vb vl vd cG cC cL) : RUq vtext vl cG cC cL := by
  exact p1.1
theorem lc_f1 (vtext vk va vb vl vd : Int) (cG cC cL cD cE cF : Nat → Int) (b_text : 0 ≤ vtext ∧ vtext ≤ 5) (b_k : 0 ≤ vk ∧ vk ≤ 11) (b_a : (-2147483648) ≤ va ∧ va ≤ 2147483647) (b_b : 0 ≤ vb ∧ vb ≤ 400) (b_l : 0 ≤ vl ∧ vl ≤ 400) (b_d : 1 ≤ vd ∧ vd ≤ 1) (f1 : 0 ≤ 1 * va + (-48) * vtext + (-4) * vk + 0) (f2 : 0 ≤ (-1) * va + 48 * vtext + 4 * vk + 0) (p1 : PRp vtext 1 0 vb vl vd cG cC cL) (p2 : P5 vtext vk cL) (p3 : P6 (va + 1) vl cC cD) (p4 : P6 (va + 2) (-1) cD cE) (p5 : P6 (va + 2) vl cE cF) : PRp vtext vb vl vl vl 0 cG cF cL := by
  obtain ⟨h1, h2, h3⟩ := p1
  rw [show vd = 1 by omega] at h3
  refine ⟨ruq_c (a := va) b_text h1 p2 (by omega) b_k fun i hi => by rw [p5.ne (by omega), p4.ne (by omega), p3.ne (by omega)], Or.inr ⟨h3, by omega⟩, ⟨by omega, by omega⟩, by omega, ?_⟩
  rw [show (vl - vl).toNat = 0 by omega]
  rfl
theorem ru_add {text l k a b q r : Int} {G C L M : Nat → Int} (b_text : 0 ≤ text ∧ text ≤ 5) (b_k : 0 ≤ k ∧ k ≤ 11) (h : RUq text l G C L) (hk : P5 text k L) (ha : a = 48 * text + 4 * k) (hm : P6 text (k + 1) L M) (hc : ∀ j : Nat, (j : Int) = k → ∀ t : Nat, (t : Int) = text → CLq G C t j l) : RUq text l G C M := by
  intro t ht
  have h1 := h t ht
  by_cases e : (t : Int) = text
  · have e1 := hm.eq (j := t) e
    have e2 := hk.at (j := t) e
    rw [e1]
    refine ⟨by omega, fun j hj => ?_⟩
    by_cases g : (j : Int) = k
    · rw [if_pos e]
      exact hc j g t e
    · exact h1.2 j (by rw [e2]; omega)
  · rw [hm.ne e]
    exact h1
theorem lc_fA (vtext vk va vb vl vd : Int) (cG cC cL cD cE cF cB cM : Nat → Int) (b_text : 0 ≤ vtext ∧ vtext ≤ 5) (b_k : 0 ≤ vk ∧ vk ≤ 11) (b_a : (-2147483648) ≤ va ∧ va ≤ 2147483647) (b_b : 0 ≤ vb ∧ vb ≤ 400) (b_l : 0 ≤ vl ∧ vl ≤ 400) (b_d : 1 ≤ vd ∧ vd ≤ 1) (f1 : 0 ≤ 1 * va + (-48) * vtext + (-4) * vk + 0) (f2 : 0 ≤ (-1) * va + 48 * vtext + 4 * vk + 0) (p1 : PRp vtext 1 0 vb vl vd cG cC cL) (p2 : P5 vtext vk cL) (p3 : P6 va vb cB cC) (p4 : P6 (va + 1) vl cC cD) (p5 : P6 (va + 2) (-1) cD cE) (p6 : P6 (va + 3) vl cE cF) (p7 : P6 vtext (vk + 1) cL cM) : RUq vtext vl cG cF cM := by
  obtain ⟨h1, h2, h3⟩ := p1
  rw [show vd = 1 by omega] at h3
  have hq := ruq_c b_text h1 p2 (show va = 48 * vtext + 4 * vk by omega) b_k (D := cF) fun i hi => by rw [p6.ne (by omega), p5.ne (by omega), p4.ne (by omega)]
  refine ru_add (a := va) (b := vb) (q := vl) (r := vl) b_text b_k hq p2 (by omega) p7 fun j hj t ht => ?_
  have f0 : cF (48 * t + 4 * j) = vb := by rw [p6.ne (by omega), p5.ne (by omega), p4.ne (by omega)]; exact p3.eq (by omega)
  have f1 : cF (48 * t + 4 * j + 1) = vl := by rw [p6.ne (by omega), p5.ne (by omega)]; exact p4.eq (by omega)
  have f2 : cF (48 * t + 4 * j + 2) = -1 := by rw [p6.ne (by omega)]; exact p5.eq (by omega)
  unfold CLq
  rw [f0, f1, f2, ht]
  exact ⟨h3, by omega, Or.inl (by decide)⟩
theorem lc_fB (vtext vk va vb vq vl vd : Int) (cG cC cL cD cE cF cH cB cM : Nat → Int) (b_text : 0 ≤ vtext ∧ vtext ≤ 5) (b_k : 0 ≤ vk ∧ vk ≤ 11) (b_a : (-2147483648) ≤ va ∧ va ≤ 2147483647) (b_b : 0 ≤ vb ∧ vb ≤ 400) (b_q : 0 ≤ vq ∧ vq ≤ 400) (b_l : 0 ≤ vl ∧ vl ≤ 400) (b_d : 1 ≤ vd ∧ vd ≤ 1) (f1 : 0 ≤ 1 * va + (-48) * vtext + (-4) * vk + 0) (f2 : 0 ≤ (-1) * va + 48 * vtext + 4 * vk + 0) (f3 : 0 ≤ 1 * vq + (-1) * vb + 0) (p1 : PRp vtext vb vq vq vl vd cG cF cL) (p2 : P5 vtext vk cL) (p3 : P6 va vb cB cC) (p4 : P6 (va + 1) vq cC cD) (p5 : P6 (va + 2) (-1) cD cE) (p6 : P6 (va + 2) vq cE cF) (p7 : P6 (va + 3) vl cF cH) (p8 : P6 vtext (vk + 1) cL cM) : RUq vtext vl cG cH cM := by
  obtain ⟨h1, h2, h3⟩ := p1
  rw [show vd = 1 by omega] at h3
  have hq := ruq_c b_text h1 p2 (show va = 48 * vtext + 4 * vk by omega) b_k (D := cH) fun i hi => by rw [p7.ne (by omega)]
  refine ru_add (a := va) (b := vb) (q := vl) (r := vl) b_text b_k hq p2 (by omega) p8 fun j hj t ht => ?_
  have f0 : cH (48 * t + 4 * j) = vb := by rw [p7.ne (by omega), p6.ne (by omega), p5.ne (by omega), p4.ne (by omega)]; exact p3.eq (by omega)
  have f1 : cH (48 * t + 4 * j + 1) = vq := by rw [p7.ne (by omega), p6.ne (by omega), p5.ne (by omega)]; exact p4.eq (by omega)
  have f2 : cH (48 * t + 4 * j + 2) = vq := by rw [p7.ne (by omega)]; exact p6.eq (by omega)
  have f3 : cH (48 * t + 4 * j + 3) = vl := p7.eq (by omega)
  unfold CLq
  rw [f0, f1, f2, f3, ht]
  have b3 := h3.1
  rcases h2 with h2 | h2
  · omega
  · exact ⟨h2.1, by omega, Or.inr ⟨h3, by omega⟩⟩
theorem lc_up5 (vt vv : Int) (cc cd : Nat → Int) (b_t : (-2147483648) ≤ vt ∧ vt ≤ 2147483647) (b_v : (-2147483648) ≤ vv ∧ vv ≤ 2147483647) (p1 : P6 vt vv cc cd) : P5 vt vv cd := by
  exact ⟨p1.1, p1.eq (by have := p1.1; omega)⟩
theorem ro_upd {n m t v : Int} {c d : Nat → Int} (h : ROp n m c) (u : P6 t v c d) (h3 : t ≠ 3) (h4 : t ≠ 4) (hon : ¬ (11 ≤ t ∧ t ≤ 17)) (hmx : ∀ k : Nat, (k : Int) < m → t ≠ 54 + 3 * k ∧ t ≠ 55 + 3 * k) : ROp n m d := by
  obtain ⟨a1, a2, a3, a4, a5, a6⟩ := h
  refine ⟨?_, ?_, a3, a4, fun i hi => ?_, fun k hk => ?_⟩
  · rw [u.ne (by omega)]
    exact a1
  · rw [u.ne (by omega)]
    exact a2
  · rw [u.ne (by omega)]
    exact a5 i hi
  · have b := hmx k hk
    rw [u.ne (j := 54 + 3 * k) (by omega), u.ne (j := 55 + 3 * k) (by omega)]
    exact a6 k hk
theorem lc_roa (vrn vrm vt vv : Int) (cc cd : Nat → Int) (b_rn : 0 ≤ vrn ∧ vrn ≤ 7) (b_rm : 0 ≤ vrm ∧ vrm ≤ 8) (b_t : 0 ≤ vt ∧ vt ≤ 2) (b_v : (-2147483648) ≤ vv ∧ vv ≤ 2147483647) (p1 : ROp vrn vrm cc) (p2 : P6 vt vv cc cd) : ROp vrn vrm cd := by
  exact ro_upd p1 p2 (by omega) (by omega) (by omega) fun k hk => by omega
theorem lc_rob (vrn vrm vt vv : Int) (cc cd : Nat → Int) (b_rn : 0 ≤ vrn ∧ vrn ≤ 7) (b_rm : 0 ≤ vrm ∧ vrm ≤ 8) (b_t : 39 ≤ vt ∧ vt ≤ 52) (b_v : (-2147483648) ≤ vv ∧ vv ≤ 2147483647) (p1 : ROp vrn vrm cc) (p2 : P6 vt vv cc cd) : ROp vrn vrm cd := by
  exact ro_upd p1 p2 (by omega) (by omega) (by omega) fun k hk => by omega
theorem lc_roc (vrn vrm vt vv : Int) (cc cd : Nat → Int) (b_rn : 0 ≤ vrn ∧ vrn ≤ 7) (b_rm : 0 ≤ vrm ∧ vrm ≤ 8) (b_t : 53 ≤ vt ∧ vt ≤ 76) (b_v : (-2147483648) ≤ vv ∧ vv ≤ 2147483647) (f1 : 0 ≤ 1 * vt + (-3) * vrm + (-53)) (p1 : ROp vrn vrm cc) (p2 : P6 vt vv cc cd) : ROp vrn vrm cd := by
  exact ro_upd p1 p2 (by omega) (by omega) (by omega) fun k hk => by omega
theorem lc_ro3 (vrn vrm vx : Int) (cc : Nat → Int) (b_rn : 0 ≤ vrn ∧ vrn ≤ 7) (b_rm : 0 ≤ vrm ∧ vrm ≤ 8) (b_x : (-2147483648) ≤ vx ∧ vx ≤ 2147483647) (p1 : ROp vrn vrm cc) (p2 : P5 3 vx cc) : (0 ≤ 1 * vx + (-1) * vrn + 0) ∧ (0 ≤ (-1) * vx + 1 * vrn + 0) := by
  have e := p1.1
  have q := p2.at (j := 3) rfl
  omega
theorem lc_ro4 (vrn vrm vx : Int) (cc : Nat → Int) (b_rn : 0 ≤ vrn ∧ vrn ≤ 7) (b_rm : 0 ≤ vrm ∧ vrm ≤ 8) (b_x : (-2147483648) ≤ vx ∧ vx ≤ 2147483647) (p1 : ROp vrn vrm cc) (p2 : P5 4 vx cc) : (0 ≤ 1 * vx + (-1) * vrm + 0) ∧ (0 ≤ (-1) * vx + 1 * vrm + 0) ∧ (0 ≤ 3 * vx + (-3) * vrm + 0) ∧ (0 ≤ (-3) * vx + 3 * vrm + 0) := by
  have e := p1.2.1
  have q := p2.at (j := 4) rfl
  omega
theorem lc_ron (vrn vrm vx : Int) (cc cd : Nat → Int) (b_rn : 0 ≤ vrn ∧ vrn ≤ 6) (b_rm : 0 ≤ vrm ∧ vrm ≤ 8) (b_x : (-2147483648) ≤ vx ∧ vx ≤ 2147483647) (f1 : 0 ≤ 1 * vx + (-1) * vrn + 0) (f2 : 0 ≤ (-1) * vx + 1 * vrn + 0) (p1 : ROp vrn vrm cc) (p2 : P6 3 (vx + 1) cc cd) : ROp (vrn + 1) vrm cd := by
  obtain ⟨a1, a2, a3, a4, a5, a6⟩ := p1
  refine ⟨?_, ?_, by omega, a4, fun i hi => ?_, fun k hk => ?_⟩
  · rw [p2.eq (j := 3) rfl]
    omega
  · rw [p2.ne (by omega)]
    exact a2
  · rw [p2.ne (by omega)]
    exact a5 i hi
  · have b := a6 k hk
    rw [p2.ne (j := 54 + 3 * k) (by omega), p2.ne (j := 55 + 3 * k) (by omega)]
    omega
theorem lc_rom (vrn vrm vx va vv vu : Int) (cp cq cc cd : Nat → Int) (b_rn : 0 ≤ vrn ∧ vrn ≤ 7) (b_rm : 0 ≤ vrm ∧ vrm ≤ 7) (b_x : (-2147483648) ≤ vx ∧ vx ≤ 2147483647) (b_a : (-2147483648) ≤ va ∧ va ≤ 2147483647) (b_v : 0 ≤ vv ∧ vv ≤ 6) (b_u : 0 ≤ vu ∧ vu ≤ 6) (f1 : 0 ≤ 1 * vx + (-1) * vrm + 0) (f2 : 0 ≤ (-1) * vx + 1 * vrm + 0) (f3 : 0 ≤ 1 * va + (-3) * vrm + (-53)) (f4 : 0 ≤ (-1) * va + 3 * vrm + 53) (f5 : 0 ≤ 1 * vrn + (-1) * vv + (-1)) (f6 : 0 ≤ 1 * vrn + (-1) * vu + (-1)) (p1 : ROp vrn vrm cc) (p2 : P6 (va + 1) vv cp cq) (p3 : P6 (va + 2) vu cq cc) (p4 : P6 4 (vx + 1) cc cd) : ROp vrn (vrm + 1) cd := by
  obtain ⟨a1, a2, a3, a4, a5, a6⟩ := p1
  refine ⟨?_, ?_, a3, by omega, fun i hi => ?_, fun k hk => ?_⟩
  · rw [p4.ne (by omega)]
    exact a1
  · rw [p4.eq (j := 4) rfl]
    omega
  · rw [p4.ne (by omega)]
    exact a5 i hi
  · rw [p4.ne (j := 54 + 3 * k) (by omega), p4.ne (j := 55 + 3 * k) (by omega)]
    by_cases e : (k : Int) = vrm
    · rw [p3.ne (j := 54 + 3 * k) (by omega), p2.eq (j := 54 + 3 * k) (by omega), p3.eq (j := 55 + 3 * k) (by omega)]
      omega
    · exact a6 k (by omega)
theorem lc_zr0 (cc : Nat → Int) : ZRp 0 cc := by
  exact fun i hi => by omega
theorem lc_zr1 (vk : Int) (cc cd : Nat → Int) (b_k : 0 ≤ vk ∧ vk ≤ 76) (p1 : ZRp vk cc) (p2 : P6 vk 0 cc cd) : ZRp (vk + 1) cd := by
  intro i hi
  by_cases e : (i : Int) = vk
  · exact p2.eq e
  · rw [p2.ne e]
    exact p1 i (by omega)
theorem lc_zre (vk : Int) (cc : Nat → Int) (b_k : 77 ≤ vk ∧ vk ≤ 77) (p1 : ZRp vk cc) : ROp 0 0 cc := by
  refine ⟨p1 3 (by omega), p1 4 (by omega), by omega, by omega, fun i hi => p1 _ (by omega), fun k hk => by omega⟩
theorem lc_hs0 (cd cs : Nat → Int) : HSp 0 cd cs := by
  exact fun i hi => by omega
theorem lc_hs1 (vk vv : Int) (cd cs ce : Nat → Int) (b_k : 0 ≤ vk ∧ vk ≤ 76) (b_v : (-2147483648) ≤ vv ∧ vv ≤ 2147483647) (p1 : HSp vk cd cs) (p2 : P5 vk vv cs) (p3 : P6 vk vv cd ce) : HSp (vk + 1) ce cs := by
  intro i hi
  by_cases e : (i : Int) = vk
  · rw [p3.eq e, ← p2.at (j := i) e]
    exact ⟨fun _ => rfl, fun h => by omega⟩
  · rw [p3.ne e]
    exact p1 i (by omega)
theorem lc_hs2 (vk : Int) (cd cs ce : Nat → Int) (b_k : 77 ≤ vk ∧ vk ≤ 107) (p1 : HSp vk cd cs) (p2 : P6 vk 0 cd ce) : HSp (vk + 1) ce cs := by
  intro i hi
  by_cases e : (i : Int) = vk
  · rw [p2.eq e]
    exact ⟨fun h => by omega, fun _ => rfl⟩
  · rw [p2.ne e]
    exact p1 i (by omega)
theorem lc_hse (vk vrn vrm : Int) (cd cs : Nat → Int) (b_k : 108 ≤ vk ∧ vk ≤ 108) (b_rn : 0 ≤ vrn ∧ vrn ≤ 7) (b_rm : 0 ≤ vrm ∧ vrm ≤ 8) (p1 : HSp vk cd cs) (p2 : ROp vrn vrm cs) : SDp 0 vrn vrm cd := by
  obtain ⟨a1, a2, a3, a4, a5, a6⟩ := p2
  have e : ∀ i : Nat, i < 77 → cd i = cs i := fun i hi => (p1 i (by omega)).1 hi
  have z : ∀ i : Nat, 77 ≤ i → i < 108 → cd i = 0 := fun i h1 h2 => (p1 i (by omega)).2 h1
  refine ⟨?_, ?_, a3, a4, ?_, fun i hi => ?_, fun k hk => ?_, fun k hk => ?_, fun h => absurd h (by decide)⟩
  · rw [e 3 (by omega)]
    exact a1
  · rw [e 4 (by omega)]
    exact a2
  · rw [z 107 (by omega) (by omega)]
    decide
  · rw [e _ (by omega), a5 i hi]
    decide
  · rw [e (54 + 3 * k) (by omega), e (55 + 3 * k) (by omega)]
    exact a6 k hk
  · rw [z _ (by omega) (by omega)]
    decide
theorem lc_rur (vtext vl : Int) (cG cC cL : Nat → Int) (b_text : 0 ≤ vtext ∧ vtext ≤ 5) (b_l : 0 ≤ vl ∧ vl ≤ 400) (p1 : RUq vtext vl cG cC cL) : RUp cG cC cL := by
  intro t ht
  have h1 := p1 t ht
  refine ⟨h1.1, fun j hj => ?_⟩
  have hc := h1.2 j hj
  split at hc
  · exact clq_ext hc (fun i _ _ => rfl) (by omega)
  · exact hc
theorem lc_ru2 (vtext : Int) (cG cC cL cM : Nat → Int) (b_text : 0 ≤ vtext ∧ vtext ≤ 5) (p1 : RUp cG cC cL) (p2 : P6 vtext 0 cL cM) : RUq vtext 0 cG cC cM := by
  intro t ht
  have h1 := p1 t ht
  by_cases e : (t : Int) = vtext
  · rw [p2.eq e]
    exact ⟨by decide, fun j hj => by omega⟩
  · rw [p2.ne e]
    refine ⟨h1.1, fun j hj => ?_⟩
    rw [if_neg e]
    exact h1.2 j hj
