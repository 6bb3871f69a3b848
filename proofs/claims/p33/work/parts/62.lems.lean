/-! the lemmas for the checker -/
theorem sxL_sxLa_ok : sx_lemok sxPF sxL_sxLa := by
  intro σ φ h
  obtain ⟨h1, h2, h3, h4, h5, h6⟩ := h
  have hz : σ 0 = 0 := by
    have q : 0 ≤ σ 0 ∧ σ 0 ≤ 0 := h1 0 _ rfl
    omega
  have b1 : (-2147483648) ≤ σ 1 ∧ σ 1 ≤ 2147483647 := h1 1 _ rfl
  have b2 : 0 ≤ σ 2 ∧ σ 2 ≤ 2147483647 := h1 2 _ rfl
  have b3 : (-2147483648) ≤ σ 3 ∧ σ 3 ≤ 2147483647 := h1 3 _ rfl
  have p0 : (σ 3) = (Int32.ofInt (σ 1) &&& Int32.ofInt (σ 2)).toInt := by
    have q : (σ 3 + 0) = (Int32.ofInt (σ 1 + 0) &&& Int32.ofInt (σ 2 + 0)).toInt := h4 _ (.head _)
    simpa only [Int.add_zero, hz, Int.zero_add] using q
  obtain r0 := lc_sxLa (σ 1) (σ 2) (σ 3) b1 b2 b3 p0
  refine ⟨σ, φ, fun _ _ => rfl, fun _ _ => rfl, ?_⟩
  refine ⟨sx_de0, sx_dr0, ?_, ?_, sx_nil, sx_nil⟩
  · exact sx_cons (by show 0 ≤ (1 * σ 2 + ((-1) * σ 3 + 0)) + 0; have q := r0; omega) (sx_nil)
  · exact sx_nil
theorem sxL_rd3_ok : sx_lemok sxPF sxL_rd3 := by
  intro σ φ h
  obtain ⟨h1, h2, h3, h4, h5, h6⟩ := h
  have hz : σ 0 = 0 := by
    have q : 0 ≤ σ 0 ∧ σ 0 ≤ 0 := h1 0 _ rfl
    omega
  have b1 : 0 ≤ σ 1 ∧ σ 1 ≤ 1 := h1 1 _ rfl
  have b2 : 0 ≤ σ 2 ∧ σ 2 ≤ 7 := h1 2 _ rfl
  have b3 : 0 ≤ σ 3 ∧ σ 3 ≤ 8 := h1 3 _ rfl
  have b4 : (-2147483648) ≤ σ 4 ∧ σ 4 ≤ 2147483647 := h1 4 _ rfl
  have p0 : SDp (σ 1) (σ 2) (σ 3) (φ 0) := by
    have q : SDp (σ 1 + 0) (σ 2 + 0) (σ 3 + 0) (φ 0) := h4 _ (.head _)
    simpa only [Int.add_zero, hz, Int.zero_add] using q
  have p1 : P5 3 (σ 4) (φ 0) := by
    have q : P5 (σ 0 + 3) (σ 4 + 0) (φ 0) := h4 _ (.tail _ (.head _))
    simpa only [Int.add_zero, hz, Int.zero_add] using q
  obtain ⟨r0, r1⟩ := lc_rd3 (σ 1) (σ 2) (σ 3) (σ 4) (φ 0) b1 b2 b3 b4 p0 p1
  refine ⟨σ, φ, fun _ _ => rfl, fun _ _ => rfl, ?_⟩
  refine ⟨sx_de0, sx_dr0, ?_, ?_, sx_nil, sx_nil⟩
  · exact sx_cons (by show 0 ≤ (1 * σ 4 + ((-1) * σ 2 + 0)) + 0; have q := r0; omega) (sx_cons (by show 0 ≤ (1 * σ 2 + ((-1) * σ 4 + 0)) + 0; have q := r1; omega) (sx_nil))
  · exact sx_nil
theorem sxL_rd4_ok : sx_lemok sxPF sxL_rd4 := by
  intro σ φ h
  obtain ⟨h1, h2, h3, h4, h5, h6⟩ := h
  have hz : σ 0 = 0 := by
    have q : 0 ≤ σ 0 ∧ σ 0 ≤ 0 := h1 0 _ rfl
    omega
  have b1 : 0 ≤ σ 1 ∧ σ 1 ≤ 1 := h1 1 _ rfl
  have b2 : 0 ≤ σ 2 ∧ σ 2 ≤ 7 := h1 2 _ rfl
  have b3 : 0 ≤ σ 3 ∧ σ 3 ≤ 8 := h1 3 _ rfl
  have b4 : (-2147483648) ≤ σ 4 ∧ σ 4 ≤ 2147483647 := h1 4 _ rfl
  have p0 : SDp (σ 1) (σ 2) (σ 3) (φ 0) := by
    have q : SDp (σ 1 + 0) (σ 2 + 0) (σ 3 + 0) (φ 0) := h4 _ (.head _)
    simpa only [Int.add_zero, hz, Int.zero_add] using q
  have p1 : P5 4 (σ 4) (φ 0) := by
    have q : P5 (σ 0 + 4) (σ 4 + 0) (φ 0) := h4 _ (.tail _ (.head _))
    simpa only [Int.add_zero, hz, Int.zero_add] using q
  obtain ⟨r0, r1⟩ := lc_rd4 (σ 1) (σ 2) (σ 3) (σ 4) (φ 0) b1 b2 b3 b4 p0 p1
  refine ⟨σ, φ, fun _ _ => rfl, fun _ _ => rfl, ?_⟩
  refine ⟨sx_de0, sx_dr0, ?_, ?_, sx_nil, sx_nil⟩
  · exact sx_cons (by show 0 ≤ (1 * σ 4 + ((-1) * σ 3 + 0)) + 0; have q := r0; omega) (sx_cons (by show 0 ≤ (1 * σ 3 + ((-1) * σ 4 + 0)) + 0; have q := r1; omega) (sx_nil))
  · exact sx_nil
theorem sxL_rd107_ok : sx_lemok sxPF sxL_rd107 := by
  intro σ φ h
  obtain ⟨h1, h2, h3, h4, h5, h6⟩ := h
  have hz : σ 0 = 0 := by
    have q : 0 ≤ σ 0 ∧ σ 0 ≤ 0 := h1 0 _ rfl
    omega
  have b1 : 0 ≤ σ 1 ∧ σ 1 ≤ 1 := h1 1 _ rfl
  have b2 : 0 ≤ σ 2 ∧ σ 2 ≤ 7 := h1 2 _ rfl
  have b3 : 0 ≤ σ 3 ∧ σ 3 ≤ 8 := h1 3 _ rfl
  have b4 : (-2147483648) ≤ σ 4 ∧ σ 4 ≤ 2147483647 := h1 4 _ rfl
  have p0 : SDp (σ 1) (σ 2) (σ 3) (φ 0) := by
    have q : SDp (σ 1 + 0) (σ 2 + 0) (σ 3 + 0) (φ 0) := h4 _ (.head _)
    simpa only [Int.add_zero, hz, Int.zero_add] using q
  have p1 : P5 107 (σ 4) (φ 0) := by
    have q : P5 (σ 0 + 107) (σ 4 + 0) (φ 0) := h4 _ (.tail _ (.head _))
    simpa only [Int.add_zero, hz, Int.zero_add] using q
  obtain ⟨r0, r1⟩ := lc_rd107 (σ 1) (σ 2) (σ 3) (σ 4) (φ 0) b1 b2 b3 b4 p0 p1
  refine ⟨σ, φ, fun _ _ => rfl, fun _ _ => rfl, ?_⟩
  refine ⟨sx_de0, sx_dr0, ?_, ?_, sx_nil, sx_nil⟩
  · exact sx_cons (by show 0 ≤ (1 * σ 4 + 0) + 0; have q := r0; omega) (sx_cons (by show 0 ≤ ((-1) * σ 4 + 0) + 10; have q := r1; omega) (sx_nil))
  · exact sx_nil
theorem sxL_rdon_ok : sx_lemok sxPF sxL_rdon := by
  intro σ φ h
  obtain ⟨h1, h2, h3, h4, h5, h6⟩ := h
  have hz : σ 0 = 0 := by
    have q : 0 ≤ σ 0 ∧ σ 0 ≤ 0 := h1 0 _ rfl
    omega
  have b1 : 0 ≤ σ 1 ∧ σ 1 ≤ 1 := h1 1 _ rfl
  have b2 : 0 ≤ σ 2 ∧ σ 2 ≤ 7 := h1 2 _ rfl
  have b3 : 0 ≤ σ 3 ∧ σ 3 ≤ 8 := h1 3 _ rfl
  have b4 : 11 ≤ σ 4 ∧ σ 4 ≤ 17 := h1 4 _ rfl
  have b5 : (-2147483648) ≤ σ 5 ∧ σ 5 ≤ 2147483647 := h1 5 _ rfl
  have p0 : SDp (σ 1) (σ 2) (σ 3) (φ 0) := by
    have q : SDp (σ 1 + 0) (σ 2 + 0) (σ 3 + 0) (φ 0) := h4 _ (.head _)
    simpa only [Int.add_zero, hz, Int.zero_add] using q
  have p1 : P5 (σ 4) (σ 5) (φ 0) := by
    have q : P5 (σ 4 + 0) (σ 5 + 0) (φ 0) := h4 _ (.tail _ (.head _))
    simpa only [Int.add_zero, hz, Int.zero_add] using q
  obtain ⟨r0, r1⟩ := lc_rdon (σ 1) (σ 2) (σ 3) (σ 4) (σ 5) (φ 0) b1 b2 b3 b4 b5 p0 p1
  refine ⟨σ, φ, fun _ _ => rfl, fun _ _ => rfl, ?_⟩
  refine ⟨sx_de0, sx_dr0, ?_, ?_, sx_nil, sx_nil⟩
  · exact sx_cons (by show 0 ≤ (1 * σ 5 + 0) + 0; have q := r0; omega) (sx_cons (by show 0 ≤ ((-1) * σ 5 + 0) + 6; have q := r1; omega) (sx_nil))
  · exact sx_nil
theorem sxL_rdnote_ok : sx_lemok sxPF sxL_rdnote := by
  intro σ φ h
  obtain ⟨h1, h2, h3, h4, h5, h6⟩ := h
  have hz : σ 0 = 0 := by
    have q : 0 ≤ σ 0 ∧ σ 0 ≤ 0 := h1 0 _ rfl
    omega
  have b1 : 0 ≤ σ 1 ∧ σ 1 ≤ 1 := h1 1 _ rfl
  have b2 : 0 ≤ σ 2 ∧ σ 2 ≤ 7 := h1 2 _ rfl
  have b3 : 0 ≤ σ 3 ∧ σ 3 ≤ 8 := h1 3 _ rfl
  have b4 : 78 ≤ σ 4 ∧ σ 4 ≤ 107 := h1 4 _ rfl
  have b5 : (-2147483648) ≤ σ 5 ∧ σ 5 ≤ 2147483647 := h1 5 _ rfl
  have b6 : 0 ≤ σ 6 ∧ σ 6 ≤ 10 := h1 6 _ rfl
  have g0 : 0 ≤ 1 * (σ 4) + (-3) * (σ 6) + (-78) := by
    have q : 0 ≤ (1 * σ 4 + ((-3) * σ 6 + 0)) + (-78) := h3 _ (.head _)
    omega
  have g1 : 0 ≤ (-1) * (σ 4) + 3 * (σ 6) + 78 := by
    have q : 0 ≤ ((-1) * σ 4 + (3 * σ 6 + 0)) + 78 := h3 _ (.tail _ (.head _))
    omega
  have p0 : SDp (σ 1) (σ 2) (σ 3) (φ 0) := by
    have q : SDp (σ 1 + 0) (σ 2 + 0) (σ 3 + 0) (φ 0) := h4 _ (.head _)
    simpa only [Int.add_zero, hz, Int.zero_add] using q
  have p1 : P5 (σ 4) (σ 5) (φ 0) := by
    have q : P5 (σ 4 + 0) (σ 5 + 0) (φ 0) := h4 _ (.tail _ (.head _))
    simpa only [Int.add_zero, hz, Int.zero_add] using q
  obtain ⟨r0, r1⟩ := lc_rdnote (σ 1) (σ 2) (σ 3) (σ 4) (σ 5) (σ 6) (φ 0) b1 b2 b3 b4 b5 b6 g0 g1 p0 p1
  refine ⟨σ, φ, fun _ _ => rfl, fun _ _ => rfl, ?_⟩
  refine ⟨sx_de0, sx_dr0, ?_, ?_, sx_nil, sx_nil⟩
  · exact sx_cons (by show 0 ≤ (1 * σ 5 + 0) + 0; have q := r0; omega) (sx_cons (by show 0 ≤ ((-1) * σ 5 + 0) + 6; have q := r1; omega) (sx_nil))
  · exact sx_nil
theorem sxL_rdmix_ok : sx_lemok sxPF sxL_rdmix := by
  intro σ φ h
  obtain ⟨h1, h2, h3, h4, h5, h6⟩ := h
  have hz : σ 0 = 0 := by
    have q : 0 ≤ σ 0 ∧ σ 0 ≤ 0 := h1 0 _ rfl
    omega
  have b1 : 0 ≤ σ 1 ∧ σ 1 ≤ 1 := h1 1 _ rfl
  have b2 : 0 ≤ σ 2 ∧ σ 2 ≤ 7 := h1 2 _ rfl
  have b3 : 0 ≤ σ 3 ∧ σ 3 ≤ 8 := h1 3 _ rfl
  have b4 : (-2147483648) ≤ σ 4 ∧ σ 4 ≤ 2147483647 := h1 4 _ rfl
  have b5 : (-2147483648) ≤ σ 5 ∧ σ 5 ≤ 2147483647 := h1 5 _ rfl
  have b6 : 0 ≤ σ 6 ∧ σ 6 ≤ 7 := h1 6 _ rfl
  have b7 : 1 ≤ σ 7 ∧ σ 7 ≤ 2 := h1 7 _ rfl
  have g0 : 0 ≤ 1 * (σ 4) + (-3) * (σ 6) + (-1) * (σ 7) + (-53) := by
    have q : 0 ≤ (1 * σ 4 + ((-3) * σ 6 + ((-1) * σ 7 + 0))) + (-53) := h3 _ (.head _)
    omega
  have g1 : 0 ≤ (-1) * (σ 4) + 3 * (σ 6) + 1 * (σ 7) + 53 := by
    have q : 0 ≤ ((-1) * σ 4 + (3 * σ 6 + (1 * σ 7 + 0))) + 53 := h3 _ (.tail _ (.head _))
    omega
  have g2 : 0 ≤ 1 * (σ 3) + (-1) * (σ 6) + (-1) := by
    have q : 0 ≤ (1 * σ 3 + ((-1) * σ 6 + 0)) + (-1) := h3 _ (.tail _ (.tail _ (.head _)))
    omega
  have p0 : SDp (σ 1) (σ 2) (σ 3) (φ 0) := by
    have q : SDp (σ 1 + 0) (σ 2 + 0) (σ 3 + 0) (φ 0) := h4 _ (.head _)
    simpa only [Int.add_zero, hz, Int.zero_add] using q
  have p1 : P5 (σ 4) (σ 5) (φ 0) := by
    have q : P5 (σ 4 + 0) (σ 5 + 0) (φ 0) := h4 _ (.tail _ (.head _))
    simpa only [Int.add_zero, hz, Int.zero_add] using q
  obtain ⟨r0, r1⟩ := lc_rdmix (σ 1) (σ 2) (σ 3) (σ 4) (σ 5) (σ 6) (σ 7) (φ 0) b1 b2 b3 b4 b5 b6 b7 g0 g1 g2 p0 p1
  refine ⟨σ, φ, fun _ _ => rfl, fun _ _ => rfl, ?_⟩
  refine ⟨sx_de0, sx_dr0, ?_, ?_, sx_nil, sx_nil⟩
  · exact sx_cons (by show 0 ≤ (1 * σ 5 + 0) + 0; have q := r0; omega) (sx_cons (by show 0 ≤ ((-1) * σ 5 + (1 * σ 2 + 0)) + (-1); have q := r1; omega) (sx_nil))
  · exact sx_nil
theorem sxL_uplo_ok : sx_lemok sxPF sxL_uplo := by
  intro σ φ h
  obtain ⟨h1, h2, h3, h4, h5, h6⟩ := h
  have hz : σ 0 = 0 := by
    have q : 0 ≤ σ 0 ∧ σ 0 ≤ 0 := h1 0 _ rfl
    omega
  have b1 : 0 ≤ σ 1 ∧ σ 1 ≤ 1 := h1 1 _ rfl
  have b2 : 0 ≤ σ 2 ∧ σ 2 ≤ 7 := h1 2 _ rfl
  have b3 : 0 ≤ σ 3 ∧ σ 3 ≤ 8 := h1 3 _ rfl
  have b4 : 5 ≤ σ 4 ∧ σ 4 ≤ 10 := h1 4 _ rfl
  have b5 : (-2147483648) ≤ σ 5 ∧ σ 5 ≤ 2147483647 := h1 5 _ rfl
  have p0 : SDp (σ 1) (σ 2) (σ 3) (φ 0) := by
    have q : SDp (σ 1 + 0) (σ 2 + 0) (σ 3 + 0) (φ 0) := h4 _ (.head _)
    simpa only [Int.add_zero, hz, Int.zero_add] using q
  have p1 : P6 (σ 4) (σ 5) (φ 0) (φ 1) := by
    have q : P6 (σ 4 + 0) (σ 5 + 0) (φ 0) (φ 1) := h4 _ (.tail _ (.head _))
    simpa only [Int.add_zero, hz, Int.zero_add] using q
  obtain r0 := lc_uplo (σ 1) (σ 2) (σ 3) (σ 4) (σ 5) (φ 0) (φ 1) b1 b2 b3 b4 b5 p0 p1
  refine ⟨σ, φ, fun _ _ => rfl, fun _ _ => rfl, ?_⟩
  refine ⟨sx_de0, sx_dr0, ?_, ?_, sx_nil, sx_nil⟩
  · exact sx_nil
  · exact sx_cons (by show SDp (σ 1 + 0) (σ 2 + 0) (σ 3 + 0) (φ 1); simpa only [Int.add_zero, Int.zero_add, hz] using r0) (sx_nil)
theorem sxL_uphi_ok : sx_lemok sxPF sxL_uphi := by
  intro σ φ h
  obtain ⟨h1, h2, h3, h4, h5, h6⟩ := h
  have hz : σ 0 = 0 := by
    have q : 0 ≤ σ 0 ∧ σ 0 ≤ 0 := h1 0 _ rfl
    omega
  have b1 : 0 ≤ σ 1 ∧ σ 1 ≤ 1 := h1 1 _ rfl
  have b2 : 0 ≤ σ 2 ∧ σ 2 ≤ 7 := h1 2 _ rfl
  have b3 : 0 ≤ σ 3 ∧ σ 3 ≤ 8 := h1 3 _ rfl
  have b4 : 18 ≤ σ 4 ∧ σ 4 ≤ 52 := h1 4 _ rfl
  have b5 : (-2147483648) ≤ σ 5 ∧ σ 5 ≤ 2147483647 := h1 5 _ rfl
  have p0 : SDp (σ 1) (σ 2) (σ 3) (φ 0) := by
    have q : SDp (σ 1 + 0) (σ 2 + 0) (σ 3 + 0) (φ 0) := h4 _ (.head _)
    simpa only [Int.add_zero, hz, Int.zero_add] using q
  have p1 : P6 (σ 4) (σ 5) (φ 0) (φ 1) := by
    have q : P6 (σ 4 + 0) (σ 5 + 0) (φ 0) (φ 1) := h4 _ (.tail _ (.head _))
    simpa only [Int.add_zero, hz, Int.zero_add] using q
  obtain r0 := lc_uphi (σ 1) (σ 2) (σ 3) (σ 4) (σ 5) (φ 0) (φ 1) b1 b2 b3 b4 b5 p0 p1
  refine ⟨σ, φ, fun _ _ => rfl, fun _ _ => rfl, ?_⟩
  refine ⟨sx_de0, sx_dr0, ?_, ?_, sx_nil, sx_nil⟩
  · exact sx_nil
  · exact sx_cons (by show SDp (σ 1 + 0) (σ 2 + 0) (σ 3 + 0) (φ 1); simpa only [Int.add_zero, Int.zero_add, hz] using r0) (sx_nil)
theorem sxL_up107_ok : sx_lemok sxPF sxL_up107 := by
  intro σ φ h
  obtain ⟨h1, h2, h3, h4, h5, h6⟩ := h
  have hz : σ 0 = 0 := by
    have q : 0 ≤ σ 0 ∧ σ 0 ≤ 0 := h1 0 _ rfl
    omega
  have b1 : 0 ≤ σ 1 ∧ σ 1 ≤ 1 := h1 1 _ rfl
  have b2 : 0 ≤ σ 2 ∧ σ 2 ≤ 7 := h1 2 _ rfl
  have b3 : 0 ≤ σ 3 ∧ σ 3 ≤ 8 := h1 3 _ rfl
  have b4 : 0 ≤ σ 4 ∧ σ 4 ≤ 10 := h1 4 _ rfl
  have p0 : SDp (σ 1) (σ 2) (σ 3) (φ 0) := by
    have q : SDp (σ 1 + 0) (σ 2 + 0) (σ 3 + 0) (φ 0) := h4 _ (.head _)
    simpa only [Int.add_zero, hz, Int.zero_add] using q
  have p1 : P6 107 (σ 4) (φ 0) (φ 1) := by
    have q : P6 (σ 0 + 107) (σ 4 + 0) (φ 0) (φ 1) := h4 _ (.tail _ (.head _))
    simpa only [Int.add_zero, hz, Int.zero_add] using q
  obtain r0 := lc_up107 (σ 1) (σ 2) (σ 3) (σ 4) (φ 0) (φ 1) b1 b2 b3 b4 p0 p1
  refine ⟨σ, φ, fun _ _ => rfl, fun _ _ => rfl, ?_⟩
  refine ⟨sx_de0, sx_dr0, ?_, ?_, sx_nil, sx_nil⟩
  · exact sx_nil
  · exact sx_cons (by show SDp (σ 1 + 0) (σ 2 + 0) (σ 3 + 0) (φ 1); simpa only [Int.add_zero, Int.zero_add, hz] using r0) (sx_nil)
theorem sxL_upn0_ok : sx_lemok sxPF sxL_upn0 := by
  intro σ φ h
  obtain ⟨h1, h2, h3, h4, h5, h6⟩ := h
  have hz : σ 0 = 0 := by
    have q : 0 ≤ σ 0 ∧ σ 0 ≤ 0 := h1 0 _ rfl
    omega
  have b1 : 0 ≤ σ 1 ∧ σ 1 ≤ 1 := h1 1 _ rfl
  have b2 : 0 ≤ σ 2 ∧ σ 2 ≤ 7 := h1 2 _ rfl
  have b3 : 0 ≤ σ 3 ∧ σ 3 ≤ 8 := h1 3 _ rfl
  have b4 : (-2147483648) ≤ σ 4 ∧ σ 4 ≤ 2147483647 := h1 4 _ rfl
  have b5 : (-2147483648) ≤ σ 5 ∧ σ 5 ≤ 2147483647 := h1 5 _ rfl
  have b6 : 0 ≤ σ 6 ∧ σ 6 ≤ 9 := h1 6 _ rfl
  have g0 : 0 ≤ 1 * (σ 4) + (-3) * (σ 6) + (-77) := by
    have q : 0 ≤ (1 * σ 4 + ((-3) * σ 6 + 0)) + (-77) := h3 _ (.head _)
    omega
  have g1 : 0 ≤ (-1) * (σ 4) + 3 * (σ 6) + 77 := by
    have q : 0 ≤ ((-1) * σ 4 + (3 * σ 6 + 0)) + 77 := h3 _ (.tail _ (.head _))
    omega
  have p0 : SDp (σ 1) (σ 2) (σ 3) (φ 0) := by
    have q : SDp (σ 1 + 0) (σ 2 + 0) (σ 3 + 0) (φ 0) := h4 _ (.head _)
    simpa only [Int.add_zero, hz, Int.zero_add] using q
  have p1 : P6 (σ 4) (σ 5) (φ 0) (φ 1) := by
    have q : P6 (σ 4 + 0) (σ 5 + 0) (φ 0) (φ 1) := h4 _ (.tail _ (.head _))
    simpa only [Int.add_zero, hz, Int.zero_add] using q
  obtain r0 := lc_upn0 (σ 1) (σ 2) (σ 3) (σ 4) (σ 5) (σ 6) (φ 0) (φ 1) b1 b2 b3 b4 b5 b6 g0 g1 p0 p1
  refine ⟨σ, φ, fun _ _ => rfl, fun _ _ => rfl, ?_⟩
  refine ⟨sx_de0, sx_dr0, ?_, ?_, sx_nil, sx_nil⟩
  · exact sx_nil
  · exact sx_cons (by show SDp (σ 1 + 0) (σ 2 + 0) (σ 3 + 0) (φ 1); simpa only [Int.add_zero, Int.zero_add, hz] using r0) (sx_nil)
theorem sxL_upn1_ok : sx_lemok sxPF sxL_upn1 := by
  intro σ φ h
  obtain ⟨h1, h2, h3, h4, h5, h6⟩ := h
  have hz : σ 0 = 0 := by
    have q : 0 ≤ σ 0 ∧ σ 0 ≤ 0 := h1 0 _ rfl
    omega
  have b1 : 0 ≤ σ 1 ∧ σ 1 ≤ 1 := h1 1 _ rfl
  have b2 : 0 ≤ σ 2 ∧ σ 2 ≤ 7 := h1 2 _ rfl
  have b3 : 0 ≤ σ 3 ∧ σ 3 ≤ 8 := h1 3 _ rfl
  have b4 : (-2147483648) ≤ σ 4 ∧ σ 4 ≤ 2147483647 := h1 4 _ rfl
  have b5 : 0 ≤ σ 5 ∧ σ 5 ≤ 6 := h1 5 _ rfl
  have b6 : 0 ≤ σ 6 ∧ σ 6 ≤ 9 := h1 6 _ rfl
  have g0 : 0 ≤ 1 * (σ 4) + (-3) * (σ 6) + (-78) := by
    have q : 0 ≤ (1 * σ 4 + ((-3) * σ 6 + 0)) + (-78) := h3 _ (.head _)
    omega
  have g1 : 0 ≤ (-1) * (σ 4) + 3 * (σ 6) + 78 := by
    have q : 0 ≤ ((-1) * σ 4 + (3 * σ 6 + 0)) + 78 := h3 _ (.tail _ (.head _))
    omega
  have p0 : SDp (σ 1) (σ 2) (σ 3) (φ 0) := by
    have q : SDp (σ 1 + 0) (σ 2 + 0) (σ 3 + 0) (φ 0) := h4 _ (.head _)
    simpa only [Int.add_zero, hz, Int.zero_add] using q
  have p1 : P6 (σ 4) (σ 5) (φ 0) (φ 1) := by
    have q : P6 (σ 4 + 0) (σ 5 + 0) (φ 0) (φ 1) := h4 _ (.tail _ (.head _))
    simpa only [Int.add_zero, hz, Int.zero_add] using q
  obtain r0 := lc_upn1 (σ 1) (σ 2) (σ 3) (σ 4) (σ 5) (σ 6) (φ 0) (φ 1) b1 b2 b3 b4 b5 b6 g0 g1 p0 p1
  refine ⟨σ, φ, fun _ _ => rfl, fun _ _ => rfl, ?_⟩
  refine ⟨sx_de0, sx_dr0, ?_, ?_, sx_nil, sx_nil⟩
  · exact sx_nil
  · exact sx_cons (by show SDp (σ 1 + 0) (σ 2 + 0) (σ 3 + 0) (φ 1); simpa only [Int.add_zero, Int.zero_add, hz] using r0) (sx_nil)
theorem sxL_upn2_ok : sx_lemok sxPF sxL_upn2 := by
  intro σ φ h
  obtain ⟨h1, h2, h3, h4, h5, h6⟩ := h
  have hz : σ 0 = 0 := by
    have q : 0 ≤ σ 0 ∧ σ 0 ≤ 0 := h1 0 _ rfl
    omega
  have b1 : 0 ≤ σ 1 ∧ σ 1 ≤ 1 := h1 1 _ rfl
  have b2 : 0 ≤ σ 2 ∧ σ 2 ≤ 7 := h1 2 _ rfl
  have b3 : 0 ≤ σ 3 ∧ σ 3 ≤ 8 := h1 3 _ rfl
  have b4 : (-2147483648) ≤ σ 4 ∧ σ 4 ≤ 2147483647 := h1 4 _ rfl
  have b5 : (-2147483648) ≤ σ 5 ∧ σ 5 ≤ 2147483647 := h1 5 _ rfl
  have b6 : 0 ≤ σ 6 ∧ σ 6 ≤ 9 := h1 6 _ rfl
  have g0 : 0 ≤ 1 * (σ 4) + (-3) * (σ 6) + (-79) := by
    have q : 0 ≤ (1 * σ 4 + ((-3) * σ 6 + 0)) + (-79) := h3 _ (.head _)
    omega
  have g1 : 0 ≤ (-1) * (σ 4) + 3 * (σ 6) + 79 := by
    have q : 0 ≤ ((-1) * σ 4 + (3 * σ 6 + 0)) + 79 := h3 _ (.tail _ (.head _))
    omega
  have p0 : SDp (σ 1) (σ 2) (σ 3) (φ 0) := by
    have q : SDp (σ 1 + 0) (σ 2 + 0) (σ 3 + 0) (φ 0) := h4 _ (.head _)
    simpa only [Int.add_zero, hz, Int.zero_add] using q
  have p1 : P6 (σ 4) (σ 5) (φ 0) (φ 1) := by
    have q : P6 (σ 4 + 0) (σ 5 + 0) (φ 0) (φ 1) := h4 _ (.tail _ (.head _))
    simpa only [Int.add_zero, hz, Int.zero_add] using q
  obtain r0 := lc_upn2 (σ 1) (σ 2) (σ 3) (σ 4) (σ 5) (σ 6) (φ 0) (φ 1) b1 b2 b3 b4 b5 b6 g0 g1 p0 p1
  refine ⟨σ, φ, fun _ _ => rfl, fun _ _ => rfl, ?_⟩
  refine ⟨sx_de0, sx_dr0, ?_, ?_, sx_nil, sx_nil⟩
  · exact sx_nil
  · exact sx_cons (by show SDp (σ 1 + 0) (σ 2 + 0) (σ 3 + 0) (φ 1); simpa only [Int.add_zero, Int.zero_add, hz] using r0) (sx_nil)
theorem sxL_upon_ok : sx_lemok sxPF sxL_upon := by
  intro σ φ h
  obtain ⟨h1, h2, h3, h4, h5, h6⟩ := h
  have hz : σ 0 = 0 := by
    have q : 0 ≤ σ 0 ∧ σ 0 ≤ 0 := h1 0 _ rfl
    omega
  have b1 : 0 ≤ σ 1 ∧ σ 1 ≤ 1 := h1 1 _ rfl
  have b2 : 0 ≤ σ 2 ∧ σ 2 ≤ 7 := h1 2 _ rfl
  have b3 : 0 ≤ σ 3 ∧ σ 3 ≤ 8 := h1 3 _ rfl
  have b4 : 11 ≤ σ 4 ∧ σ 4 ≤ 17 := h1 4 _ rfl
  have b5 : 0 ≤ σ 5 ∧ σ 5 ≤ 6 := h1 5 _ rfl
  have p0 : SDp (σ 1) (σ 2) (σ 3) (φ 0) := by
    have q : SDp (σ 1 + 0) (σ 2 + 0) (σ 3 + 0) (φ 0) := h4 _ (.head _)
    simpa only [Int.add_zero, hz, Int.zero_add] using q
  have p1 : P6 (σ 4) (σ 5) (φ 0) (φ 1) := by
    have q : P6 (σ 4 + 0) (σ 5 + 0) (φ 0) (φ 1) := h4 _ (.tail _ (.head _))
    simpa only [Int.add_zero, hz, Int.zero_add] using q
  obtain r0 := lc_upon (σ 1) (σ 2) (σ 3) (σ 4) (σ 5) (φ 0) (φ 1) b1 b2 b3 b4 b5 p0 p1
  refine ⟨σ, φ, fun _ _ => rfl, fun _ _ => rfl, ?_⟩
  refine ⟨sx_de0, sx_dr0, ?_, ?_, sx_nil, sx_nil⟩
  · exact sx_nil
  · exact sx_cons (by show SDp (σ 0 + 0) (σ 2 + 0) (σ 3 + 0) (φ 1); simpa only [Int.add_zero, Int.zero_add, hz] using r0) (sx_nil)
theorem sxL_swap_ok : sx_lemok sxPF sxL_swap := by
  intro σ φ h
  obtain ⟨h1, h2, h3, h4, h5, h6⟩ := h
  have hz : σ 0 = 0 := by
    have q : 0 ≤ σ 0 ∧ σ 0 ≤ 0 := h1 0 _ rfl
    omega
  have b1 : 0 ≤ σ 1 ∧ σ 1 ≤ 7 := h1 1 _ rfl
  have b2 : 0 ≤ σ 2 ∧ σ 2 ≤ 8 := h1 2 _ rfl
  have b3 : 0 ≤ σ 3 ∧ σ 3 ≤ 6 := h1 3 _ rfl
  have b4 : 0 ≤ σ 4 ∧ σ 4 ≤ 6 := h1 4 _ rfl
  have b5 : (-2147483648) ≤ σ 5 ∧ σ 5 ≤ 2147483647 := h1 5 _ rfl
  have b6 : (-2147483648) ≤ σ 6 ∧ σ 6 ≤ 2147483647 := h1 6 _ rfl
  have g0 : 0 ≤ 1 * (σ 1) + (-1) * (σ 3) + (-1) := by
    have q : 0 ≤ (1 * σ 1 + ((-1) * σ 3 + 0)) + (-1) := h3 _ (.head _)
    omega
  have g1 : 0 ≤ 1 * (σ 1) + (-1) * (σ 4) + (-1) := by
    have q : 0 ≤ (1 * σ 1 + ((-1) * σ 4 + 0)) + (-1) := h3 _ (.tail _ (.head _))
    omega
  have p0 : SDp 1 (σ 1) (σ 2) (φ 0) := by
    have q : SDp (σ 0 + 1) (σ 1 + 0) (σ 2 + 0) (φ 0) := h4 _ (.head _)
    simpa only [Int.add_zero, hz, Int.zero_add] using q
  have p1 : P5 ((σ 3) + 11) (σ 5) (φ 0) := by
    have q : P5 (σ 3 + 11) (σ 5 + 0) (φ 0) := h4 _ (.tail _ (.head _))
    simpa only [Int.add_zero, hz, Int.zero_add] using q
  have p2 : P5 ((σ 4) + 11) (σ 6) (φ 0) := by
    have q : P5 (σ 4 + 11) (σ 6 + 0) (φ 0) := h4 _ (.tail _ (.tail _ (.head _)))
    simpa only [Int.add_zero, hz, Int.zero_add] using q
  have p3 : P6 ((σ 3) + 11) (σ 6) (φ 0) (φ 1) := by
    have q : P6 (σ 3 + 11) (σ 6 + 0) (φ 0) (φ 1) := h4 _ (.tail _ (.tail _ (.tail _ (.head _))))
    simpa only [Int.add_zero, hz, Int.zero_add] using q
  have p4 : P6 ((σ 4) + 11) (σ 5) (φ 1) (φ 2) := by
    have q : P6 (σ 4 + 11) (σ 5 + 0) (φ 1) (φ 2) := h4 _ (.tail _ (.tail _ (.tail _ (.tail _ (.head _)))))
    simpa only [Int.add_zero, hz, Int.zero_add] using q
  obtain r0 := lc_swap (σ 1) (σ 2) (σ 3) (σ 4) (σ 5) (σ 6) (φ 0) (φ 1) (φ 2) b1 b2 b3 b4 b5 b6 g0 g1 p0 p1 p2 p3 p4
  refine ⟨σ, φ, fun _ _ => rfl, fun _ _ => rfl, ?_⟩
  refine ⟨sx_de0, sx_dr0, ?_, ?_, sx_nil, sx_nil⟩
  · exact sx_nil
  · exact sx_cons (by show SDp (σ 0 + 1) (σ 1 + 0) (σ 2 + 0) (φ 2); simpa only [Int.add_zero, Int.zero_add, hz] using r0) (sx_nil)
theorem sxL_nf0_ok : sx_lemok sxPF sxL_nf0 := by
  intro σ φ h
  obtain ⟨h1, h2, h3, h4, h5, h6⟩ := h
  have hz : σ 0 = 0 := by
    have q : 0 ≤ σ 0 ∧ σ 0 ≤ 0 := h1 0 _ rfl
    omega
  have b1 : (-2147483648) ≤ σ 1 ∧ σ 1 ≤ 2147483647 := h1 1 _ rfl
  obtain r0 := lc_nf0 (σ 1) (φ 0) b1
  refine ⟨σ, φ, fun _ _ => rfl, fun _ _ => rfl, ?_⟩
  refine ⟨sx_de0, sx_dr0, ?_, ?_, sx_nil, sx_nil⟩
  · exact sx_nil
  · exact sx_cons (by show NFp (σ 0 + 0) (σ 1 + 0) (φ 0); simpa only [Int.add_zero, Int.zero_add, hz] using r0) (sx_nil)
theorem sxL_nf1_ok : sx_lemok sxPF sxL_nf1 := by
  intro σ φ h
  obtain ⟨h1, h2, h3, h4, h5, h6⟩ := h
  have hz : σ 0 = 0 := by
    have q : 0 ≤ σ 0 ∧ σ 0 ≤ 0 := h1 0 _ rfl
    omega
  have b1 : 0 ≤ σ 1 ∧ σ 1 ≤ 6 := h1 1 _ rfl
  have b2 : (-2147483648) ≤ σ 2 ∧ σ 2 ≤ 2147483647 := h1 2 _ rfl
  have b3 : (-2147483648) ≤ σ 3 ∧ σ 3 ≤ 2147483647 := h1 3 _ rfl
  have p0 : NFp (σ 1) (σ 2) (φ 0) := by
    have q : NFp (σ 1 + 0) (σ 2 + 0) (φ 0) := h4 _ (.head _)
    simpa only [Int.add_zero, hz, Int.zero_add] using q
  have p1 : P5 ((σ 1) + 11) (σ 3) (φ 0) := by
    have q : P5 (σ 1 + 11) (σ 3 + 0) (φ 0) := h4 _ (.tail _ (.head _))
    simpa only [Int.add_zero, hz, Int.zero_add] using q
  have p2 : (σ 3) ≠ (σ 2) := by
    have q : (σ 3 + 0) ≠ (σ 2 + 0) := h4 _ (.tail _ (.tail _ (.head _)))
    simpa only [Int.add_zero, hz, Int.zero_add] using q
  obtain r0 := lc_nf1 (σ 1) (σ 2) (σ 3) (φ 0) b1 b2 b3 p0 p1 p2
  refine ⟨σ, φ, fun _ _ => rfl, fun _ _ => rfl, ?_⟩
  refine ⟨sx_de0, sx_dr0, ?_, ?_, sx_nil, sx_nil⟩
  · exact sx_nil
  · exact sx_cons (by show NFp (σ 1 + 1) (σ 2 + 0) (φ 0); simpa only [Int.add_zero, Int.zero_add, hz] using r0) (sx_nil)
theorem sxL_nfe_ok : sx_lemok sxPF sxL_nfe := by
  intro σ φ h
  obtain ⟨h1, h2, h3, h4, h5, h6⟩ := h
  have hz : σ 0 = 0 := by
    have q : 0 ≤ σ 0 ∧ σ 0 ≤ 0 := h1 0 _ rfl
    omega
  have b1 : 0 ≤ σ 1 ∧ σ 1 ≤ 7 := h1 1 _ rfl
  have b2 : 0 ≤ σ 2 ∧ σ 2 ≤ 8 := h1 2 _ rfl
  have b3 : 0 ≤ σ 3 ∧ σ 3 ≤ 7 := h1 3 _ rfl
  have b4 : 0 ≤ σ 4 ∧ σ 4 ≤ 6 := h1 4 _ rfl
  have g0 : 0 ≤ 1 * (σ 1) + (-1) * (σ 4) + (-1) := by
    have q : 0 ≤ (1 * σ 1 + ((-1) * σ 4 + 0)) + (-1) := h3 _ (.head _)
    omega
  have p0 : SDp 1 (σ 1) (σ 2) (φ 0) := by
    have q : SDp (σ 0 + 1) (σ 1 + 0) (σ 2 + 0) (φ 0) := h4 _ (.head _)
    simpa only [Int.add_zero, hz, Int.zero_add] using q
  have p1 : NFp (σ 3) (σ 4) (φ 0) := by
    have q : NFp (σ 3 + 0) (σ 4 + 0) (φ 0) := h4 _ (.tail _ (.head _))
    simpa only [Int.add_zero, hz, Int.zero_add] using q
  obtain r0 := lc_nfe (σ 1) (σ 2) (σ 3) (σ 4) (φ 0) b1 b2 b3 b4 g0 p0 p1
  refine ⟨σ, φ, fun _ _ => rfl, fun _ _ => rfl, ?_⟩
  refine ⟨sx_de0, sx_dr0, ?_, ?_, sx_nil, sx_nil⟩
  · exact sx_cons (by show 0 ≤ (1 * σ 1 + ((-1) * σ 3 + 0)) + (-1); have q := r0; omega) (sx_nil)
  · exact sx_nil
theorem sxL_bt_ok : sx_lemok sxPF sxL_bt := by
  intro σ φ h
  obtain ⟨h1, h2, h3, h4, h5, h6⟩ := h
  have hz : σ 0 = 0 := by
    have q : 0 ≤ σ 0 ∧ σ 0 ≤ 0 := h1 0 _ rfl
    omega
  have b1 : 0 ≤ σ 1 ∧ σ 1 ≤ 255 := h1 1 _ rfl
  have b2 : 0 ≤ σ 2 ∧ σ 2 ≤ 7 := h1 2 _ rfl
  have b3 : (-2147483648) ≤ σ 3 ∧ σ 3 ≤ 2147483647 := h1 3 _ rfl
  have b4 : 0 ≤ σ 4 ∧ σ 4 ≤ 0 := h1 4 _ rfl
  have p0 : (σ 3) = (Int32.ofInt (σ 1) >>> (Int32.ofInt (σ 2) &&& 31)).toInt := by
    have q : (σ 3 + 0) = (Int32.ofInt (σ 1 + 0) >>> (Int32.ofInt (σ 2 + 0) &&& 31)).toInt := h4 _ (.head _)
    simpa only [Int.add_zero, hz, Int.zero_add] using q
  have p1 : (σ 4) = (Int32.ofInt (σ 3) &&& Int32.ofInt 1).toInt := by
    have q : (σ 4 + 0) = (Int32.ofInt (σ 3 + 0) &&& Int32.ofInt (σ 0 + 1)).toInt := h4 _ (.tail _ (.head _))
    simpa only [Int.add_zero, hz, Int.zero_add] using q
  obtain r0 := lc_bt (σ 1) (σ 2) (σ 3) (σ 4) b1 b2 b3 b4 p0 p1
  refine ⟨σ, φ, fun _ _ => rfl, fun _ _ => rfl, ?_⟩
  refine ⟨sx_de0, sx_dr0, ?_, ?_, sx_nil, sx_nil⟩
  · exact sx_nil
  · exact sx_cons (by show BTp (σ 1 + 0) (σ 2 + 0); simpa only [Int.add_zero, Int.zero_add, hz] using r0) (sx_nil)
theorem sxL_btor_ok : sx_lemok sxPF sxL_btor := by
  intro σ φ h
  obtain ⟨h1, h2, h3, h4, h5, h6⟩ := h
  have hz : σ 0 = 0 := by
    have q : 0 ≤ σ 0 ∧ σ 0 ≤ 0 := h1 0 _ rfl
    omega
  have b1 : 0 ≤ σ 1 ∧ σ 1 ≤ 255 := h1 1 _ rfl
  have b2 : 0 ≤ σ 2 ∧ σ 2 ≤ 7 := h1 2 _ rfl
  have b3 : (-2147483648) ≤ σ 3 ∧ σ 3 ≤ 2147483647 := h1 3 _ rfl
  have b4 : (-2147483648) ≤ σ 4 ∧ σ 4 ≤ 2147483647 := h1 4 _ rfl
  have p0 : BTp (σ 1) (σ 2) := by
    have q : BTp (σ 1 + 0) (σ 2 + 0) := h4 _ (.head _)
    simpa only [Int.add_zero, hz, Int.zero_add] using q
  have p1 : (σ 3) = (Int32.ofInt 1 <<< (Int32.ofInt (σ 2) &&& 31)).toInt := by
    have q : (σ 3 + 0) = (Int32.ofInt (σ 0 + 1) <<< (Int32.ofInt (σ 2 + 0) &&& 31)).toInt := h4 _ (.tail _ (.head _))
    simpa only [Int.add_zero, hz, Int.zero_add] using q
  have p2 : (σ 4) = (Int32.ofInt (σ 1) ||| Int32.ofInt (σ 3)).toInt := by
    have q : (σ 4 + 0) = (Int32.ofInt (σ 1 + 0) ||| Int32.ofInt (σ 3 + 0)).toInt := h4 _ (.tail _ (.tail _ (.head _)))
    simpa only [Int.add_zero, hz, Int.zero_add] using q
  obtain r0 := lc_btor (σ 1) (σ 2) (σ 3) (σ 4) b1 b2 b3 b4 p0 p1 p2
  refine ⟨σ, φ, fun _ _ => rfl, fun _ _ => rfl, ?_⟩
  refine ⟨sx_de0, sx_dr0, ?_, ?_, sx_nil, sx_nil⟩
  · exact sx_cons (by show 0 ≤ (1 * σ 4 + ((-1) * σ 1 + 0)) + (-1); have q := r0; omega) (sx_nil)
  · exact sx_nil
theorem sxL_cp0_ok : sx_lemok sxPF sxL_cp0 := by
  intro σ φ h
  obtain ⟨h1, h2, h3, h4, h5, h6⟩ := h
  have hz : σ 0 = 0 := by
    have q : 0 ≤ σ 0 ∧ σ 0 ≤ 0 := h1 0 _ rfl
    omega
  have b1 : 0 ≤ σ 1 ∧ σ 1 ≤ 600 := h1 1 _ rfl
  have b2 : 0 ≤ σ 2 ∧ σ 2 ≤ 600 := h1 2 _ rfl
  obtain r0 := lc_cp0 (σ 1) (σ 2) (φ 0) (φ 1) b1 b2
  refine ⟨σ, φ, fun _ _ => rfl, fun _ _ => rfl, ?_⟩
  refine ⟨sx_de0, sx_dr0, ?_, ?_, sx_nil, sx_nil⟩
  · exact sx_nil
  · exact sx_cons (by show CPp (σ 0 + 0) (σ 1 + 0) (σ 2 + 0) (φ 0) (φ 0) (φ 1); simpa only [Int.add_zero, Int.zero_add, hz] using r0) (sx_nil)
theorem sxL_cp1_ok : sx_lemok sxPF sxL_cp1 := by
  intro σ φ h
  obtain ⟨h1, h2, h3, h4, h5, h6⟩ := h
  have hz : σ 0 = 0 := by
    have q : 0 ≤ σ 0 ∧ σ 0 ≤ 0 := h1 0 _ rfl
    omega
  have b1 : 0 ≤ σ 1 ∧ σ 1 ≤ 600 := h1 1 _ rfl
  have b2 : 0 ≤ σ 2 ∧ σ 2 ≤ 600 := h1 2 _ rfl
  have b3 : 0 ≤ σ 3 ∧ σ 3 ≤ 600 := h1 3 _ rfl
  have b4 : (-2147483648) ≤ σ 4 ∧ σ 4 ≤ 2147483647 := h1 4 _ rfl
  have b5 : (-2147483648) ≤ σ 5 ∧ σ 5 ≤ 2147483647 := h1 5 _ rfl
  have b6 : (-2147483648) ≤ σ 6 ∧ σ 6 ≤ 2147483647 := h1 6 _ rfl
  have g0 : 0 ≤ 1 * (σ 4) + (-1) * (σ 2) + (-1) * (σ 1) + 0 := by
    have q : 0 ≤ (1 * σ 4 + ((-1) * σ 2 + ((-1) * σ 1 + 0))) + 0 := h3 _ (.head _)
    omega
  have g1 : 0 ≤ (-1) * (σ 4) + 1 * (σ 2) + 1 * (σ 1) + 0 := by
    have q : 0 ≤ ((-1) * σ 4 + (1 * σ 2 + (1 * σ 1 + 0))) + 0 := h3 _ (.tail _ (.head _))
    omega
  have g2 : 0 ≤ 1 * (σ 5) + (-1) * (σ 3) + (-1) * (σ 1) + 0 := by
    have q : 0 ≤ (1 * σ 5 + ((-1) * σ 3 + ((-1) * σ 1 + 0))) + 0 := h3 _ (.tail _ (.tail _ (.head _)))
    omega
  have g3 : 0 ≤ (-1) * (σ 5) + 1 * (σ 3) + 1 * (σ 1) + 0 := by
    have q : 0 ≤ ((-1) * σ 5 + (1 * σ 3 + (1 * σ 1 + 0))) + 0 := h3 _ (.tail _ (.tail _ (.tail _ (.head _))))
    omega
  have p0 : CPp (σ 1) (σ 2) (σ 3) (φ 0) (φ 1) (φ 2) := by
    have q : CPp (σ 1 + 0) (σ 2 + 0) (σ 3 + 0) (φ 0) (φ 1) (φ 2) := h4 _ (.head _)
    simpa only [Int.add_zero, hz, Int.zero_add] using q
  have p1 : P5 (σ 5) (σ 6) (φ 2) := by
    have q : P5 (σ 5 + 0) (σ 6 + 0) (φ 2) := h4 _ (.tail _ (.head _))
    simpa only [Int.add_zero, hz, Int.zero_add] using q
  have p2 : P6 (σ 4) (σ 6) (φ 0) (φ 3) := by
    have q : P6 (σ 4 + 0) (σ 6 + 0) (φ 0) (φ 3) := h4 _ (.tail _ (.tail _ (.head _)))
    simpa only [Int.add_zero, hz, Int.zero_add] using q
  obtain r0 := lc_cp1 (σ 1) (σ 2) (σ 3) (σ 4) (σ 5) (σ 6) (φ 0) (φ 1) (φ 2) (φ 3) b1 b2 b3 b4 b5 b6 g0 g1 g2 g3 p0 p1 p2
  refine ⟨σ, φ, fun _ _ => rfl, fun _ _ => rfl, ?_⟩
  refine ⟨sx_de0, sx_dr0, ?_, ?_, sx_nil, sx_nil⟩
  · exact sx_nil
  · exact sx_cons (by show CPp (σ 1 + 1) (σ 2 + 0) (σ 3 + 0) (φ 3) (φ 1) (φ 2); simpa only [Int.add_zero, Int.zero_add, hz] using r0) (sx_nil)
theorem sxL_mk29_ok : sx_lemok sxPF sxL_mk29 := by
  intro σ φ h
  obtain ⟨h1, h2, h3, h4, h5, h6⟩ := h
  have hz : σ 0 = 0 := by
    have q : 0 ≤ σ 0 ∧ σ 0 ≤ 0 := h1 0 _ rfl
    omega
  have b1 : 0 ≤ σ 1 ∧ σ 1 ≤ 20 := h1 1 _ rfl
  obtain ⟨x0, r0, r1, r2⟩ := lc_mk29 (σ 1) b1
  obtain ⟨τ, e1, e2⟩ := sx_ex1 σ 2 x0
  have u0 : τ 0 = σ 0 := e1 0 (by decide)
  have u1 : τ 1 = σ 1 := e1 1 (by decide)
  refine ⟨τ, φ, fun i hi => e1 i hi, fun _ _ => rfl, ?_⟩
  refine ⟨sx_de1 (by show 0 ≤ τ 2 ∧ τ 2 ≤ 580; rw [e2]; exact r0), sx_dr0, ?_, ?_, sx_nil, sx_nil⟩
  · exact sx_cons (by show 0 ≤ (1 * τ 2 + ((-29) * τ 1 + 0)) + 0; rw [e2, u1]; have q := r1; omega) (sx_cons (by show 0 ≤ ((-1) * τ 2 + (29 * τ 1 + 0)) + 0; rw [e2, u1]; have q := r2; omega) (sx_nil))
  · exact sx_nil
theorem sxL_mk108_ok : sx_lemok sxPF sxL_mk108 := by
  intro σ φ h
  obtain ⟨h1, h2, h3, h4, h5, h6⟩ := h
  have hz : σ 0 = 0 := by
    have q : 0 ≤ σ 0 ∧ σ 0 ≤ 0 := h1 0 _ rfl
    omega
  have b1 : 0 ≤ σ 1 ∧ σ 1 ≤ 3 := h1 1 _ rfl
  obtain ⟨x0, r0, r1, r2⟩ := lc_mk108 (σ 1) b1
  obtain ⟨τ, e1, e2⟩ := sx_ex1 σ 2 x0
  have u0 : τ 0 = σ 0 := e1 0 (by decide)
  have u1 : τ 1 = σ 1 := e1 1 (by decide)
  refine ⟨τ, φ, fun i hi => e1 i hi, fun _ _ => rfl, ?_⟩
  refine ⟨sx_de1 (by show 0 ≤ τ 2 ∧ τ 2 ≤ 324; rw [e2]; exact r0), sx_dr0, ?_, ?_, sx_nil, sx_nil⟩
  · exact sx_cons (by show 0 ≤ (1 * τ 2 + ((-108) * τ 1 + 0)) + 0; rw [e2, u1]; have q := r1; omega) (sx_cons (by show 0 ≤ ((-1) * τ 2 + (108 * τ 1 + 0)) + 0; rw [e2, u1]; have q := r2; omega) (sx_nil))
  · exact sx_nil
theorem sxL_kpe_ok : sx_lemok sxPF sxL_kpe := by
  intro σ φ h
  obtain ⟨h1, h2, h3, h4, h5, h6⟩ := h
  have hz : σ 0 = 0 := by
    have q : 0 ≤ σ 0 ∧ σ 0 ≤ 0 := h1 0 _ rfl
    omega
  have b1 : 29 ≤ σ 1 ∧ σ 1 ≤ 29 := h1 1 _ rfl
  have b2 : 0 ≤ σ 2 ∧ σ 2 ≤ 7 := h1 2 _ rfl
  have b3 : 0 ≤ σ 3 ∧ σ 3 ≤ 8 := h1 3 _ rfl
  have p0 : CPp (σ 1) 0 10 (φ 0) (φ 1) (φ 2) := by
    have q : CPp (σ 1 + 0) (σ 0 + 0) (σ 0 + 10) (φ 0) (φ 1) (φ 2) := h4 _ (.head _)
    simpa only [Int.add_zero, hz, Int.zero_add] using q
  have p1 : SDp 1 (σ 2) (σ 3) (φ 2) := by
    have q : SDp (σ 0 + 1) (σ 2 + 0) (σ 3 + 0) (φ 2) := h4 _ (.tail _ (.head _))
    simpa only [Int.add_zero, hz, Int.zero_add] using q
  obtain r0 := lc_kpe (σ 1) (σ 2) (σ 3) (φ 0) (φ 1) (φ 2) b1 b2 b3 p0 p1
  refine ⟨σ, φ, fun _ _ => rfl, fun _ _ => rfl, ?_⟩
  refine ⟨sx_de0, sx_dr0, ?_, ?_, sx_nil, sx_nil⟩
  · exact sx_nil
  · exact sx_cons (by show PKp (σ 2 + 0) (φ 0); simpa only [Int.add_zero, Int.zero_add, hz] using r0) (sx_nil)
theorem sxL_lbe_ok : sx_lemok sxPF sxL_lbe := by
  intro σ φ h
  obtain ⟨h1, h2, h3, h4, h5, h6⟩ := h
  have hz : σ 0 = 0 := by
    have q : 0 ≤ σ 0 ∧ σ 0 ≤ 0 := h1 0 _ rfl
    omega
  have b1 : 29 ≤ σ 1 ∧ σ 1 ≤ 29 := h1 1 _ rfl
  have b2 : 0 ≤ σ 2 ∧ σ 2 ≤ 1 := h1 2 _ rfl
  have b3 : 0 ≤ σ 3 ∧ σ 3 ≤ 7 := h1 3 _ rfl
  have b4 : 0 ≤ σ 4 ∧ σ 4 ≤ 8 := h1 4 _ rfl
  have p0 : CPp (σ 1) 10 0 (φ 0) (φ 1) (φ 2) := by
    have q : CPp (σ 1 + 0) (σ 0 + 10) (σ 0 + 0) (φ 0) (φ 1) (φ 2) := h4 _ (.head _)
    simpa only [Int.add_zero, hz, Int.zero_add] using q
  have p1 : SDp (σ 2) (σ 3) (σ 4) (φ 1) := by
    have q : SDp (σ 2 + 0) (σ 3 + 0) (σ 4 + 0) (φ 1) := h4 _ (.tail _ (.head _))
    simpa only [Int.add_zero, hz, Int.zero_add] using q
  have p2 : PKp (σ 3) (φ 2) := by
    have q : PKp (σ 3 + 0) (φ 2) := h4 _ (.tail _ (.tail _ (.head _)))
    simpa only [Int.add_zero, hz, Int.zero_add] using q
  obtain r0 := lc_lbe (σ 1) (σ 2) (σ 3) (σ 4) (φ 0) (φ 1) (φ 2) b1 b2 b3 b4 p0 p1 p2
  refine ⟨σ, φ, fun _ _ => rfl, fun _ _ => rfl, ?_⟩
  refine ⟨sx_de0, sx_dr0, ?_, ?_, sx_nil, sx_nil⟩
  · exact sx_nil
  · exact sx_cons (by show SDp (σ 0 + 1) (σ 3 + 0) (σ 4 + 0) (φ 0); simpa only [Int.add_zero, Int.zero_add, hz] using r0) (sx_nil)
theorem sxL_kae_ok : sx_lemok sxPF sxL_kae := by
  intro σ φ h
  obtain ⟨h1, h2, h3, h4, h5, h6⟩ := h
  have hz : σ 0 = 0 := by
    have q : 0 ≤ σ 0 ∧ σ 0 ≤ 0 := h1 0 _ rfl
    omega
  have b1 : 29 ≤ σ 1 ∧ σ 1 ≤ 29 := h1 1 _ rfl
  have b2 : 0 ≤ σ 2 ∧ σ 2 ≤ 600 := h1 2 _ rfl
  have b3 : 0 ≤ σ 3 ∧ σ 3 ≤ 19 := h1 3 _ rfl
  have b4 : 0 ≤ σ 4 ∧ σ 4 ≤ 7 := h1 4 _ rfl
  have b5 : 0 ≤ σ 5 ∧ σ 5 ≤ 8 := h1 5 _ rfl
  have g0 : 0 ≤ 1 * (σ 2) + (-29) * (σ 3) + 0 := by
    have q : 0 ≤ (1 * σ 2 + ((-29) * σ 3 + 0)) + 0 := h3 _ (.head _)
    omega
  have g1 : 0 ≤ (-1) * (σ 2) + 29 * (σ 3) + 0 := by
    have q : 0 ≤ ((-1) * σ 2 + (29 * σ 3 + 0)) + 0 := h3 _ (.tail _ (.head _))
    omega
  have p0 : CPp (σ 1) (σ 2) 10 (φ 0) (φ 1) (φ 2) := by
    have q : CPp (σ 1 + 0) (σ 2 + 0) (σ 0 + 10) (φ 0) (φ 1) (φ 2) := h4 _ (.head _)
    simpa only [Int.add_zero, hz, Int.zero_add] using q
  have p1 : WSp (σ 3) (σ 4) (φ 1) := by
    have q : WSp (σ 3 + 0) (σ 4 + 0) (φ 1) := h4 _ (.tail _ (.head _))
    simpa only [Int.add_zero, hz, Int.zero_add] using q
  have p2 : SDp 1 (σ 4) (σ 5) (φ 2) := by
    have q : SDp (σ 0 + 1) (σ 4 + 0) (σ 5 + 0) (φ 2) := h4 _ (.tail _ (.tail _ (.head _)))
    simpa only [Int.add_zero, hz, Int.zero_add] using q
  obtain r0 := lc_kae (σ 1) (σ 2) (σ 3) (σ 4) (σ 5) (φ 0) (φ 1) (φ 2) b1 b2 b3 b4 b5 g0 g1 p0 p1 p2
  refine ⟨σ, φ, fun _ _ => rfl, fun _ _ => rfl, ?_⟩
  refine ⟨sx_de0, sx_dr0, ?_, ?_, sx_nil, sx_nil⟩
  · exact sx_nil
  · exact sx_cons (by show WSp (σ 3 + 1) (σ 4 + 0) (φ 0); simpa only [Int.add_zero, Int.zero_add, hz] using r0) (sx_nil)
theorem sxL_ude_ok : sx_lemok sxPF sxL_ude := by
  intro σ φ h
  obtain ⟨h1, h2, h3, h4, h5, h6⟩ := h
  have hz : σ 0 = 0 := by
    have q : 0 ≤ σ 0 ∧ σ 0 ≤ 0 := h1 0 _ rfl
    omega
  have b1 : 29 ≤ σ 1 ∧ σ 1 ≤ 29 := h1 1 _ rfl
  have b2 : 0 ≤ σ 2 ∧ σ 2 ≤ 600 := h1 2 _ rfl
  have b3 : 0 ≤ σ 3 ∧ σ 3 ≤ 19 := h1 3 _ rfl
  have b4 : 0 ≤ σ 4 ∧ σ 4 ≤ 1 := h1 4 _ rfl
  have b5 : 0 ≤ σ 5 ∧ σ 5 ≤ 7 := h1 5 _ rfl
  have b6 : 0 ≤ σ 6 ∧ σ 6 ≤ 8 := h1 6 _ rfl
  have g0 : 0 ≤ 1 * (σ 2) + (-29) * (σ 3) + 0 := by
    have q : 0 ≤ (1 * σ 2 + ((-29) * σ 3 + 0)) + 0 := h3 _ (.head _)
    omega
  have g1 : 0 ≤ (-1) * (σ 2) + 29 * (σ 3) + 0 := by
    have q : 0 ≤ ((-1) * σ 2 + (29 * σ 3 + 0)) + 0 := h3 _ (.tail _ (.head _))
    omega
  have p0 : CPp (σ 1) 10 (σ 2) (φ 0) (φ 1) (φ 2) := by
    have q : CPp (σ 1 + 0) (σ 0 + 10) (σ 2 + 0) (φ 0) (φ 1) (φ 2) := h4 _ (.head _)
    simpa only [Int.add_zero, hz, Int.zero_add] using q
  have p1 : WSp ((σ 3) + 1) (σ 5) (φ 2) := by
    have q : WSp (σ 3 + 1) (σ 5 + 0) (φ 2) := h4 _ (.tail _ (.head _))
    simpa only [Int.add_zero, hz, Int.zero_add] using q
  have p2 : SDp (σ 4) (σ 5) (σ 6) (φ 1) := by
    have q : SDp (σ 4 + 0) (σ 5 + 0) (σ 6 + 0) (φ 1) := h4 _ (.tail _ (.tail _ (.head _)))
    simpa only [Int.add_zero, hz, Int.zero_add] using q
  obtain ⟨r0, r1⟩ := lc_ude (σ 1) (σ 2) (σ 3) (σ 4) (σ 5) (σ 6) (φ 0) (φ 1) (φ 2) b1 b2 b3 b4 b5 b6 g0 g1 p0 p1 p2
  refine ⟨σ, φ, fun _ _ => rfl, fun _ _ => rfl, ?_⟩
  refine ⟨sx_de0, sx_dr0, ?_, ?_, sx_nil, sx_nil⟩
  · exact sx_nil
  · exact sx_cons (by show SDp (σ 0 + 1) (σ 5 + 0) (σ 6 + 0) (φ 0); simpa only [Int.add_zero, Int.zero_add, hz] using r0) (sx_cons (by show WSp (σ 3 + 0) (σ 5 + 0) (φ 2); simpa only [Int.add_zero, Int.zero_add, hz] using r1) (sx_nil))
theorem sxL_ime_ok : sx_lemok sxPF sxL_ime := by
  intro σ φ h
  obtain ⟨h1, h2, h3, h4, h5, h6⟩ := h
  have hz : σ 0 = 0 := by
    have q : 0 ≤ σ 0 ∧ σ 0 ≤ 0 := h1 0 _ rfl
    omega
  have b1 : 108 ≤ σ 1 ∧ σ 1 ≤ 108 := h1 1 _ rfl
  have b2 : 0 ≤ σ 2 ∧ σ 2 ≤ 600 := h1 2 _ rfl
  have b3 : 0 ≤ σ 3 ∧ σ 3 ≤ 3 := h1 3 _ rfl
  have b4 : 0 ≤ σ 4 ∧ σ 4 ≤ 7 := h1 4 _ rfl
  have b5 : 0 ≤ σ 5 ∧ σ 5 ≤ 8 := h1 5 _ rfl
  have g0 : 0 ≤ 1 * (σ 2) + (-108) * (σ 3) + 0 := by
    have q : 0 ≤ (1 * σ 2 + ((-108) * σ 3 + 0)) + 0 := h3 _ (.head _)
    omega
  have g1 : 0 ≤ (-1) * (σ 2) + 108 * (σ 3) + 0 := by
    have q : 0 ≤ ((-1) * σ 2 + (108 * σ 3 + 0)) + 0 := h3 _ (.tail _ (.head _))
    omega
  have p0 : CPp (σ 1) (σ 2) 0 (φ 0) (φ 1) (φ 2) := by
    have q : CPp (σ 1 + 0) (σ 2 + 0) (σ 0 + 0) (φ 0) (φ 1) (φ 2) := h4 _ (.head _)
    simpa only [Int.add_zero, hz, Int.zero_add] using q
  have p1 : IMp (φ 1) := by
    have q : IMp (φ 1) := h4 _ (.tail _ (.head _))
    exact q
  have p2 : SDp 1 (σ 4) (σ 5) (φ 2) := by
    have q : SDp (σ 0 + 1) (σ 4 + 0) (σ 5 + 0) (φ 2) := h4 _ (.tail _ (.tail _ (.head _)))
    simpa only [Int.add_zero, hz, Int.zero_add] using q
  obtain r0 := lc_ime (σ 1) (σ 2) (σ 3) (σ 4) (σ 5) (φ 0) (φ 1) (φ 2) b1 b2 b3 b4 b5 g0 g1 p0 p1 p2
  refine ⟨σ, φ, fun _ _ => rfl, fun _ _ => rfl, ?_⟩
  refine ⟨sx_de0, sx_dr0, ?_, ?_, sx_nil, sx_nil⟩
  · exact sx_nil
  · exact sx_cons (by show IMp (φ 0); exact r0) (sx_nil)
theorem sxL_bke_ok : sx_lemok sxPF sxL_bke := by
  intro σ φ h
  obtain ⟨h1, h2, h3, h4, h5, h6⟩ := h
  have hz : σ 0 = 0 := by
    have q : 0 ≤ σ 0 ∧ σ 0 ≤ 0 := h1 0 _ rfl
    omega
  have b1 : 108 ≤ σ 1 ∧ σ 1 ≤ 108 := h1 1 _ rfl
  have b2 : 0 ≤ σ 2 ∧ σ 2 ≤ 600 := h1 2 _ rfl
  have b3 : 0 ≤ σ 3 ∧ σ 3 ≤ 3 := h1 3 _ rfl
  have g0 : 0 ≤ 1 * (σ 2) + (-108) * (σ 3) + 0 := by
    have q : 0 ≤ (1 * σ 2 + ((-108) * σ 3 + 0)) + 0 := h3 _ (.head _)
    omega
  have g1 : 0 ≤ (-1) * (σ 2) + 108 * (σ 3) + 0 := by
    have q : 0 ≤ ((-1) * σ 2 + (108 * σ 3 + 0)) + 0 := h3 _ (.tail _ (.head _))
    omega
  have p0 : CPp (σ 1) 0 (σ 2) (φ 0) (φ 1) (φ 2) := by
    have q : CPp (σ 1 + 0) (σ 0 + 0) (σ 2 + 0) (φ 0) (φ 1) (φ 2) := h4 _ (.head _)
    simpa only [Int.add_zero, hz, Int.zero_add] using q
  have p1 : IMp (φ 2) := by
    have q : IMp (φ 2) := h4 _ (.tail _ (.head _))
    exact q
  obtain ⟨x0, x1, r0, r1, r2⟩ := lc_bke (σ 1) (σ 2) (σ 3) (φ 0) (φ 1) (φ 2) b1 b2 b3 g0 g1 p0 p1
  obtain ⟨τ, e1, e2, e3⟩ := sx_ex2 σ 4 x0 x1
  have u0 : τ 0 = σ 0 := e1 0 (by decide)
  have u1 : τ 1 = σ 1 := e1 1 (by decide)
  have u2 : τ 2 = σ 2 := e1 2 (by decide)
  have u3 : τ 3 = σ 3 := e1 3 (by decide)
  refine ⟨τ, φ, fun i hi => e1 i hi, fun _ _ => rfl, ?_⟩
  refine ⟨sx_de2 (by show 0 ≤ τ 4 ∧ τ 4 ≤ 7; rw [e2]; exact r0) (by show 0 ≤ τ 5 ∧ τ 5 ≤ 8; rw [e3]; exact r1), sx_dr0, ?_, ?_, sx_nil, sx_nil⟩
  · exact sx_nil
  · exact sx_cons (by show SDp (τ 0 + 1) (τ 4 + 0) (τ 5 + 0) (φ 0); simpa only [Int.add_zero, Int.zero_add, hz, u0, u1, u2, u3, e2, e3] using r2) (sx_nil)
theorem sxL_ws0_ok : sx_lemok sxPF sxL_ws0 := by
  intro σ φ h
  obtain ⟨h1, h2, h3, h4, h5, h6⟩ := h
  have hz : σ 0 = 0 := by
    have q : 0 ≤ σ 0 ∧ σ 0 ≤ 0 := h1 0 _ rfl
    omega
  have b1 : 0 ≤ σ 1 ∧ σ 1 ≤ 7 := h1 1 _ rfl
  obtain r0 := lc_ws0 (σ 1) (φ 0) b1
  refine ⟨σ, φ, fun _ _ => rfl, fun _ _ => rfl, ?_⟩
  refine ⟨sx_de0, sx_dr0, ?_, ?_, sx_nil, sx_nil⟩
  · exact sx_nil
  · exact sx_cons (by show WSp (σ 0 + 0) (σ 1 + 0) (φ 0); simpa only [Int.add_zero, Int.zero_add, hz] using r0) (sx_nil)
theorem sxL_sh0_ok : sx_lemok sxPF sxL_sh0 := by
  intro σ φ h
  obtain ⟨h1, h2, h3, h4, h5, h6⟩ := h
  have hz : σ 0 = 0 := by
    have q : 0 ≤ σ 0 ∧ σ 0 ≤ 0 := h1 0 _ rfl
    omega
  obtain r0 := lc_sh0 (φ 0)
  refine ⟨σ, φ, fun _ _ => rfl, fun _ _ => rfl, ?_⟩
  refine ⟨sx_de0, sx_dr0, ?_, ?_, sx_nil, sx_nil⟩
  · exact sx_nil
  · exact sx_cons (by show SHp (σ 0 + 29) (φ 0) (φ 0); simpa only [Int.add_zero, Int.zero_add, hz] using r0) (sx_nil)
theorem sxL_sh1_ok : sx_lemok sxPF sxL_sh1 := by
  intro σ φ h
  obtain ⟨h1, h2, h3, h4, h5, h6⟩ := h
  have hz : σ 0 = 0 := by
    have q : 0 ≤ σ 0 ∧ σ 0 ≤ 0 := h1 0 _ rfl
    omega
  have b1 : 29 ≤ σ 1 ∧ σ 1 ≤ 579 := h1 1 _ rfl
  have b2 : (-2147483648) ≤ σ 2 ∧ σ 2 ≤ 2147483647 := h1 2 _ rfl
  have p0 : SHp (σ 1) (φ 0) (φ 1) := by
    have q : SHp (σ 1 + 0) (φ 0) (φ 1) := h4 _ (.head _)
    simpa only [Int.add_zero, hz, Int.zero_add] using q
  have p1 : P5 (σ 1) (σ 2) (φ 0) := by
    have q : P5 (σ 1 + 0) (σ 2 + 0) (φ 0) := h4 _ (.tail _ (.head _))
    simpa only [Int.add_zero, hz, Int.zero_add] using q
  have p2 : P6 ((σ 1) + -29) (σ 2) (φ 0) (φ 2) := by
    have q : P6 (σ 1 + -29) (σ 2 + 0) (φ 0) (φ 2) := h4 _ (.tail _ (.tail _ (.head _)))
    simpa only [Int.add_zero, hz, Int.zero_add] using q
  obtain r0 := lc_sh1 (σ 1) (σ 2) (φ 0) (φ 1) (φ 2) b1 b2 p0 p1 p2
  refine ⟨σ, φ, fun _ _ => rfl, fun _ _ => rfl, ?_⟩
  refine ⟨sx_de0, sx_dr0, ?_, ?_, sx_nil, sx_nil⟩
  · exact sx_nil
  · exact sx_cons (by show SHp (σ 1 + 1) (φ 2) (φ 1); simpa only [Int.add_zero, Int.zero_add, hz] using r0) (sx_nil)
theorem sxL_she_ok : sx_lemok sxPF sxL_she := by
  intro σ φ h
  obtain ⟨h1, h2, h3, h4, h5, h6⟩ := h
  have hz : σ 0 = 0 := by
    have q : 0 ≤ σ 0 ∧ σ 0 ≤ 0 := h1 0 _ rfl
    omega
  have b1 : 580 ≤ σ 1 ∧ σ 1 ≤ 580 := h1 1 _ rfl
  have b2 : 0 ≤ σ 2 ∧ σ 2 ≤ 7 := h1 2 _ rfl
  have b3 : 20 ≤ σ 3 ∧ σ 3 ≤ 20 := h1 3 _ rfl
  have p0 : SHp (σ 1) (φ 0) (φ 1) := by
    have q : SHp (σ 1 + 0) (φ 0) (φ 1) := h4 _ (.head _)
    simpa only [Int.add_zero, hz, Int.zero_add] using q
  have p1 : WSp (σ 3) (σ 2) (φ 1) := by
    have q : WSp (σ 3 + 0) (σ 2 + 0) (φ 1) := h4 _ (.tail _ (.head _))
    simpa only [Int.add_zero, hz, Int.zero_add] using q
  obtain r0 := lc_she (σ 1) (σ 2) (σ 3) (φ 0) (φ 1) b1 b2 b3 p0 p1
  refine ⟨σ, φ, fun _ _ => rfl, fun _ _ => rfl, ?_⟩
  refine ⟨sx_de0, sx_dr0, ?_, ?_, sx_nil, sx_nil⟩
  · exact sx_nil
  · exact sx_cons (by show WSp (σ 3 + -1) (σ 2 + 0) (φ 0); simpa only [Int.add_zero, Int.zero_add, hz] using r0) (sx_nil)
theorem sxL_bg0_ok : sx_lemok sxPF sxL_bg0 := by
  intro σ φ h
  obtain ⟨h1, h2, h3, h4, h5, h6⟩ := h
  have hz : σ 0 = 0 := by
    have q : 0 ≤ σ 0 ∧ σ 0 ≤ 0 := h1 0 _ rfl
    omega
  have b1 : 0 ≤ σ 1 ∧ σ 1 ≤ 1 := h1 1 _ rfl
  have b2 : 0 ≤ σ 2 ∧ σ 2 ≤ 7 := h1 2 _ rfl
  have b3 : 0 ≤ σ 3 ∧ σ 3 ≤ 8 := h1 3 _ rfl
  have p0 : SDp (σ 1) (σ 2) (σ 3) (φ 0) := by
    have q : SDp (σ 1 + 0) (σ 2 + 0) (σ 3 + 0) (φ 0) := h4 _ (.head _)
    simpa only [Int.add_zero, hz, Int.zero_add] using q
  obtain r0 := lc_bg0 (σ 1) (σ 2) (σ 3) (φ 0) b1 b2 b3 p0
  refine ⟨σ, φ, fun _ _ => rfl, fun _ _ => rfl, ?_⟩
  refine ⟨sx_de0, sx_dr0, ?_, ?_, sx_nil, sx_nil⟩
  · exact sx_nil
  · exact sx_cons (by show BGp (σ 0 + 0) (σ 2 + 0) (σ 3 + 0) (φ 0); simpa only [Int.add_zero, Int.zero_add, hz] using r0) (sx_nil)
theorem sxL_bg1_ok : sx_lemok sxPF sxL_bg1 := by
  intro σ φ h
  obtain ⟨h1, h2, h3, h4, h5, h6⟩ := h
  have hz : σ 0 = 0 := by
    have q : 0 ≤ σ 0 ∧ σ 0 ≤ 0 := h1 0 _ rfl
    omega
  have b1 : 0 ≤ σ 1 ∧ σ 1 ≤ 6 := h1 1 _ rfl
  have b2 : 0 ≤ σ 2 ∧ σ 2 ≤ 7 := h1 2 _ rfl
  have b3 : 0 ≤ σ 3 ∧ σ 3 ≤ 8 := h1 3 _ rfl
  have p0 : BGp (σ 1) (σ 2) (σ 3) (φ 0) := by
    have q : BGp (σ 1 + 0) (σ 2 + 0) (σ 3 + 0) (φ 0) := h4 _ (.head _)
    simpa only [Int.add_zero, hz, Int.zero_add] using q
  have p1 : P6 ((σ 1) + 11) (σ 1) (φ 0) (φ 1) := by
    have q : P6 (σ 1 + 11) (σ 1 + 0) (φ 0) (φ 1) := h4 _ (.tail _ (.head _))
    simpa only [Int.add_zero, hz, Int.zero_add] using q
  obtain r0 := lc_bg1 (σ 1) (σ 2) (σ 3) (φ 0) (φ 1) b1 b2 b3 p0 p1
  refine ⟨σ, φ, fun _ _ => rfl, fun _ _ => rfl, ?_⟩
  refine ⟨sx_de0, sx_dr0, ?_, ?_, sx_nil, sx_nil⟩
  · exact sx_nil
  · exact sx_cons (by show BGp (σ 1 + 1) (σ 2 + 0) (σ 3 + 0) (φ 1); simpa only [Int.add_zero, Int.zero_add, hz] using r0) (sx_nil)
theorem sxL_bg2_ok : sx_lemok sxPF sxL_bg2 := by
  intro σ φ h
  obtain ⟨h1, h2, h3, h4, h5, h6⟩ := h
  have hz : σ 0 = 0 := by
    have q : 0 ≤ σ 0 ∧ σ 0 ≤ 0 := h1 0 _ rfl
    omega
  have b1 : 0 ≤ σ 1 ∧ σ 1 ≤ 7 := h1 1 _ rfl
  have b2 : 0 ≤ σ 2 ∧ σ 2 ≤ 7 := h1 2 _ rfl
  have b3 : 0 ≤ σ 3 ∧ σ 3 ≤ 8 := h1 3 _ rfl
  have b4 : 18 ≤ σ 4 ∧ σ 4 ≤ 52 := h1 4 _ rfl
  have b5 : (-2147483648) ≤ σ 5 ∧ σ 5 ≤ 2147483647 := h1 5 _ rfl
  have p0 : BGp (σ 1) (σ 2) (σ 3) (φ 0) := by
    have q : BGp (σ 1 + 0) (σ 2 + 0) (σ 3 + 0) (φ 0) := h4 _ (.head _)
    simpa only [Int.add_zero, hz, Int.zero_add] using q
  have p1 : P6 (σ 4) (σ 5) (φ 0) (φ 1) := by
    have q : P6 (σ 4 + 0) (σ 5 + 0) (φ 0) (φ 1) := h4 _ (.tail _ (.head _))
    simpa only [Int.add_zero, hz, Int.zero_add] using q
  obtain r0 := lc_bg2 (σ 1) (σ 2) (σ 3) (σ 4) (σ 5) (φ 0) (φ 1) b1 b2 b3 b4 b5 p0 p1
  refine ⟨σ, φ, fun _ _ => rfl, fun _ _ => rfl, ?_⟩
  refine ⟨sx_de0, sx_dr0, ?_, ?_, sx_nil, sx_nil⟩
  · exact sx_nil
  · exact sx_cons (by show BGp (σ 1 + 0) (σ 2 + 0) (σ 3 + 0) (φ 1); simpa only [Int.add_zero, Int.zero_add, hz] using r0) (sx_nil)
theorem sxL_bge_ok : sx_lemok sxPF sxL_bge := by
  intro σ φ h
  obtain ⟨h1, h2, h3, h4, h5, h6⟩ := h
  have hz : σ 0 = 0 := by
    have q : 0 ≤ σ 0 ∧ σ 0 ≤ 0 := h1 0 _ rfl
    omega
  have b1 : 7 ≤ σ 1 ∧ σ 1 ≤ 7 := h1 1 _ rfl
  have b2 : 0 ≤ σ 2 ∧ σ 2 ≤ 7 := h1 2 _ rfl
  have b3 : 0 ≤ σ 3 ∧ σ 3 ≤ 8 := h1 3 _ rfl
  have p0 : BGp (σ 1) (σ 2) (σ 3) (φ 0) := by
    have q : BGp (σ 1 + 0) (σ 2 + 0) (σ 3 + 0) (φ 0) := h4 _ (.head _)
    simpa only [Int.add_zero, hz, Int.zero_add] using q
  obtain r0 := lc_bge (σ 1) (σ 2) (σ 3) (φ 0) b1 b2 b3 p0
  refine ⟨σ, φ, fun _ _ => rfl, fun _ _ => rfl, ?_⟩
  refine ⟨sx_de0, sx_dr0, ?_, ?_, sx_nil, sx_nil⟩
  · exact sx_nil
  · exact sx_cons (by show SDp (σ 0 + 1) (σ 2 + 0) (σ 3 + 0) (φ 0); simpa only [Int.add_zero, Int.zero_add, hz] using r0) (sx_nil)
theorem sxL_rus_ok : sx_lemok sxPF sxL_rus := by
  intro σ φ h
  obtain ⟨h1, h2, h3, h4, h5, h6⟩ := h
  have hz : σ 0 = 0 := by
    have q : 0 ≤ σ 0 ∧ σ 0 ≤ 0 := h1 0 _ rfl
    omega
  have b1 : 0 ≤ σ 1 ∧ σ 1 ≤ 5 := h1 1 _ rfl
  have b2 : (-2147483648) ≤ σ 2 ∧ σ 2 ≤ 2147483647 := h1 2 _ rfl
  have b3 : 0 ≤ σ 3 ∧ σ 3 ≤ 11 := h1 3 _ rfl
  have b4 : (-2147483648) ≤ σ 4 ∧ σ 4 ≤ 2147483647 := h1 4 _ rfl
  have b5 : (-2147483648) ≤ σ 5 ∧ σ 5 ≤ 2147483647 := h1 5 _ rfl
  have b6 : (-2147483648) ≤ σ 6 ∧ σ 6 ≤ 2147483647 := h1 6 _ rfl
  have g0 : 0 ≤ 1 * (σ 4) + (-48) * (σ 1) + (-4) * (σ 3) + 0 := by
    have q : 0 ≤ (1 * σ 4 + ((-48) * σ 1 + ((-4) * σ 3 + 0))) + 0 := h3 _ (.head _)
    omega
  have g1 : 0 ≤ (-1) * (σ 4) + 48 * (σ 1) + 4 * (σ 3) + 0 := by
    have q : 0 ≤ ((-1) * σ 4 + (48 * σ 1 + (4 * σ 3 + 0))) + 0 := h3 _ (.tail _ (.head _))
    omega
  have g2 : 0 ≤ 1 * (σ 2) + (-1) * (σ 3) + (-1) := by
    have q : 0 ≤ (1 * σ 2 + ((-1) * σ 3 + 0)) + (-1) := h3 _ (.tail _ (.tail _ (.head _)))
    omega
  have p0 : RUp (φ 0) (φ 1) (φ 2) := by
    have q : RUp (φ 0) (φ 1) (φ 2) := h4 _ (.head _)
    exact q
  have p1 : P5 (σ 1) (σ 2) (φ 2) := by
    have q : P5 (σ 1 + 0) (σ 2 + 0) (φ 2) := h4 _ (.tail _ (.head _))
    simpa only [Int.add_zero, hz, Int.zero_add] using q
  have p2 : P5 (σ 4) (σ 5) (φ 1) := by
    have q : P5 (σ 4 + 0) (σ 5 + 0) (φ 1) := h4 _ (.tail _ (.tail _ (.head _)))
    simpa only [Int.add_zero, hz, Int.zero_add] using q
  have p3 : P5 ((σ 4) + 1) (σ 6) (φ 1) := by
    have q : P5 (σ 4 + 1) (σ 6 + 0) (φ 1) := h4 _ (.tail _ (.tail _ (.tail _ (.head _))))
    simpa only [Int.add_zero, hz, Int.zero_add] using q
  obtain ⟨r0, r1, r2, r3⟩ := lc_rus (σ 1) (σ 2) (σ 3) (σ 4) (σ 5) (σ 6) (φ 0) (φ 1) (φ 2) b1 b2 b3 b4 b5 b6 g0 g1 g2 p0 p1 p2 p3
  refine ⟨σ, φ, fun _ _ => rfl, fun _ _ => rfl, ?_⟩
  refine ⟨sx_de0, sx_dr0, ?_, ?_, sx_nil, sx_nil⟩
  · exact sx_cons (by show 0 ≤ (1 * σ 5 + 0) + 0; have q := r0; omega) (sx_cons (by show 0 ≤ (1 * σ 6 + ((-1) * σ 5 + 0)) + 0; have q := r1; omega) (sx_cons (by show 0 ≤ ((-1) * σ 6 + 0) + 400; have q := r2; omega) (sx_nil)))
  · exact sx_cons (by show DEp (σ 1 + 0) (σ 5 + 0) (σ 6 + 0) (σ 0 + 1) (φ 0); simpa only [Int.add_zero, Int.zero_add, hz] using r3) (sx_nil)
theorem sxL_rut_ok : sx_lemok sxPF sxL_rut := by
  intro σ φ h
  obtain ⟨h1, h2, h3, h4, h5, h6⟩ := h
  have hz : σ 0 = 0 := by
    have q : 0 ≤ σ 0 ∧ σ 0 ≤ 0 := h1 0 _ rfl
    omega
  have b1 : 0 ≤ σ 1 ∧ σ 1 ≤ 5 := h1 1 _ rfl
  have b2 : (-2147483648) ≤ σ 2 ∧ σ 2 ≤ 2147483647 := h1 2 _ rfl
  have b3 : 0 ≤ σ 3 ∧ σ 3 ≤ 11 := h1 3 _ rfl
  have b4 : (-2147483648) ≤ σ 4 ∧ σ 4 ≤ 2147483647 := h1 4 _ rfl
  have b5 : 0 ≤ σ 5 ∧ σ 5 ≤ 400 := h1 5 _ rfl
  have b6 : (-2147483648) ≤ σ 6 ∧ σ 6 ≤ 2147483647 := h1 6 _ rfl
  have g0 : 0 ≤ 1 * (σ 4) + (-48) * (σ 1) + (-4) * (σ 3) + 0 := by
    have q : 0 ≤ (1 * σ 4 + ((-48) * σ 1 + ((-4) * σ 3 + 0))) + 0 := h3 _ (.head _)
    omega
  have g1 : 0 ≤ (-1) * (σ 4) + 48 * (σ 1) + 4 * (σ 3) + 0 := by
    have q : 0 ≤ ((-1) * σ 4 + (48 * σ 1 + (4 * σ 3 + 0))) + 0 := h3 _ (.tail _ (.head _))
    omega
  have g2 : 0 ≤ 1 * (σ 2) + (-1) * (σ 3) + (-1) := by
    have q : 0 ≤ (1 * σ 2 + ((-1) * σ 3 + 0)) + (-1) := h3 _ (.tail _ (.tail _ (.head _)))
    omega
  have p0 : RUp (φ 0) (φ 1) (φ 2) := by
    have q : RUp (φ 0) (φ 1) (φ 2) := h4 _ (.head _)
    exact q
  have p1 : P5 (σ 1) (σ 2) (φ 2) := by
    have q : P5 (σ 1 + 0) (σ 2 + 0) (φ 2) := h4 _ (.tail _ (.head _))
    simpa only [Int.add_zero, hz, Int.zero_add] using q
  have p2 : P5 ((σ 4) + 2) (σ 5) (φ 1) := by
    have q : P5 (σ 4 + 2) (σ 5 + 0) (φ 1) := h4 _ (.tail _ (.tail _ (.head _)))
    simpa only [Int.add_zero, hz, Int.zero_add] using q
  have p3 : P5 ((σ 4) + 3) (σ 6) (φ 1) := by
    have q : P5 (σ 4 + 3) (σ 6 + 0) (φ 1) := h4 _ (.tail _ (.tail _ (.tail _ (.head _))))
    simpa only [Int.add_zero, hz, Int.zero_add] using q
  obtain ⟨r0, r1, r2, r3⟩ := lc_rut (σ 1) (σ 2) (σ 3) (σ 4) (σ 5) (σ 6) (φ 0) (φ 1) (φ 2) b1 b2 b3 b4 b5 b6 g0 g1 g2 p0 p1 p2 p3
  refine ⟨σ, φ, fun _ _ => rfl, fun _ _ => rfl, ?_⟩
  refine ⟨sx_de0, sx_dr0, ?_, ?_, sx_nil, sx_nil⟩
  · exact sx_cons (by show 0 ≤ (1 * σ 5 + 0) + 0; have q := r0; omega) (sx_cons (by show 0 ≤ (1 * σ 6 + ((-1) * σ 5 + 0)) + 0; have q := r1; omega) (sx_cons (by show 0 ≤ ((-1) * σ 6 + 0) + 400; have q := r2; omega) (sx_nil)))
  · exact sx_cons (by show DEp (σ 1 + 0) (σ 5 + 0) (σ 6 + 0) (σ 0 + 1) (φ 0); simpa only [Int.add_zero, Int.zero_add, hz] using r3) (sx_nil)
theorem sxL_de0_ok : sx_lemok sxPF sxL_de0 := by
  intro σ φ h
  obtain ⟨h1, h2, h3, h4, h5, h6⟩ := h
  have hz : σ 0 = 0 := by
    have q : 0 ≤ σ 0 ∧ σ 0 ≤ 0 := h1 0 _ rfl
    omega
  have b1 : 0 ≤ σ 1 ∧ σ 1 ≤ 5 := h1 1 _ rfl
  have b2 : 0 ≤ σ 2 ∧ σ 2 ≤ 400 := h1 2 _ rfl
  obtain r0 := lc_de0 (σ 1) (σ 2) (φ 0) b1 b2
  refine ⟨σ, φ, fun _ _ => rfl, fun _ _ => rfl, ?_⟩
  refine ⟨sx_de0, sx_dr0, ?_, ?_, sx_nil, sx_nil⟩
  · exact sx_nil
  · exact sx_cons (by show DEp (σ 1 + 0) (σ 2 + 0) (σ 2 + 0) (σ 0 + 0) (φ 0); simpa only [Int.add_zero, Int.zero_add, hz] using r0) (sx_nil)
theorem sxL_dn_ok : sx_lemok sxPF sxL_dn := by
  intro σ φ h
  obtain ⟨h1, h2, h3, h4, h5, h6⟩ := h
  have hz : σ 0 = 0 := by
    have q : 0 ≤ σ 0 ∧ σ 0 ≤ 0 := h1 0 _ rfl
    omega
  have b1 : 0 ≤ σ 1 ∧ σ 1 ≤ 5 := h1 1 _ rfl
  have b2 : 0 ≤ σ 2 ∧ σ 2 ≤ 400 := h1 2 _ rfl
  have b3 : 0 ≤ σ 3 ∧ σ 3 ≤ 400 := h1 3 _ rfl
  have b4 : 0 ≤ σ 4 ∧ σ 4 ≤ 399 := h1 4 _ rfl
  have b5 : 0 ≤ σ 5 ∧ σ 5 ≤ 64 := h1 5 _ rfl
  have b6 : (-2147483648) ≤ σ 6 ∧ σ 6 ≤ 2147483647 := h1 6 _ rfl
  have b7 : (-2147483648) ≤ σ 7 ∧ σ 7 ≤ 2147483647 := h1 7 _ rfl
  have b8 : 0 ≤ σ 8 ∧ σ 8 ≤ 0 := h1 8 _ rfl
  have g0 : 0 ≤ 1 * (σ 3) + (-1) * (σ 4) + (-1) := by
    have q : 0 ≤ (1 * σ 3 + ((-1) * σ 4 + 0)) + (-1) := h3 _ (.head _)
    omega
  have g1 : 0 ≤ 1 * (σ 6) + (-400) * (σ 1) + (-1) * (σ 4) + 0 := by
    have q : 0 ≤ (1 * σ 6 + ((-400) * σ 1 + ((-1) * σ 4 + 0))) + 0 := h3 _ (.tail _ (.head _))
    omega
  have g2 : 0 ≤ (-1) * (σ 6) + 400 * (σ 1) + 1 * (σ 4) + 0 := by
    have q : 0 ≤ ((-1) * σ 6 + (400 * σ 1 + (1 * σ 4 + 0))) + 0 := h3 _ (.tail _ (.tail _ (.head _)))
    omega
  have p0 : DEp (σ 1) (σ 2) (σ 4) (σ 5) (φ 0) := by
    have q : DEp (σ 1 + 0) (σ 2 + 0) (σ 4 + 0) (σ 5 + 0) (φ 0) := h4 _ (.head _)
    simpa only [Int.add_zero, hz, Int.zero_add] using q
  have p1 : DEp (σ 1) (σ 2) (σ 3) 1 (φ 0) := by
    have q : DEp (σ 1 + 0) (σ 2 + 0) (σ 3 + 0) (σ 0 + 1) (φ 0) := h4 _ (.tail _ (.head _))
    simpa only [Int.add_zero, hz, Int.zero_add] using q
  have p2 : P5 (σ 6) (σ 7) (φ 0) := by
    have q : P5 (σ 6 + 0) (σ 7 + 0) (φ 0) := h4 _ (.tail _ (.tail _ (.head _)))
    simpa only [Int.add_zero, hz, Int.zero_add] using q
  have p3 : (σ 8) = (Int32.ofInt (σ 7) &&& Int32.ofInt 15).toInt := by
    have q : (σ 8 + 0) = (Int32.ofInt (σ 7 + 0) &&& Int32.ofInt (σ 0 + 15)).toInt := h4 _ (.tail _ (.tail _ (.tail _ (.head _))))
    simpa only [Int.add_zero, hz, Int.zero_add] using q
  obtain ⟨r0, r1⟩ := lc_dn (σ 1) (σ 2) (σ 3) (σ 4) (σ 5) (σ 6) (σ 7) (σ 8) (φ 0) b1 b2 b3 b4 b5 b6 b7 b8 g0 g1 g2 p0 p1 p2 p3
  refine ⟨σ, φ, fun _ _ => rfl, fun _ _ => rfl, ?_⟩
  refine ⟨sx_de0, sx_dr0, ?_, ?_, sx_nil, sx_nil⟩
  · exact sx_cons (by show 0 ≤ ((-1) * σ 5 + 0) + 59; have q := r0; omega) (sx_nil)
  · exact sx_cons (by show DEp (σ 1 + 0) (σ 2 + 0) (σ 4 + 1) (σ 5 + 1) (φ 0); simpa only [Int.add_zero, Int.zero_add, hz] using r1) (sx_nil)
theorem sxL_dw_ok : sx_lemok sxPF sxL_dw := by
  intro σ φ h
  obtain ⟨h1, h2, h3, h4, h5, h6⟩ := h
  have hz : σ 0 = 0 := by
    have q : 0 ≤ σ 0 ∧ σ 0 ≤ 0 := h1 0 _ rfl
    omega
  have b1 : 0 ≤ σ 1 ∧ σ 1 ≤ 5 := h1 1 _ rfl
  have b2 : 0 ≤ σ 2 ∧ σ 2 ≤ 400 := h1 2 _ rfl
  have b3 : 0 ≤ σ 3 ∧ σ 3 ≤ 400 := h1 3 _ rfl
  have b4 : 0 ≤ σ 4 ∧ σ 4 ≤ 399 := h1 4 _ rfl
  have b5 : 0 ≤ σ 5 ∧ σ 5 ≤ 64 := h1 5 _ rfl
  have b6 : (-2147483648) ≤ σ 6 ∧ σ 6 ≤ 2147483647 := h1 6 _ rfl
  have b7 : (-2147483648) ≤ σ 7 ∧ σ 7 ≤ 2147483647 := h1 7 _ rfl
  have b8 : 1 ≤ σ 8 ∧ σ 8 ≤ 1 := h1 8 _ rfl
  have b9 : (-2147483648) ≤ σ 9 ∧ σ 9 ≤ 2147483647 := h1 9 _ rfl
  have b10 : (-2147483648) ≤ σ 10 ∧ σ 10 ≤ 2147483647 := h1 10 _ rfl
  have b11 : (-2147483648) ≤ σ 11 ∧ σ 11 ≤ 2147483647 := h1 11 _ rfl
  have g0 : 0 ≤ 1 * (σ 3) + (-1) * (σ 4) + (-1) := by
    have q : 0 ≤ (1 * σ 3 + ((-1) * σ 4 + 0)) + (-1) := h3 _ (.head _)
    omega
  have g1 : 0 ≤ 1 * (σ 6) + (-400) * (σ 1) + (-1) * (σ 4) + 0 := by
    have q : 0 ≤ (1 * σ 6 + ((-400) * σ 1 + ((-1) * σ 4 + 0))) + 0 := h3 _ (.tail _ (.head _))
    omega
  have g2 : 0 ≤ (-1) * (σ 6) + 400 * (σ 1) + 1 * (σ 4) + 0 := by
    have q : 0 ≤ ((-1) * σ 6 + (400 * σ 1 + (1 * σ 4 + 0))) + 0 := h3 _ (.tail _ (.tail _ (.head _)))
    omega
  have g3 : 0 ≤ 1 * (σ 10) + (-400) * (σ 1) + (-1) * (σ 4) + 0 := by
    have q : 0 ≤ (1 * σ 10 + ((-400) * σ 1 + ((-1) * σ 4 + 0))) + 0 := h3 _ (.tail _ (.tail _ (.tail _ (.head _))))
    omega
  have g4 : 0 ≤ (-1) * (σ 10) + 400 * (σ 1) + 1 * (σ 4) + 0 := by
    have q : 0 ≤ ((-1) * σ 10 + (400 * σ 1 + (1 * σ 4 + 0))) + 0 := h3 _ (.tail _ (.tail _ (.tail _ (.tail _ (.head _)))))
    omega
  have p0 : DEp (σ 1) (σ 2) (σ 4) (σ 5) (φ 0) := by
    have q : DEp (σ 1 + 0) (σ 2 + 0) (σ 4 + 0) (σ 5 + 0) (φ 0) := h4 _ (.head _)
    simpa only [Int.add_zero, hz, Int.zero_add] using q
  have p1 : DEp (σ 1) (σ 2) (σ 3) 1 (φ 0) := by
    have q : DEp (σ 1 + 0) (σ 2 + 0) (σ 3 + 0) (σ 0 + 1) (φ 0) := h4 _ (.tail _ (.head _))
    simpa only [Int.add_zero, hz, Int.zero_add] using q
  have p2 : P5 (σ 6) (σ 7) (φ 0) := by
    have q : P5 (σ 6 + 0) (σ 7 + 0) (φ 0) := h4 _ (.tail _ (.tail _ (.head _)))
    simpa only [Int.add_zero, hz, Int.zero_add] using q
  have p3 : (σ 8) = (Int32.ofInt (σ 7) &&& Int32.ofInt 15).toInt := by
    have q : (σ 8 + 0) = (Int32.ofInt (σ 7 + 0) &&& Int32.ofInt (σ 0 + 15)).toInt := h4 _ (.tail _ (.tail _ (.tail _ (.head _))))
    simpa only [Int.add_zero, hz, Int.zero_add] using q
  have p4 : P5 (σ 10) (σ 11) (φ 0) := by
    have q : P5 (σ 10 + 0) (σ 11 + 0) (φ 0) := h4 _ (.tail _ (.tail _ (.tail _ (.tail _ (.head _)))))
    simpa only [Int.add_zero, hz, Int.zero_add] using q
  have p5 : (σ 9) = (Int32.ofInt (σ 11) >>> (Int32.ofInt 4 &&& 31)).toInt := by
    have q : (σ 9 + 0) = (Int32.ofInt (σ 11 + 0) >>> (Int32.ofInt (σ 0 + 4) &&& 31)).toInt := h4 _ (.tail _ (.tail _ (.tail _ (.tail _ (.tail _ (.head _))))))
    simpa only [Int.add_zero, hz, Int.zero_add] using q
  obtain ⟨r0, r1, r2, r3⟩ := lc_dw (σ 1) (σ 2) (σ 3) (σ 4) (σ 5) (σ 6) (σ 7) (σ 8) (σ 9) (σ 10) (σ 11) (φ 0) b1 b2 b3 b4 b5 b6 b7 b8 b9 b10 b11 g0 g1 g2 g3 g4 p0 p1 p2 p3 p4 p5
  refine ⟨σ, φ, fun _ _ => rfl, fun _ _ => rfl, ?_⟩
  refine ⟨sx_de0, sx_dr0, ?_, ?_, sx_nil, sx_nil⟩
  · exact sx_cons (by show 0 ≤ ((-1) * σ 5 + 0) + 59; have q := r0; omega) (sx_cons (by show 0 ≤ (1 * σ 9 + 0) + 0; have q := r1; omega) (sx_cons (by show 0 ≤ ((-1) * σ 9 + 0) + 11; have q := r2; omega) (sx_nil)))
  · exact sx_cons (by show DEp (σ 1 + 0) (σ 2 + 0) (σ 4 + 1) (σ 5 + 1) (φ 0); simpa only [Int.add_zero, Int.zero_add, hz] using r3) (sx_nil)
theorem sxL_dt_ok : sx_lemok sxPF sxL_dt := by
  intro σ φ h
  obtain ⟨h1, h2, h3, h4, h5, h6⟩ := h
  have hz : σ 0 = 0 := by
    have q : 0 ≤ σ 0 ∧ σ 0 ≤ 0 := h1 0 _ rfl
    omega
  have b1 : 0 ≤ σ 1 ∧ σ 1 ≤ 5 := h1 1 _ rfl
  have b2 : 0 ≤ σ 2 ∧ σ 2 ≤ 400 := h1 2 _ rfl
  have b3 : 0 ≤ σ 3 ∧ σ 3 ≤ 400 := h1 3 _ rfl
  have b4 : 0 ≤ σ 4 ∧ σ 4 ≤ 399 := h1 4 _ rfl
  have b5 : 0 ≤ σ 5 ∧ σ 5 ≤ 64 := h1 5 _ rfl
  have b6 : (-2147483648) ≤ σ 6 ∧ σ 6 ≤ 2147483647 := h1 6 _ rfl
  have b7 : (-2147483648) ≤ σ 7 ∧ σ 7 ≤ 2147483647 := h1 7 _ rfl
  have b8 : 11 ≤ σ 8 ∧ σ 8 ≤ 11 := h1 8 _ rfl
  have g0 : 0 ≤ 1 * (σ 3) + (-1) * (σ 4) + (-1) := by
    have q : 0 ≤ (1 * σ 3 + ((-1) * σ 4 + 0)) + (-1) := h3 _ (.head _)
    omega
  have g1 : 0 ≤ 1 * (σ 6) + (-400) * (σ 1) + (-1) * (σ 4) + 0 := by
    have q : 0 ≤ (1 * σ 6 + ((-400) * σ 1 + ((-1) * σ 4 + 0))) + 0 := h3 _ (.tail _ (.head _))
    omega
  have g2 : 0 ≤ (-1) * (σ 6) + 400 * (σ 1) + 1 * (σ 4) + 0 := by
    have q : 0 ≤ ((-1) * σ 6 + (400 * σ 1 + (1 * σ 4 + 0))) + 0 := h3 _ (.tail _ (.tail _ (.head _)))
    omega
  have p0 : DEp (σ 1) (σ 2) (σ 4) (σ 5) (φ 0) := by
    have q : DEp (σ 1 + 0) (σ 2 + 0) (σ 4 + 0) (σ 5 + 0) (φ 0) := h4 _ (.head _)
    simpa only [Int.add_zero, hz, Int.zero_add] using q
  have p1 : DEp (σ 1) (σ 2) (σ 3) 1 (φ 0) := by
    have q : DEp (σ 1 + 0) (σ 2 + 0) (σ 3 + 0) (σ 0 + 1) (φ 0) := h4 _ (.tail _ (.head _))
    simpa only [Int.add_zero, hz, Int.zero_add] using q
  have p2 : P5 (σ 6) (σ 7) (φ 0) := by
    have q : P5 (σ 6 + 0) (σ 7 + 0) (φ 0) := h4 _ (.tail _ (.tail _ (.head _)))
    simpa only [Int.add_zero, hz, Int.zero_add] using q
  have p3 : (σ 8) = (Int32.ofInt (σ 7) &&& Int32.ofInt 15).toInt := by
    have q : (σ 8 + 0) = (Int32.ofInt (σ 7 + 0) &&& Int32.ofInt (σ 0 + 15)).toInt := h4 _ (.tail _ (.tail _ (.tail _ (.head _))))
    simpa only [Int.add_zero, hz, Int.zero_add] using q
  obtain ⟨r0, r1, r2⟩ := lc_dt (σ 1) (σ 2) (σ 3) (σ 4) (σ 5) (σ 6) (σ 7) (σ 8) (φ 0) b1 b2 b3 b4 b5 b6 b7 b8 g0 g1 g2 p0 p1 p2 p3
  refine ⟨σ, φ, fun _ _ => rfl, fun _ _ => rfl, ?_⟩
  refine ⟨sx_de0, sx_dr0, ?_, ?_, sx_nil, sx_nil⟩
  · exact sx_cons (by show 0 ≤ (1 * σ 5 + 0) + (-1); have q := r0; omega) (sx_cons (by show 0 ≤ ((-1) * σ 5 + 0) + 60; have q := r1; omega) (sx_nil))
  · exact sx_cons (by show DEp (σ 1 + 0) (σ 2 + 0) (σ 4 + 1) (σ 5 + 0) (φ 0); simpa only [Int.add_zero, Int.zero_add, hz] using r2) (sx_nil)
theorem sxL_do_ok : sx_lemok sxPF sxL_do := by
  intro σ φ h
  obtain ⟨h1, h2, h3, h4, h5, h6⟩ := h
  have hz : σ 0 = 0 := by
    have q : 0 ≤ σ 0 ∧ σ 0 ≤ 0 := h1 0 _ rfl
    omega
  have b1 : 0 ≤ σ 1 ∧ σ 1 ≤ 5 := h1 1 _ rfl
  have b2 : 0 ≤ σ 2 ∧ σ 2 ≤ 400 := h1 2 _ rfl
  have b3 : 0 ≤ σ 3 ∧ σ 3 ≤ 400 := h1 3 _ rfl
  have b4 : 0 ≤ σ 4 ∧ σ 4 ≤ 399 := h1 4 _ rfl
  have b5 : 0 ≤ σ 5 ∧ σ 5 ≤ 64 := h1 5 _ rfl
  have b6 : (-2147483648) ≤ σ 6 ∧ σ 6 ≤ 2147483647 := h1 6 _ rfl
  have b7 : (-2147483648) ≤ σ 7 ∧ σ 7 ≤ 2147483647 := h1 7 _ rfl
  have b8 : 2 ≤ σ 8 ∧ σ 8 ≤ 15 := h1 8 _ rfl
  have g0 : 0 ≤ 1 * (σ 3) + (-1) * (σ 4) + (-1) := by
    have q : 0 ≤ (1 * σ 3 + ((-1) * σ 4 + 0)) + (-1) := h3 _ (.head _)
    omega
  have g1 : 0 ≤ 1 * (σ 6) + (-400) * (σ 1) + (-1) * (σ 4) + 0 := by
    have q : 0 ≤ (1 * σ 6 + ((-400) * σ 1 + ((-1) * σ 4 + 0))) + 0 := h3 _ (.tail _ (.head _))
    omega
  have g2 : 0 ≤ (-1) * (σ 6) + 400 * (σ 1) + 1 * (σ 4) + 0 := by
    have q : 0 ≤ ((-1) * σ 6 + (400 * σ 1 + (1 * σ 4 + 0))) + 0 := h3 _ (.tail _ (.tail _ (.head _)))
    omega
  have p0 : DEp (σ 1) (σ 2) (σ 4) (σ 5) (φ 0) := by
    have q : DEp (σ 1 + 0) (σ 2 + 0) (σ 4 + 0) (σ 5 + 0) (φ 0) := h4 _ (.head _)
    simpa only [Int.add_zero, hz, Int.zero_add] using q
  have p1 : DEp (σ 1) (σ 2) (σ 3) 1 (φ 0) := by
    have q : DEp (σ 1 + 0) (σ 2 + 0) (σ 3 + 0) (σ 0 + 1) (φ 0) := h4 _ (.tail _ (.head _))
    simpa only [Int.add_zero, hz, Int.zero_add] using q
  have p2 : P5 (σ 6) (σ 7) (φ 0) := by
    have q : P5 (σ 6 + 0) (σ 7 + 0) (φ 0) := h4 _ (.tail _ (.tail _ (.head _)))
    simpa only [Int.add_zero, hz, Int.zero_add] using q
  have p3 : (σ 8) = (Int32.ofInt (σ 7) &&& Int32.ofInt 15).toInt := by
    have q : (σ 8 + 0) = (Int32.ofInt (σ 7 + 0) &&& Int32.ofInt (σ 0 + 15)).toInt := h4 _ (.tail _ (.tail _ (.tail _ (.head _))))
    simpa only [Int.add_zero, hz, Int.zero_add] using q
  have p4 : (σ 8) ≠ 11 := by
    have q : (σ 8 + 0) ≠ (σ 0 + 11) := h4 _ (.tail _ (.tail _ (.tail _ (.tail _ (.head _)))))
    simpa only [Int.add_zero, hz, Int.zero_add] using q
  obtain ⟨r0, r1, r2⟩ := lc_do (σ 1) (σ 2) (σ 3) (σ 4) (σ 5) (σ 6) (σ 7) (σ 8) (φ 0) b1 b2 b3 b4 b5 b6 b7 b8 g0 g1 g2 p0 p1 p2 p3 p4
  refine ⟨σ, φ, fun _ _ => rfl, fun _ _ => rfl, ?_⟩
  refine ⟨sx_de0, sx_dr0, ?_, ?_, sx_nil, sx_nil⟩
  · exact sx_cons (by show 0 ≤ (1 * σ 5 + 0) + (-2); have q := r0; omega) (sx_cons (by show 0 ≤ ((-1) * σ 5 + 0) + 60; have q := r1; omega) (sx_nil))
  · exact sx_cons (by show DEp (σ 1 + 0) (σ 2 + 0) (σ 4 + 1) (σ 5 + -1) (φ 0); simpa only [Int.add_zero, Int.zero_add, hz] using r2) (sx_nil)
theorem sxL_dend_ok : sx_lemok sxPF sxL_dend := by
  intro σ φ h
  obtain ⟨h1, h2, h3, h4, h5, h6⟩ := h
  have hz : σ 0 = 0 := by
    have q : 0 ≤ σ 0 ∧ σ 0 ≤ 0 := h1 0 _ rfl
    omega
  have b1 : 0 ≤ σ 1 ∧ σ 1 ≤ 5 := h1 1 _ rfl
  have b2 : 0 ≤ σ 2 ∧ σ 2 ≤ 400 := h1 2 _ rfl
  have b3 : 0 ≤ σ 3 ∧ σ 3 ≤ 400 := h1 3 _ rfl
  have b4 : 0 ≤ σ 4 ∧ σ 4 ≤ 400 := h1 4 _ rfl
  have b5 : 0 ≤ σ 5 ∧ σ 5 ≤ 64 := h1 5 _ rfl
  have g0 : 0 ≤ 1 * (σ 4) + (-1) * (σ 3) + 0 := by
    have q : 0 ≤ (1 * σ 4 + ((-1) * σ 3 + 0)) + 0 := h3 _ (.head _)
    omega
  have g1 : 0 ≤ (-1) * (σ 4) + 1 * (σ 3) + 0 := by
    have q : 0 ≤ ((-1) * σ 4 + (1 * σ 3 + 0)) + 0 := h3 _ (.tail _ (.head _))
    omega
  have p0 : DEp (σ 1) (σ 2) (σ 4) (σ 5) (φ 0) := by
    have q : DEp (σ 1 + 0) (σ 2 + 0) (σ 4 + 0) (σ 5 + 0) (φ 0) := h4 _ (.head _)
    simpa only [Int.add_zero, hz, Int.zero_add] using q
  have p1 : DEp (σ 1) (σ 2) (σ 3) 1 (φ 0) := by
    have q : DEp (σ 1 + 0) (σ 2 + 0) (σ 3 + 0) (σ 0 + 1) (φ 0) := h4 _ (.tail _ (.head _))
    simpa only [Int.add_zero, hz, Int.zero_add] using q
  obtain ⟨r0, r1⟩ := lc_dend (σ 1) (σ 2) (σ 3) (σ 4) (σ 5) (φ 0) b1 b2 b3 b4 b5 g0 g1 p0 p1
  refine ⟨σ, φ, fun _ _ => rfl, fun _ _ => rfl, ?_⟩
  refine ⟨sx_de0, sx_dr0, ?_, ?_, sx_nil, sx_nil⟩
  · exact sx_cons (by show 0 ≤ (1 * σ 5 + 0) + (-1); have q := r0; omega) (sx_cons (by show 0 ≤ ((-1) * σ 5 + 0) + 1; have q := r1; omega) (sx_nil))
  · exact sx_nil
theorem sxL_q9_ok : sx_lemok sxPF sxL_q9 := by
  intro σ φ h
  obtain ⟨h1, h2, h3, h4, h5, h6⟩ := h
  have hz : σ 0 = 0 := by
    have q : 0 ≤ σ 0 ∧ σ 0 ≤ 0 := h1 0 _ rfl
    omega
  have b1 : 0 ≤ σ 1 ∧ σ 1 ≤ 29 := h1 1 _ rfl
  have b2 : 0 ≤ σ 2 ∧ σ 2 ≤ 10 := h1 2 _ rfl
  have g0 : 0 ≤ 1 * (σ 1) + (-3) * (σ 2) + 0 := by
    have q : 0 ≤ (1 * σ 1 + ((-3) * σ 2 + 0)) + 0 := h3 _ (.head _)
    omega
  have g1 : 0 ≤ (-1) * (σ 1) + 3 * (σ 2) + 0 := by
    have q : 0 ≤ ((-1) * σ 1 + (3 * σ 2 + 0)) + 0 := h3 _ (.tail _ (.head _))
    omega
  obtain ⟨r0, r1⟩ := lc_q9 (σ 1) (σ 2) b1 b2 g0 g1
  refine ⟨σ, φ, fun _ _ => rfl, fun _ _ => rfl, ?_⟩
  refine ⟨sx_de0, sx_dr0, ?_, ?_, sx_nil, sx_nil⟩
  · exact sx_cons (by show 0 ≤ ((-1) * σ 1 + 0) + 27; have q := r0; omega) (sx_cons (by show 0 ≤ ((-1) * σ 2 + 0) + 9; have q := r1; omega) (sx_nil))
  · exact sx_nil
theorem sxL_or0_ok : sx_lemok sxPF sxL_or0 := by
  intro σ φ h
  obtain ⟨h1, h2, h3, h4, h5, h6⟩ := h
  have hz : σ 0 = 0 := by
    have q : 0 ≤ σ 0 ∧ σ 0 ≤ 0 := h1 0 _ rfl
    omega
  have b1 : 0 ≤ σ 1 ∧ σ 1 ≤ 7 := h1 1 _ rfl
  have p0 : P6 0 (-1) (φ 0) (φ 1) := by
    have q : P6 (σ 0 + 0) (σ 0 + -1) (φ 0) (φ 1) := h4 _ (.head _)
    simpa only [Int.add_zero, hz, Int.zero_add] using q
  obtain ⟨x0, r0, r1⟩ := lc_or0 (σ 1) (φ 0) (φ 1) b1 p0
  obtain ⟨τ, e1, e2⟩ := sx_ex1 σ 2 x0
  have u0 : τ 0 = σ 0 := e1 0 (by decide)
  have u1 : τ 1 = σ 1 := e1 1 (by decide)
  refine ⟨τ, φ, fun i hi => e1 i hi, fun _ _ => rfl, ?_⟩
  refine ⟨sx_de1 (by show 0 ≤ τ 2 ∧ τ 2 ≤ 1000000000000000; rw [e2]; exact r0), sx_dr0, ?_, ?_, sx_nil, sx_nil⟩
  · exact sx_nil
  · exact sx_cons (by show ORp (τ 0 + 0) (τ 1 + 0) (τ 2 + 0) (φ 1); simpa only [Int.add_zero, Int.zero_add, hz, u0, u1, e2] using r1) (sx_nil)
theorem sxL_orv_ok : sx_lemok sxPF sxL_orv := by
  intro σ φ h
  obtain ⟨h1, h2, h3, h4, h5, h6⟩ := h
  have hz : σ 0 = 0 := by
    have q : 0 ≤ σ 0 ∧ σ 0 ≤ 0 := h1 0 _ rfl
    omega
  have b1 : 0 ≤ σ 1 ∧ σ 1 ≤ 6 := h1 1 _ rfl
  have b2 : 0 ≤ σ 2 ∧ σ 2 ≤ 7 := h1 2 _ rfl
  have b3 : 0 ≤ σ 3 ∧ σ 3 ≤ 1000000000000000 := h1 3 _ rfl
  have b4 : (-2147483648) ≤ σ 4 ∧ σ 4 ≤ 2147483647 := h1 4 _ rfl
  have g0 : 0 ≤ 1 * (σ 2) + (-1) * (σ 1) + (-1) := by
    have q : 0 ≤ (1 * σ 2 + ((-1) * σ 1 + 0)) + (-1) := h3 _ (.head _)
    omega
  have p0 : ORp (σ 1) (σ 2) (σ 3) (φ 0) := by
    have q : ORp (σ 1 + 0) (σ 2 + 0) (σ 3 + 0) (φ 0) := h4 _ (.head _)
    simpa only [Int.add_zero, hz, Int.zero_add] using q
  have p1 : P5 (σ 1) (σ 4) (φ 0) := by
    have q : P5 (σ 1 + 0) (σ 4 + 0) (φ 0) := h4 _ (.tail _ (.head _))
    simpa only [Int.add_zero, hz, Int.zero_add] using q
  obtain ⟨r0, r1⟩ := lc_orv (σ 1) (σ 2) (σ 3) (σ 4) (φ 0) b1 b2 b3 b4 g0 p0 p1
  refine ⟨σ, φ, fun _ _ => rfl, fun _ _ => rfl, ?_⟩
  refine ⟨sx_de0, sx_dr0, ?_, ?_, sx_nil, sx_nil⟩
  · exact sx_cons (by show 0 ≤ (1 * σ 4 + 0) + 1; have q := r0; omega) (sx_cons (by show 0 ≤ ((-1) * σ 4 + (1 * σ 2 + 0)) + (-1); have q := r1; omega) (sx_nil))
  · exact sx_nil
theorem sxL_or1_ok : sx_lemok sxPF sxL_or1 := by
  intro σ φ h
  obtain ⟨h1, h2, h3, h4, h5, h6⟩ := h
  have hz : σ 0 = 0 := by
    have q : 0 ≤ σ 0 ∧ σ 0 ≤ 0 := h1 0 _ rfl
    omega
  have b1 : 0 ≤ σ 1 ∧ σ 1 ≤ 7 := h1 1 _ rfl
  have b2 : 0 ≤ σ 2 ∧ σ 2 ≤ 7 := h1 2 _ rfl
  have b3 : 0 ≤ σ 3 ∧ σ 3 ≤ 1000000000000000 := h1 3 _ rfl
  have g0 : 0 ≤ 1 * (σ 1) + (-1) * (σ 2) + 0 := by
    have q : 0 ≤ (1 * σ 1 + ((-1) * σ 2 + 0)) + 0 := h3 _ (.head _)
    omega
  have p0 : ORp (σ 1) (σ 2) (σ 3) (φ 0) := by
    have q : ORp (σ 1 + 0) (σ 2 + 0) (σ 3 + 0) (φ 0) := h4 _ (.head _)
    simpa only [Int.add_zero, hz, Int.zero_add] using q
  obtain ⟨x0, r0, r1, r2⟩ := lc_or1 (σ 1) (σ 2) (σ 3) (φ 0) b1 b2 b3 g0 p0
  obtain ⟨τ, e1, e2⟩ := sx_ex1 σ 4 x0
  have u0 : τ 0 = σ 0 := e1 0 (by decide)
  have u1 : τ 1 = σ 1 := e1 1 (by decide)
  have u2 : τ 2 = σ 2 := e1 2 (by decide)
  have u3 : τ 3 = σ 3 := e1 3 (by decide)
  refine ⟨τ, φ, fun i hi => e1 i hi, fun _ _ => rfl, ?_⟩
  refine ⟨sx_de1 (by show 0 ≤ τ 4 ∧ τ 4 ≤ 1000000000000000; rw [e2]; exact r0), sx_dr0, ?_, ?_, sx_nil, sx_nil⟩
  · exact sx_cons (by show 0 ≤ (1 * τ 3 + ((-1) * τ 4 + 0)) + (-1); rw [e2, u3]; have q := r1; omega) (sx_nil)
  · exact sx_cons (by show ORp (τ 1 + -1) (τ 2 + 0) (τ 4 + 0) (φ 0); simpa only [Int.add_zero, Int.zero_add, hz, u0, u1, u2, u3, e2] using r2) (sx_nil)
theorem sxL_or2_ok : sx_lemok sxPF sxL_or2 := by
  intro σ φ h
  obtain ⟨h1, h2, h3, h4, h5, h6⟩ := h
  have hz : σ 0 = 0 := by
    have q : 0 ≤ σ 0 ∧ σ 0 ≤ 0 := h1 0 _ rfl
    omega
  have b1 : 0 ≤ σ 1 ∧ σ 1 ≤ 6 := h1 1 _ rfl
  have b2 : 0 ≤ σ 2 ∧ σ 2 ≤ 7 := h1 2 _ rfl
  have b3 : 0 ≤ σ 3 ∧ σ 3 ≤ 1000000000000000 := h1 3 _ rfl
  have b4 : (-2147483648) ≤ σ 4 ∧ σ 4 ≤ 2147483647 := h1 4 _ rfl
  have g0 : 0 ≤ 1 * (σ 2) + (-1) * (σ 1) + (-1) := by
    have q : 0 ≤ (1 * σ 2 + ((-1) * σ 1 + 0)) + (-1) := h3 _ (.head _)
    omega
  have p0 : ORp (σ 1) (σ 2) (σ 3) (φ 0) := by
    have q : ORp (σ 1 + 0) (σ 2 + 0) (σ 3 + 0) (φ 0) := h4 _ (.head _)
    simpa only [Int.add_zero, hz, Int.zero_add] using q
  have p1 : P5 (σ 1) (σ 4) (φ 0) := by
    have q : P5 (σ 1 + 0) (σ 4 + 0) (φ 0) := h4 _ (.tail _ (.head _))
    simpa only [Int.add_zero, hz, Int.zero_add] using q
  have p2 : P6 (σ 1) ((σ 4) + 1) (φ 0) (φ 1) := by
    have q : P6 (σ 1 + 0) (σ 4 + 1) (φ 0) (φ 1) := h4 _ (.tail _ (.tail _ (.head _)))
    simpa only [Int.add_zero, hz, Int.zero_add] using q
  obtain ⟨x0, r0, r1, r2⟩ := lc_or2 (σ 1) (σ 2) (σ 3) (σ 4) (φ 0) (φ 1) b1 b2 b3 b4 g0 p0 p1 p2
  obtain ⟨τ, e1, e2⟩ := sx_ex1 σ 5 x0
  have u0 : τ 0 = σ 0 := e1 0 (by decide)
  have u1 : τ 1 = σ 1 := e1 1 (by decide)
  have u2 : τ 2 = σ 2 := e1 2 (by decide)
  have u3 : τ 3 = σ 3 := e1 3 (by decide)
  have u4 : τ 4 = σ 4 := e1 4 (by decide)
  refine ⟨τ, φ, fun i hi => e1 i hi, fun _ _ => rfl, ?_⟩
  refine ⟨sx_de1 (by show 0 ≤ τ 5 ∧ τ 5 ≤ 1000000000000000; rw [e2]; exact r0), sx_dr0, ?_, ?_, sx_nil, sx_nil⟩
  · exact sx_cons (by show 0 ≤ (1 * τ 3 + ((-1) * τ 5 + 0)) + (-1); rw [e2, u3]; have q := r1; omega) (sx_nil)
  · exact sx_cons (by show ORp (τ 1 + -1) (τ 2 + 0) (τ 5 + 0) (φ 1); simpa only [Int.add_zero, Int.zero_add, hz, u0, u1, u2, u3, u4, e2] using r2) (sx_nil)
theorem sxL_or3_ok : sx_lemok sxPF sxL_or3 := by
  intro σ φ h
  obtain ⟨h1, h2, h3, h4, h5, h6⟩ := h
  have hz : σ 0 = 0 := by
    have q : 0 ≤ σ 0 ∧ σ 0 ≤ 0 := h1 0 _ rfl
    omega
  have b1 : 0 ≤ σ 1 ∧ σ 1 ≤ 6 := h1 1 _ rfl
  have b2 : 0 ≤ σ 2 ∧ σ 2 ≤ 7 := h1 2 _ rfl
  have b3 : 0 ≤ σ 3 ∧ σ 3 ≤ 1000000000000000 := h1 3 _ rfl
  have b4 : (-2147483648) ≤ σ 4 ∧ σ 4 ≤ 2147483647 := h1 4 _ rfl
  have g0 : 0 ≤ 1 * (σ 2) + (-1) * (σ 1) + (-1) := by
    have q : 0 ≤ (1 * σ 2 + ((-1) * σ 1 + 0)) + (-1) := h3 _ (.head _)
    omega
  have g1 : 0 ≤ 1 * (σ 2) + (-1) * (σ 4) + (-2) := by
    have q : 0 ≤ (1 * σ 2 + ((-1) * σ 4 + 0)) + (-2) := h3 _ (.tail _ (.head _))
    omega
  have p0 : ORp (σ 1) (σ 2) (σ 3) (φ 0) := by
    have q : ORp (σ 1 + 0) (σ 2 + 0) (σ 3 + 0) (φ 0) := h4 _ (.head _)
    simpa only [Int.add_zero, hz, Int.zero_add] using q
  have p1 : P5 (σ 1) (σ 4) (φ 0) := by
    have q : P5 (σ 1 + 0) (σ 4 + 0) (φ 0) := h4 _ (.tail _ (.head _))
    simpa only [Int.add_zero, hz, Int.zero_add] using q
  have p2 : P6 (σ 1) ((σ 4) + 1) (φ 0) (φ 1) := by
    have q : P6 (σ 1 + 0) (σ 4 + 1) (φ 0) (φ 1) := h4 _ (.tail _ (.tail _ (.head _)))
    simpa only [Int.add_zero, hz, Int.zero_add] using q
  obtain ⟨x0, r0, r1, r2⟩ := lc_or3 (σ 1) (σ 2) (σ 3) (σ 4) (φ 0) (φ 1) b1 b2 b3 b4 g0 g1 p0 p1 p2
  obtain ⟨τ, e1, e2⟩ := sx_ex1 σ 5 x0
  have u0 : τ 0 = σ 0 := e1 0 (by decide)
  have u1 : τ 1 = σ 1 := e1 1 (by decide)
  have u2 : τ 2 = σ 2 := e1 2 (by decide)
  have u3 : τ 3 = σ 3 := e1 3 (by decide)
  have u4 : τ 4 = σ 4 := e1 4 (by decide)
  refine ⟨τ, φ, fun i hi => e1 i hi, fun _ _ => rfl, ?_⟩
  refine ⟨sx_de1 (by show 0 ≤ τ 5 ∧ τ 5 ≤ 1000000000000000; rw [e2]; exact r0), sx_dr0, ?_, ?_, sx_nil, sx_nil⟩
  · exact sx_cons (by show 0 ≤ (1 * τ 3 + ((-1) * τ 5 + 0)) + (-1); rw [e2, u3]; have q := r1; omega) (sx_nil)
  · exact sx_cons (by show ORp (τ 1 + 0) (τ 2 + 0) (τ 5 + 0) (φ 1); simpa only [Int.add_zero, Int.zero_add, hz, u0, u1, u2, u3, u4, e2] using r2) (sx_nil)
theorem sxL_or4_ok : sx_lemok sxPF sxL_or4 := by
  intro σ φ h
  obtain ⟨h1, h2, h3, h4, h5, h6⟩ := h
  have hz : σ 0 = 0 := by
    have q : 0 ≤ σ 0 ∧ σ 0 ≤ 0 := h1 0 _ rfl
    omega
  have b1 : 0 ≤ σ 1 ∧ σ 1 ≤ 6 := h1 1 _ rfl
  have b2 : 0 ≤ σ 2 ∧ σ 2 ≤ 7 := h1 2 _ rfl
  have b3 : 0 ≤ σ 3 ∧ σ 3 ≤ 1000000000000000 := h1 3 _ rfl
  have b4 : (-2147483648) ≤ σ 4 ∧ σ 4 ≤ 2147483647 := h1 4 _ rfl
  have g0 : 0 ≤ 1 * (σ 2) + (-1) * (σ 1) + (-1) := by
    have q : 0 ≤ (1 * σ 2 + ((-1) * σ 1 + 0)) + (-1) := h3 _ (.head _)
    omega
  have g1 : 0 ≤ 1 * (σ 2) + (-1) * (σ 4) + (-2) := by
    have q : 0 ≤ (1 * σ 2 + ((-1) * σ 4 + 0)) + (-2) := h3 _ (.tail _ (.head _))
    omega
  have p0 : ORp (σ 1) (σ 2) (σ 3) (φ 0) := by
    have q : ORp (σ 1 + 0) (σ 2 + 0) (σ 3 + 0) (φ 0) := h4 _ (.head _)
    simpa only [Int.add_zero, hz, Int.zero_add] using q
  have p1 : P5 (σ 1) (σ 4) (φ 0) := by
    have q : P5 (σ 1 + 0) (σ 4 + 0) (φ 0) := h4 _ (.tail _ (.head _))
    simpa only [Int.add_zero, hz, Int.zero_add] using q
  have p2 : P6 (σ 1) ((σ 4) + 1) (φ 0) (φ 1) := by
    have q : P6 (σ 1 + 0) (σ 4 + 1) (φ 0) (φ 1) := h4 _ (.tail _ (.tail _ (.head _)))
    simpa only [Int.add_zero, hz, Int.zero_add] using q
  have p3 : P6 ((σ 1) + 1) (-1) (φ 1) (φ 2) := by
    have q : P6 (σ 1 + 1) (σ 0 + -1) (φ 1) (φ 2) := h4 _ (.tail _ (.tail _ (.tail _ (.head _))))
    simpa only [Int.add_zero, hz, Int.zero_add] using q
  obtain ⟨x0, r0, r1, r2⟩ := lc_or4 (σ 1) (σ 2) (σ 3) (σ 4) (φ 0) (φ 1) (φ 2) b1 b2 b3 b4 g0 g1 p0 p1 p2 p3
  obtain ⟨τ, e1, e2⟩ := sx_ex1 σ 5 x0
  have u0 : τ 0 = σ 0 := e1 0 (by decide)
  have u1 : τ 1 = σ 1 := e1 1 (by decide)
  have u2 : τ 2 = σ 2 := e1 2 (by decide)
  have u3 : τ 3 = σ 3 := e1 3 (by decide)
  have u4 : τ 4 = σ 4 := e1 4 (by decide)
  refine ⟨τ, φ, fun i hi => e1 i hi, fun _ _ => rfl, ?_⟩
  refine ⟨sx_de1 (by show 0 ≤ τ 5 ∧ τ 5 ≤ 1000000000000000; rw [e2]; exact r0), sx_dr0, ?_, ?_, sx_nil, sx_nil⟩
  · exact sx_cons (by show 0 ≤ (1 * τ 3 + ((-1) * τ 5 + 0)) + (-1); rw [e2, u3]; have q := r1; omega) (sx_nil)
  · exact sx_cons (by show ORp (τ 1 + 1) (τ 2 + 0) (τ 5 + 0) (φ 2); simpa only [Int.add_zero, Int.zero_add, hz, u0, u1, u2, u3, u4, e2] using r2) (sx_nil)
theorem sxL_orn_ok : sx_lemok sxPF sxL_orn := by
  intro σ φ h
  obtain ⟨h1, h2, h3, h4, h5, h6⟩ := h
  have hz : σ 0 = 0 := by
    have q : 0 ≤ σ 0 ∧ σ 0 ≤ 0 := h1 0 _ rfl
    omega
  have b1 : 0 ≤ σ 1 ∧ σ 1 ≤ 7 := h1 1 _ rfl
  have b2 : 0 ≤ σ 2 ∧ σ 2 ≤ 7 := h1 2 _ rfl
  have b3 : 0 ≤ σ 3 ∧ σ 3 ≤ 1000000000000000 := h1 3 _ rfl
  have g0 : 0 ≤ 1 * (σ 1) + (-1) * (σ 2) + 0 := by
    have q : 0 ≤ (1 * σ 1 + ((-1) * σ 2 + 0)) + 0 := h3 _ (.head _)
    omega
  have g1 : 0 ≤ (-1) * (σ 1) + 1 * (σ 2) + 0 := by
    have q : 0 ≤ ((-1) * σ 1 + (1 * σ 2 + 0)) + 0 := h3 _ (.tail _ (.head _))
    omega
  have p0 : ORp (σ 1) (σ 2) (σ 3) (φ 0) := by
    have q : ORp (σ 1 + 0) (σ 2 + 0) (σ 3 + 0) (φ 0) := h4 _ (.head _)
    simpa only [Int.add_zero, hz, Int.zero_add] using q
  obtain r0 := lc_orn (σ 1) (σ 2) (σ 3) (φ 0) b1 b2 b3 g0 g1 p0
  refine ⟨σ, φ, fun _ _ => rfl, fun _ _ => rfl, ?_⟩
  refine ⟨sx_de0, sx_dr0, ?_, ?_, sx_nil, sx_nil⟩
  · exact sx_nil
  · exact sx_cons (by show ORp (σ 2 + 0) (σ 2 + 0) (σ 3 + 0) (φ 0); simpa only [Int.add_zero, Int.zero_add, hz] using r0) (sx_nil)
theorem sxL_orx_ok : sx_lemok sxPF sxL_orx := by
  intro σ φ h
  obtain ⟨h1, h2, h3, h4, h5, h6⟩ := h
  have hz : σ 0 = 0 := by
    have q : 0 ≤ σ 0 ∧ σ 0 ≤ 0 := h1 0 _ rfl
    omega
  have b1 : 0 ≤ σ 1 ∧ σ 1 ≤ 7 := h1 1 _ rfl
  have b2 : 0 ≤ σ 2 ∧ σ 2 ≤ 1000000000000000 := h1 2 _ rfl
  have b3 : 0 ≤ σ 3 ∧ σ 3 ≤ 6 := h1 3 _ rfl
  have b4 : (-2147483648) ≤ σ 4 ∧ σ 4 ≤ 2147483647 := h1 4 _ rfl
  have g0 : 0 ≤ 1 * (σ 1) + (-1) * (σ 3) + (-1) := by
    have q : 0 ≤ (1 * σ 1 + ((-1) * σ 3 + 0)) + (-1) := h3 _ (.head _)
    omega
  have p0 : ORp (σ 1) (σ 1) (σ 2) (φ 0) := by
    have q : ORp (σ 1 + 0) (σ 1 + 0) (σ 2 + 0) (φ 0) := h4 _ (.head _)
    simpa only [Int.add_zero, hz, Int.zero_add] using q
  have p1 : P5 (σ 3) (σ 4) (φ 0) := by
    have q : P5 (σ 3 + 0) (σ 4 + 0) (φ 0) := h4 _ (.tail _ (.head _))
    simpa only [Int.add_zero, hz, Int.zero_add] using q
  obtain ⟨r0, r1⟩ := lc_orx (σ 1) (σ 2) (σ 3) (σ 4) (φ 0) b1 b2 b3 b4 g0 p0 p1
  refine ⟨σ, φ, fun _ _ => rfl, fun _ _ => rfl, ?_⟩
  refine ⟨sx_de0, sx_dr0, ?_, ?_, sx_nil, sx_nil⟩
  · exact sx_cons (by show 0 ≤ (1 * σ 4 + 0) + 0; have q := r0; omega) (sx_cons (by show 0 ≤ ((-1) * σ 4 + (1 * σ 1 + 0)) + (-1); have q := r1; omega) (sx_nil))
  · exact sx_nil
theorem sxL_sd0_ok : sx_lemok sxPF sxL_sd0 := by
  intro σ φ h
  obtain ⟨h1, h2, h3, h4, h5, h6⟩ := h
  have hz : σ 0 = 0 := by
    have q : 0 ≤ σ 0 ∧ σ 0 ≤ 0 := h1 0 _ rfl
    omega
  have b1 : 0 ≤ σ 1 ∧ σ 1 ≤ 1 := h1 1 _ rfl
  have b2 : 0 ≤ σ 2 ∧ σ 2 ≤ 7 := h1 2 _ rfl
  have b3 : 0 ≤ σ 3 ∧ σ 3 ≤ 8 := h1 3 _ rfl
  have p0 : SDp (σ 1) (σ 2) (σ 3) (φ 0) := by
    have q : SDp (σ 1 + 0) (σ 2 + 0) (σ 3 + 0) (φ 0) := h4 _ (.head _)
    simpa only [Int.add_zero, hz, Int.zero_add] using q
  obtain r0 := lc_sd0 (σ 1) (σ 2) (σ 3) (φ 0) b1 b2 b3 p0
  refine ⟨σ, φ, fun _ _ => rfl, fun _ _ => rfl, ?_⟩
  refine ⟨sx_de0, sx_dr0, ?_, ?_, sx_nil, sx_nil⟩
  · exact sx_nil
  · exact sx_cons (by show SDp (σ 0 + 0) (σ 2 + 0) (σ 3 + 0) (φ 0); simpa only [Int.add_zero, Int.zero_add, hz] using r0) (sx_nil)
theorem sxL_pl0_ok : sx_lemok sxPF sxL_pl0 := by
  intro σ φ h
  obtain ⟨h1, h2, h3, h4, h5, h6⟩ := h
  have hz : σ 0 = 0 := by
    have q : 0 ≤ σ 0 ∧ σ 0 ≤ 0 := h1 0 _ rfl
    omega
  have p0 : P6 0 (-1) (φ 0) (φ 1) := by
    have q : P6 (σ 0 + 0) (σ 0 + -1) (φ 0) (φ 1) := h4 _ (.head _)
    simpa only [Int.add_zero, hz, Int.zero_add] using q
  obtain ⟨x0, r0, r1⟩ := lc_pl0 (φ 0) (φ 1) p0
  obtain ⟨τ, e1, e2⟩ := sx_ex1 σ 1 x0
  have u0 : τ 0 = σ 0 := e1 0 (by decide)
  refine ⟨τ, φ, fun i hi => e1 i hi, fun _ _ => rfl, ?_⟩
  refine ⟨sx_de1 (by show 0 ≤ τ 1 ∧ τ 1 ≤ 1000000000000000; rw [e2]; exact r0), sx_dr0, ?_, ?_, sx_nil, sx_nil⟩
  · exact sx_nil
  · exact sx_cons (by show PLp (τ 0 + 0) (τ 1 + 0) (φ 1); simpa only [Int.add_zero, Int.zero_add, hz, u0, e2] using r1) (sx_nil)
theorem sxL_plq_ok : sx_lemok sxPF sxL_plq := by
  intro σ φ h
  obtain ⟨h1, h2, h3, h4, h5, h6⟩ := h
  have hz : σ 0 = 0 := by
    have q : 0 ≤ σ 0 ∧ σ 0 ≤ 0 := h1 0 _ rfl
    omega
  have b1 : 0 ≤ σ 1 ∧ σ 1 ≤ 2 := h1 1 _ rfl
  have b2 : 0 ≤ σ 2 ∧ σ 2 ≤ 1000000000000000 := h1 2 _ rfl
  have b3 : (-2147483648) ≤ σ 3 ∧ σ 3 ≤ 2147483647 := h1 3 _ rfl
  have b4 : 0 ≤ σ 4 ∧ σ 4 ≤ 49 := h1 4 _ rfl
  have g0 : 0 ≤ 1 * (σ 4) + (-1) * (σ 3) + (-1) := by
    have q : 0 ≤ (1 * σ 4 + ((-1) * σ 3 + 0)) + (-1) := h3 _ (.head _)
    omega
  have p0 : PLp (σ 1) (σ 2) (φ 0) := by
    have q : PLp (σ 1 + 0) (σ 2 + 0) (φ 0) := h4 _ (.head _)
    simpa only [Int.add_zero, hz, Int.zero_add] using q
  have p1 : P5 (σ 1) (σ 3) (φ 0) := by
    have q : P5 (σ 1 + 0) (σ 3 + 0) (φ 0) := h4 _ (.tail _ (.head _))
    simpa only [Int.add_zero, hz, Int.zero_add] using q
  have p2 : P6 (σ 1) (σ 4) (φ 0) (φ 1) := by
    have q : P6 (σ 1 + 0) (σ 4 + 0) (φ 0) (φ 1) := h4 _ (.tail _ (.tail _ (.head _)))
    simpa only [Int.add_zero, hz, Int.zero_add] using q
  obtain ⟨x0, r0, r1, r2⟩ := lc_plq (σ 1) (σ 2) (σ 3) (σ 4) (φ 0) (φ 1) b1 b2 b3 b4 g0 p0 p1 p2
  obtain ⟨τ, e1, e2⟩ := sx_ex1 σ 5 x0
  have u0 : τ 0 = σ 0 := e1 0 (by decide)
  have u1 : τ 1 = σ 1 := e1 1 (by decide)
  have u2 : τ 2 = σ 2 := e1 2 (by decide)
  have u3 : τ 3 = σ 3 := e1 3 (by decide)
  have u4 : τ 4 = σ 4 := e1 4 (by decide)
  refine ⟨τ, φ, fun i hi => e1 i hi, fun _ _ => rfl, ?_⟩
  refine ⟨sx_de1 (by show 0 ≤ τ 5 ∧ τ 5 ≤ 1000000000000000; rw [e2]; exact r0), sx_dr0, ?_, ?_, sx_nil, sx_nil⟩
  · exact sx_cons (by show 0 ≤ (1 * τ 2 + ((-1) * τ 5 + 0)) + (-1); rw [e2, u2]; have q := r1; omega) (sx_nil)
  · exact sx_cons (by show PQp (τ 1 + 0) (τ 5 + 0) (φ 1); simpa only [Int.add_zero, Int.zero_add, hz, u0, u1, u2, u3, u4, e2] using r2) (sx_nil)
theorem sxL_plp_ok : sx_lemok sxPF sxL_plp := by
  intro σ φ h
  obtain ⟨h1, h2, h3, h4, h5, h6⟩ := h
  have hz : σ 0 = 0 := by
    have q : 0 ≤ σ 0 ∧ σ 0 ≤ 0 := h1 0 _ rfl
    omega
  have b1 : 0 ≤ σ 1 ∧ σ 1 ≤ 1 := h1 1 _ rfl
  have b2 : 0 ≤ σ 2 ∧ σ 2 ≤ 1000000000000000 := h1 2 _ rfl
  have p0 : PQp (σ 1) (σ 2) (φ 0) := by
    have q : PQp (σ 1 + 0) (σ 2 + 0) (φ 0) := h4 _ (.head _)
    simpa only [Int.add_zero, hz, Int.zero_add] using q
  have p1 : P6 ((σ 1) + 1) (-1) (φ 0) (φ 1) := by
    have q : P6 (σ 1 + 1) (σ 0 + -1) (φ 0) (φ 1) := h4 _ (.tail _ (.head _))
    simpa only [Int.add_zero, hz, Int.zero_add] using q
  obtain ⟨x0, r0, r1, r2⟩ := lc_plp (σ 1) (σ 2) (φ 0) (φ 1) b1 b2 p0 p1
  obtain ⟨τ, e1, e2⟩ := sx_ex1 σ 3 x0
  have u0 : τ 0 = σ 0 := e1 0 (by decide)
  have u1 : τ 1 = σ 1 := e1 1 (by decide)
  have u2 : τ 2 = σ 2 := e1 2 (by decide)
  refine ⟨τ, φ, fun i hi => e1 i hi, fun _ _ => rfl, ?_⟩
  refine ⟨sx_de1 (by show 0 ≤ τ 3 ∧ τ 3 ≤ 1000000000000000; rw [e2]; exact r0), sx_dr0, ?_, ?_, sx_nil, sx_nil⟩
  · exact sx_cons (by show 0 ≤ (1 * τ 2 + ((-1) * τ 3 + 0)) + 0; rw [e2, u2]; have q := r1; omega) (sx_nil)
  · exact sx_cons (by show PLp (τ 1 + 1) (τ 3 + 0) (φ 1); simpa only [Int.add_zero, Int.zero_add, hz, u0, u1, u2, e2] using r2) (sx_nil)
theorem sxL_pls_ok : sx_lemok sxPF sxL_pls := by
  intro σ φ h
  obtain ⟨h1, h2, h3, h4, h5, h6⟩ := h
  have hz : σ 0 = 0 := by
    have q : 0 ≤ σ 0 ∧ σ 0 ≤ 0 := h1 0 _ rfl
    omega
  have b1 : 0 ≤ σ 1 ∧ σ 1 ≤ 2 := h1 1 _ rfl
  have b2 : 0 ≤ σ 2 ∧ σ 2 ≤ 1000000000000000 := h1 2 _ rfl
  have p0 : PQp (σ 1) (σ 2) (φ 0) := by
    have q : PQp (σ 1 + 0) (σ 2 + 0) (φ 0) := h4 _ (.head _)
    simpa only [Int.add_zero, hz, Int.zero_add] using q
  obtain ⟨x0, r0, r1, r2⟩ := lc_pls (σ 1) (σ 2) (φ 0) b1 b2 p0
  obtain ⟨τ, e1, e2⟩ := sx_ex1 σ 3 x0
  have u0 : τ 0 = σ 0 := e1 0 (by decide)
  have u1 : τ 1 = σ 1 := e1 1 (by decide)
  have u2 : τ 2 = σ 2 := e1 2 (by decide)
  refine ⟨τ, φ, fun i hi => e1 i hi, fun _ _ => rfl, ?_⟩
  refine ⟨sx_de1 (by show 0 ≤ τ 3 ∧ τ 3 ≤ 1000000000000000; rw [e2]; exact r0), sx_dr0, ?_, ?_, sx_nil, sx_nil⟩
  · exact sx_cons (by show 0 ≤ (1 * τ 2 + ((-1) * τ 3 + 0)) + 0; rw [e2, u2]; have q := r1; omega) (sx_nil)
  · exact sx_cons (by show PLp (τ 1 + 0) (τ 3 + 0) (φ 0); simpa only [Int.add_zero, Int.zero_add, hz, u0, u1, u2, e2] using r2) (sx_nil)
theorem sxL_plo_ok : sx_lemok sxPF sxL_plo := by
  intro σ φ h
  obtain ⟨h1, h2, h3, h4, h5, h6⟩ := h
  have hz : σ 0 = 0 := by
    have q : 0 ≤ σ 0 ∧ σ 0 ≤ 0 := h1 0 _ rfl
    omega
  have b1 : 0 ≤ σ 1 ∧ σ 1 ≤ 2 := h1 1 _ rfl
  have b2 : 0 ≤ σ 2 ∧ σ 2 ≤ 1000000000000000 := h1 2 _ rfl
  have p0 : PLp (σ 1) (σ 2) (φ 0) := by
    have q : PLp (σ 1 + 0) (σ 2 + 0) (φ 0) := h4 _ (.head _)
    simpa only [Int.add_zero, hz, Int.zero_add] using q
  obtain ⟨x0, r0, r1, r2⟩ := lc_plo (σ 1) (σ 2) (φ 0) b1 b2 p0
  obtain ⟨τ, e1, e2⟩ := sx_ex1 σ 3 x0
  have u0 : τ 0 = σ 0 := e1 0 (by decide)
  have u1 : τ 1 = σ 1 := e1 1 (by decide)
  have u2 : τ 2 = σ 2 := e1 2 (by decide)
  refine ⟨τ, φ, fun i hi => e1 i hi, fun _ _ => rfl, ?_⟩
  refine ⟨sx_de1 (by show 0 ≤ τ 3 ∧ τ 3 ≤ 1000000000000000; rw [e2]; exact r0), sx_dr0, ?_, ?_, sx_nil, sx_nil⟩
  · exact sx_cons (by show 0 ≤ (1 * τ 2 + ((-1) * τ 3 + 0)) + (-1); rw [e2, u2]; have q := r1; omega) (sx_nil)
  · exact sx_cons (by show PLp (τ 1 + -1) (τ 3 + 0) (φ 0); simpa only [Int.add_zero, Int.zero_add, hz, u0, u1, u2, e2] using r2) (sx_nil)
theorem sxL_lt1_ok : sx_lemok sxPF sxL_lt1 := by
  intro σ φ h
  obtain ⟨h1, h2, h3, h4, h5, h6⟩ := h
  have hz : σ 0 = 0 := by
    have q : 0 ≤ σ 0 ∧ σ 0 ≤ 0 := h1 0 _ rfl
    omega
  have b1 : 0 ≤ σ 1 ∧ σ 1 ≤ 801 := h1 1 _ rfl
  have b2 : 97 ≤ σ 2 ∧ σ 2 ≤ 122 := h1 2 _ rfl
  have p0 : P5 (σ 1) (σ 2) (φ 0) := by
    have q : P5 (σ 1 + 0) (σ 2 + 0) (φ 0) := h4 _ (.head _)
    simpa only [Int.add_zero, hz, Int.zero_add] using q
  obtain r0 := lc_lt1 (σ 1) (σ 2) (φ 0) b1 b2 p0
  refine ⟨σ, φ, fun _ _ => rfl, fun _ _ => rfl, ?_⟩
  refine ⟨sx_de0, sx_dr0, ?_, ?_, sx_nil, sx_nil⟩
  · exact sx_nil
  · exact sx_cons (by show LTp (σ 1 + 0) (φ 0); simpa only [Int.add_zero, Int.zero_add, hz] using r0) (sx_nil)
theorem sxL_lt2_ok : sx_lemok sxPF sxL_lt2 := by
  intro σ φ h
  obtain ⟨h1, h2, h3, h4, h5, h6⟩ := h
  have hz : σ 0 = 0 := by
    have q : 0 ≤ σ 0 ∧ σ 0 ≤ 0 := h1 0 _ rfl
    omega
  have b1 : 0 ≤ σ 1 ∧ σ 1 ≤ 801 := h1 1 _ rfl
  have b2 : 0 ≤ σ 2 ∧ σ 2 ≤ 400 := h1 2 _ rfl
  have g0 : 0 ≤ 1 * (σ 1) + (-1) * (σ 2) + 0 := by
    have q : 0 ≤ (1 * σ 1 + ((-1) * σ 2 + 0)) + 0 := h3 _ (.head _)
    omega
  obtain r0 := lc_lt2 (σ 1) (σ 2) (φ 0) b1 b2 g0
  refine ⟨σ, φ, fun _ _ => rfl, fun _ _ => rfl, ?_⟩
  refine ⟨sx_de0, sx_dr0, ?_, ?_, sx_nil, sx_nil⟩
  · exact sx_nil
  · exact sx_cons (by show NLp (σ 1 + 0) (σ 2 + 0) (φ 0); simpa only [Int.add_zero, Int.zero_add, hz] using r0) (sx_nil)
theorem sxL_lt3_ok : sx_lemok sxPF sxL_lt3 := by
  intro σ φ h
  obtain ⟨h1, h2, h3, h4, h5, h6⟩ := h
  have hz : σ 0 = 0 := by
    have q : 0 ≤ σ 0 ∧ σ 0 ≤ 0 := h1 0 _ rfl
    omega
  have b1 : 0 ≤ σ 1 ∧ σ 1 ≤ 801 := h1 1 _ rfl
  have b2 : 0 ≤ σ 2 ∧ σ 2 ≤ 400 := h1 2 _ rfl
  have b3 : (-128) ≤ σ 3 ∧ σ 3 ≤ 96 := h1 3 _ rfl
  have p0 : P5 (σ 1) (σ 3) (φ 0) := by
    have q : P5 (σ 1 + 0) (σ 3 + 0) (φ 0) := h4 _ (.head _)
    simpa only [Int.add_zero, hz, Int.zero_add] using q
  obtain r0 := lc_lt3 (σ 1) (σ 2) (σ 3) (φ 0) b1 b2 b3 p0
  refine ⟨σ, φ, fun _ _ => rfl, fun _ _ => rfl, ?_⟩
  refine ⟨sx_de0, sx_dr0, ?_, ?_, sx_nil, sx_nil⟩
  · exact sx_nil
  · exact sx_cons (by show NLp (σ 1 + 0) (σ 2 + 0) (φ 0); simpa only [Int.add_zero, Int.zero_add, hz] using r0) (sx_nil)
theorem sxL_lt4_ok : sx_lemok sxPF sxL_lt4 := by
  intro σ φ h
  obtain ⟨h1, h2, h3, h4, h5, h6⟩ := h
  have hz : σ 0 = 0 := by
    have q : 0 ≤ σ 0 ∧ σ 0 ≤ 0 := h1 0 _ rfl
    omega
  have b1 : 0 ≤ σ 1 ∧ σ 1 ≤ 801 := h1 1 _ rfl
  have b2 : 0 ≤ σ 2 ∧ σ 2 ≤ 400 := h1 2 _ rfl
  have b3 : 123 ≤ σ 3 ∧ σ 3 ≤ 127 := h1 3 _ rfl
  have p0 : P5 (σ 1) (σ 3) (φ 0) := by
    have q : P5 (σ 1 + 0) (σ 3 + 0) (φ 0) := h4 _ (.head _)
    simpa only [Int.add_zero, hz, Int.zero_add] using q
  obtain r0 := lc_lt4 (σ 1) (σ 2) (σ 3) (φ 0) b1 b2 b3 p0
  refine ⟨σ, φ, fun _ _ => rfl, fun _ _ => rfl, ?_⟩
  refine ⟨sx_de0, sx_dr0, ?_, ?_, sx_nil, sx_nil⟩
  · exact sx_nil
  · exact sx_cons (by show NLp (σ 1 + 0) (σ 2 + 0) (φ 0); simpa only [Int.add_zero, Int.zero_add, hz] using r0) (sx_nil)
theorem sxL_lt5_ok : sx_lemok sxPF sxL_lt5 := by
  intro σ φ h
  obtain ⟨h1, h2, h3, h4, h5, h6⟩ := h
  have hz : σ 0 = 0 := by
    have q : 0 ≤ σ 0 ∧ σ 0 ≤ 0 := h1 0 _ rfl
    omega
  have b1 : 0 ≤ σ 1 ∧ σ 1 ≤ 801 := h1 1 _ rfl
  have b2 : 0 ≤ σ 2 ∧ σ 2 ≤ 400 := h1 2 _ rfl
  have g0 : 0 ≤ 1 * (σ 2) + (-1) * (σ 1) + (-1) := by
    have q : 0 ≤ (1 * σ 2 + ((-1) * σ 1 + 0)) + (-1) := h3 _ (.head _)
    omega
  have p0 : LTp (σ 1) (φ 0) := by
    have q : LTp (σ 1 + 0) (φ 0) := h4 _ (.head _)
    simpa only [Int.add_zero, hz, Int.zero_add] using q
  have p1 : NLp (σ 1) (σ 2) (φ 0) := by
    have q : NLp (σ 1 + 0) (σ 2 + 0) (φ 0) := h4 _ (.tail _ (.head _))
    simpa only [Int.add_zero, hz, Int.zero_add] using q
  obtain r0 := lc_lt5 (σ 1) (σ 2) (φ 0) b1 b2 g0 p0 p1
  exact r0.elim
theorem sxL_dg1_ok : sx_lemok sxPF sxL_dg1 := by
  intro σ φ h
  obtain ⟨h1, h2, h3, h4, h5, h6⟩ := h
  have hz : σ 0 = 0 := by
    have q : 0 ≤ σ 0 ∧ σ 0 ≤ 0 := h1 0 _ rfl
    omega
  have b1 : 0 ≤ σ 1 ∧ σ 1 ≤ 801 := h1 1 _ rfl
  have b2 : 48 ≤ σ 2 ∧ σ 2 ≤ 57 := h1 2 _ rfl
  have p0 : P5 (σ 1) (σ 2) (φ 0) := by
    have q : P5 (σ 1 + 0) (σ 2 + 0) (φ 0) := h4 _ (.head _)
    simpa only [Int.add_zero, hz, Int.zero_add] using q
  obtain r0 := lc_dg1 (σ 1) (σ 2) (φ 0) b1 b2 p0
  refine ⟨σ, φ, fun _ _ => rfl, fun _ _ => rfl, ?_⟩
  refine ⟨sx_de0, sx_dr0, ?_, ?_, sx_nil, sx_nil⟩
  · exact sx_nil
  · exact sx_cons (by show DGp (σ 1 + 0) (φ 0); simpa only [Int.add_zero, Int.zero_add, hz] using r0) (sx_nil)
theorem sxL_dg2_ok : sx_lemok sxPF sxL_dg2 := by
  intro σ φ h
  obtain ⟨h1, h2, h3, h4, h5, h6⟩ := h
  have hz : σ 0 = 0 := by
    have q : 0 ≤ σ 0 ∧ σ 0 ≤ 0 := h1 0 _ rfl
    omega
  have b1 : 0 ≤ σ 1 ∧ σ 1 ≤ 801 := h1 1 _ rfl
  have b2 : 0 ≤ σ 2 ∧ σ 2 ≤ 400 := h1 2 _ rfl
  have g0 : 0 ≤ 1 * (σ 1) + (-1) * (σ 2) + 0 := by
    have q : 0 ≤ (1 * σ 1 + ((-1) * σ 2 + 0)) + 0 := h3 _ (.head _)
    omega
  obtain r0 := lc_dg2 (σ 1) (σ 2) (φ 0) b1 b2 g0
  refine ⟨σ, φ, fun _ _ => rfl, fun _ _ => rfl, ?_⟩
  refine ⟨sx_de0, sx_dr0, ?_, ?_, sx_nil, sx_nil⟩
  · exact sx_nil
  · exact sx_cons (by show NDp (σ 1 + 0) (σ 2 + 0) (φ 0); simpa only [Int.add_zero, Int.zero_add, hz] using r0) (sx_nil)
theorem sxL_dg3_ok : sx_lemok sxPF sxL_dg3 := by
  intro σ φ h
  obtain ⟨h1, h2, h3, h4, h5, h6⟩ := h
  have hz : σ 0 = 0 := by
    have q : 0 ≤ σ 0 ∧ σ 0 ≤ 0 := h1 0 _ rfl
    omega
  have b1 : 0 ≤ σ 1 ∧ σ 1 ≤ 801 := h1 1 _ rfl
  have b2 : 0 ≤ σ 2 ∧ σ 2 ≤ 400 := h1 2 _ rfl
  have b3 : (-128) ≤ σ 3 ∧ σ 3 ≤ 47 := h1 3 _ rfl
  have p0 : P5 (σ 1) (σ 3) (φ 0) := by
    have q : P5 (σ 1 + 0) (σ 3 + 0) (φ 0) := h4 _ (.head _)
    simpa only [Int.add_zero, hz, Int.zero_add] using q
  obtain r0 := lc_dg3 (σ 1) (σ 2) (σ 3) (φ 0) b1 b2 b3 p0
  refine ⟨σ, φ, fun _ _ => rfl, fun _ _ => rfl, ?_⟩
  refine ⟨sx_de0, sx_dr0, ?_, ?_, sx_nil, sx_nil⟩
  · exact sx_nil
  · exact sx_cons (by show NDp (σ 1 + 0) (σ 2 + 0) (φ 0); simpa only [Int.add_zero, Int.zero_add, hz] using r0) (sx_nil)
theorem sxL_dg4_ok : sx_lemok sxPF sxL_dg4 := by
  intro σ φ h
  obtain ⟨h1, h2, h3, h4, h5, h6⟩ := h
  have hz : σ 0 = 0 := by
    have q : 0 ≤ σ 0 ∧ σ 0 ≤ 0 := h1 0 _ rfl
    omega
  have b1 : 0 ≤ σ 1 ∧ σ 1 ≤ 801 := h1 1 _ rfl
  have b2 : 0 ≤ σ 2 ∧ σ 2 ≤ 400 := h1 2 _ rfl
  have b3 : 58 ≤ σ 3 ∧ σ 3 ≤ 127 := h1 3 _ rfl
  have p0 : P5 (σ 1) (σ 3) (φ 0) := by
    have q : P5 (σ 1 + 0) (σ 3 + 0) (φ 0) := h4 _ (.head _)
    simpa only [Int.add_zero, hz, Int.zero_add] using q
  obtain r0 := lc_dg4 (σ 1) (σ 2) (σ 3) (φ 0) b1 b2 b3 p0
  refine ⟨σ, φ, fun _ _ => rfl, fun _ _ => rfl, ?_⟩
  refine ⟨sx_de0, sx_dr0, ?_, ?_, sx_nil, sx_nil⟩
  · exact sx_nil
  · exact sx_cons (by show NDp (σ 1 + 0) (σ 2 + 0) (φ 0); simpa only [Int.add_zero, Int.zero_add, hz] using r0) (sx_nil)
theorem sxL_dg5_ok : sx_lemok sxPF sxL_dg5 := by
  intro σ φ h
  obtain ⟨h1, h2, h3, h4, h5, h6⟩ := h
  have hz : σ 0 = 0 := by
    have q : 0 ≤ σ 0 ∧ σ 0 ≤ 0 := h1 0 _ rfl
    omega
  have b1 : 0 ≤ σ 1 ∧ σ 1 ≤ 801 := h1 1 _ rfl
  have b2 : 0 ≤ σ 2 ∧ σ 2 ≤ 400 := h1 2 _ rfl
  have g0 : 0 ≤ 1 * (σ 2) + (-1) * (σ 1) + (-1) := by
    have q : 0 ≤ (1 * σ 2 + ((-1) * σ 1 + 0)) + (-1) := h3 _ (.head _)
    omega
  have p0 : DGp (σ 1) (φ 0) := by
    have q : DGp (σ 1 + 0) (φ 0) := h4 _ (.head _)
    simpa only [Int.add_zero, hz, Int.zero_add] using q
  have p1 : NDp (σ 1) (σ 2) (φ 0) := by
    have q : NDp (σ 1 + 0) (σ 2 + 0) (φ 0) := h4 _ (.tail _ (.head _))
    simpa only [Int.add_zero, hz, Int.zero_add] using q
  obtain r0 := lc_dg5 (σ 1) (σ 2) (φ 0) b1 b2 g0 p0 p1
  exact r0.elim
theorem sxL_lt6_ok : sx_lemok sxPF sxL_lt6 := by
  intro σ φ h
  obtain ⟨h1, h2, h3, h4, h5, h6⟩ := h
  have hz : σ 0 = 0 := by
    have q : 0 ≤ σ 0 ∧ σ 0 ≤ 0 := h1 0 _ rfl
    omega
  have b1 : 0 ≤ σ 1 ∧ σ 1 ≤ 801 := h1 1 _ rfl
  have b2 : (-2147483648) ≤ σ 2 ∧ σ 2 ≤ 2147483647 := h1 2 _ rfl
  have p0 : LTp (σ 1) (φ 0) := by
    have q : LTp (σ 1 + 0) (φ 0) := h4 _ (.head _)
    simpa only [Int.add_zero, hz, Int.zero_add] using q
  have p1 : P5 (σ 1) (σ 2) (φ 0) := by
    have q : P5 (σ 1 + 0) (σ 2 + 0) (φ 0) := h4 _ (.tail _ (.head _))
    simpa only [Int.add_zero, hz, Int.zero_add] using q
  obtain r0 := lc_lt6 (σ 1) (σ 2) (φ 0) b1 b2 p0 p1
  refine ⟨σ, φ, fun _ _ => rfl, fun _ _ => rfl, ?_⟩
  refine ⟨sx_de0, sx_dr0, ?_, ?_, sx_nil, sx_nil⟩
  · exact sx_cons (by show 0 ≤ (1 * σ 2 + 0) + (-97); have q := r0; omega) (sx_nil)
  · exact sx_nil
theorem sxL_pun_ok : sx_lemok sxPF sxL_pun := by
  intro σ φ h
  obtain ⟨h1, h2, h3, h4, h5, h6⟩ := h
  have hz : σ 0 = 0 := by
    have q : 0 ≤ σ 0 ∧ σ 0 ≤ 0 := h1 0 _ rfl
    omega
  have b1 : 0 ≤ σ 1 ∧ σ 1 ≤ 5 := h1 1 _ rfl
  have b2 : 0 ≤ σ 2 ∧ σ 2 ≤ 400 := h1 2 _ rfl
  have b3 : 0 ≤ σ 3 ∧ σ 3 ≤ 400 := h1 3 _ rfl
  have b4 : 0 ≤ σ 4 ∧ σ 4 ≤ 400 := h1 4 _ rfl
  have b5 : 0 ≤ σ 5 ∧ σ 5 ≤ 399 := h1 5 _ rfl
  have b6 : 0 ≤ σ 6 ∧ σ 6 ≤ 59 := h1 6 _ rfl
  have b7 : (-2147483648) ≤ σ 7 ∧ σ 7 ≤ 2147483647 := h1 7 _ rfl
  have b8 : (-2147483648) ≤ σ 8 ∧ σ 8 ≤ 2147483647 := h1 8 _ rfl
  have b9 : 0 ≤ σ 9 ∧ σ 9 ≤ 0 := h1 9 _ rfl
  have b10 : 0 ≤ σ 10 ∧ σ 10 ≤ 99999 := h1 10 _ rfl
  have g0 : 0 ≤ 1 * (σ 7) + (-400) * (σ 1) + (-1) * (σ 5) + 0 := by
    have q : 0 ≤ (1 * σ 7 + ((-400) * σ 1 + ((-1) * σ 5 + 0))) + 0 := h3 _ (.head _)
    omega
  have g1 : 0 ≤ (-1) * (σ 7) + 400 * (σ 1) + 1 * (σ 5) + 0 := by
    have q : 0 ≤ ((-1) * σ 7 + (400 * σ 1 + (1 * σ 5 + 0))) + 0 := h3 _ (.tail _ (.head _))
    omega
  have g2 : 0 ≤ 1 * (σ 8) + (-1) * (σ 9) + (-16) * (σ 10) + 0 := by
    have q : 0 ≤ (1 * σ 8 + ((-1) * σ 9 + ((-16) * σ 10 + 0))) + 0 := h3 _ (.tail _ (.tail _ (.head _)))
    omega
  have g3 : 0 ≤ (-1) * (σ 8) + 1 * (σ 9) + 16 * (σ 10) + 0 := by
    have q : 0 ≤ ((-1) * σ 8 + (1 * σ 9 + (16 * σ 10 + 0))) + 0 := h3 _ (.tail _ (.tail _ (.tail _ (.head _))))
    omega
  have p0 : PRp (σ 1) (σ 2) (σ 3) (σ 4) (σ 5) (σ 6) (φ 0) (φ 1) (φ 2) := by
    have q : PRp (σ 1 + 0) (σ 2 + 0) (σ 3 + 0) (σ 4 + 0) (σ 5 + 0) (σ 6 + 0) (φ 0) (φ 1) (φ 2) := h4 _ (.head _)
    simpa only [Int.add_zero, hz, Int.zero_add] using q
  have p1 : P6 (σ 7) (σ 8) (φ 0) (φ 3) := by
    have q : P6 (σ 7 + 0) (σ 8 + 0) (φ 0) (φ 3) := h4 _ (.tail _ (.head _))
    simpa only [Int.add_zero, hz, Int.zero_add] using q
  obtain r0 := lc_pun (σ 1) (σ 2) (σ 3) (σ 4) (σ 5) (σ 6) (σ 7) (σ 8) (σ 9) (σ 10) (φ 0) (φ 1) (φ 2) (φ 3) b1 b2 b3 b4 b5 b6 b7 b8 b9 b10 g0 g1 g2 g3 p0 p1
  refine ⟨σ, φ, fun _ _ => rfl, fun _ _ => rfl, ?_⟩
  refine ⟨sx_de0, sx_dr0, ?_, ?_, sx_nil, sx_nil⟩
  · exact sx_nil
  · exact sx_cons (by show PRp (σ 1 + 0) (σ 2 + 0) (σ 3 + 0) (σ 4 + 0) (σ 5 + 1) (σ 6 + 1) (φ 3) (φ 1) (φ 2); simpa only [Int.add_zero, Int.zero_add, hz] using r0) (sx_nil)
theorem sxL_puw_ok : sx_lemok sxPF sxL_puw := by
  intro σ φ h
  obtain ⟨h1, h2, h3, h4, h5, h6⟩ := h
  have hz : σ 0 = 0 := by
    have q : 0 ≤ σ 0 ∧ σ 0 ≤ 0 := h1 0 _ rfl
    omega
  have b1 : 0 ≤ σ 1 ∧ σ 1 ≤ 5 := h1 1 _ rfl
  have b2 : 0 ≤ σ 2 ∧ σ 2 ≤ 400 := h1 2 _ rfl
  have b3 : 0 ≤ σ 3 ∧ σ 3 ≤ 400 := h1 3 _ rfl
  have b4 : 0 ≤ σ 4 ∧ σ 4 ≤ 400 := h1 4 _ rfl
  have b5 : 0 ≤ σ 5 ∧ σ 5 ≤ 399 := h1 5 _ rfl
  have b6 : 0 ≤ σ 6 ∧ σ 6 ≤ 59 := h1 6 _ rfl
  have b7 : (-2147483648) ≤ σ 7 ∧ σ 7 ≤ 2147483647 := h1 7 _ rfl
  have b8 : (-2147483648) ≤ σ 8 ∧ σ 8 ≤ 2147483647 := h1 8 _ rfl
  have b9 : 1 ≤ σ 9 ∧ σ 9 ≤ 1 := h1 9 _ rfl
  have b10 : 0 ≤ σ 10 ∧ σ 10 ≤ 11 := h1 10 _ rfl
  have g0 : 0 ≤ 1 * (σ 7) + (-400) * (σ 1) + (-1) * (σ 5) + 0 := by
    have q : 0 ≤ (1 * σ 7 + ((-400) * σ 1 + ((-1) * σ 5 + 0))) + 0 := h3 _ (.head _)
    omega
  have g1 : 0 ≤ (-1) * (σ 7) + 400 * (σ 1) + 1 * (σ 5) + 0 := by
    have q : 0 ≤ ((-1) * σ 7 + (400 * σ 1 + (1 * σ 5 + 0))) + 0 := h3 _ (.tail _ (.head _))
    omega
  have g2 : 0 ≤ 1 * (σ 8) + (-1) * (σ 9) + (-16) * (σ 10) + 0 := by
    have q : 0 ≤ (1 * σ 8 + ((-1) * σ 9 + ((-16) * σ 10 + 0))) + 0 := h3 _ (.tail _ (.tail _ (.head _)))
    omega
  have g3 : 0 ≤ (-1) * (σ 8) + 1 * (σ 9) + 16 * (σ 10) + 0 := by
    have q : 0 ≤ ((-1) * σ 8 + (1 * σ 9 + (16 * σ 10 + 0))) + 0 := h3 _ (.tail _ (.tail _ (.tail _ (.head _))))
    omega
  have p0 : PRp (σ 1) (σ 2) (σ 3) (σ 4) (σ 5) (σ 6) (φ 0) (φ 1) (φ 2) := by
    have q : PRp (σ 1 + 0) (σ 2 + 0) (σ 3 + 0) (σ 4 + 0) (σ 5 + 0) (σ 6 + 0) (φ 0) (φ 1) (φ 2) := h4 _ (.head _)
    simpa only [Int.add_zero, hz, Int.zero_add] using q
  have p1 : P6 (σ 7) (σ 8) (φ 0) (φ 3) := by
    have q : P6 (σ 7 + 0) (σ 8 + 0) (φ 0) (φ 3) := h4 _ (.tail _ (.head _))
    simpa only [Int.add_zero, hz, Int.zero_add] using q
  obtain r0 := lc_puw (σ 1) (σ 2) (σ 3) (σ 4) (σ 5) (σ 6) (σ 7) (σ 8) (σ 9) (σ 10) (φ 0) (φ 1) (φ 2) (φ 3) b1 b2 b3 b4 b5 b6 b7 b8 b9 b10 g0 g1 g2 g3 p0 p1
  refine ⟨σ, φ, fun _ _ => rfl, fun _ _ => rfl, ?_⟩
  refine ⟨sx_de0, sx_dr0, ?_, ?_, sx_nil, sx_nil⟩
  · exact sx_nil
  · exact sx_cons (by show PRp (σ 1 + 0) (σ 2 + 0) (σ 3 + 0) (σ 4 + 0) (σ 5 + 1) (σ 6 + 1) (φ 3) (φ 1) (φ 2); simpa only [Int.add_zero, Int.zero_add, hz] using r0) (sx_nil)
theorem sxL_put_ok : sx_lemok sxPF sxL_put := by
  intro σ φ h
  obtain ⟨h1, h2, h3, h4, h5, h6⟩ := h
  have hz : σ 0 = 0 := by
    have q : 0 ≤ σ 0 ∧ σ 0 ≤ 0 := h1 0 _ rfl
    omega
  have b1 : 0 ≤ σ 1 ∧ σ 1 ≤ 5 := h1 1 _ rfl
  have b2 : 0 ≤ σ 2 ∧ σ 2 ≤ 400 := h1 2 _ rfl
  have b3 : 0 ≤ σ 3 ∧ σ 3 ≤ 400 := h1 3 _ rfl
  have b4 : 0 ≤ σ 4 ∧ σ 4 ≤ 400 := h1 4 _ rfl
  have b5 : 0 ≤ σ 5 ∧ σ 5 ≤ 399 := h1 5 _ rfl
  have b6 : 1 ≤ σ 6 ∧ σ 6 ≤ 60 := h1 6 _ rfl
  have b7 : (-2147483648) ≤ σ 7 ∧ σ 7 ≤ 2147483647 := h1 7 _ rfl
  have b8 : (-2147483648) ≤ σ 8 ∧ σ 8 ≤ 2147483647 := h1 8 _ rfl
  have b9 : 11 ≤ σ 9 ∧ σ 9 ≤ 11 := h1 9 _ rfl
  have b10 : 0 ≤ σ 10 ∧ σ 10 ≤ 0 := h1 10 _ rfl
  have g0 : 0 ≤ 1 * (σ 7) + (-400) * (σ 1) + (-1) * (σ 5) + 0 := by
    have q : 0 ≤ (1 * σ 7 + ((-400) * σ 1 + ((-1) * σ 5 + 0))) + 0 := h3 _ (.head _)
    omega
  have g1 : 0 ≤ (-1) * (σ 7) + 400 * (σ 1) + 1 * (σ 5) + 0 := by
    have q : 0 ≤ ((-1) * σ 7 + (400 * σ 1 + (1 * σ 5 + 0))) + 0 := h3 _ (.tail _ (.head _))
    omega
  have g2 : 0 ≤ 1 * (σ 8) + (-1) * (σ 9) + (-16) * (σ 10) + 0 := by
    have q : 0 ≤ (1 * σ 8 + ((-1) * σ 9 + ((-16) * σ 10 + 0))) + 0 := h3 _ (.tail _ (.tail _ (.head _)))
    omega
  have g3 : 0 ≤ (-1) * (σ 8) + 1 * (σ 9) + 16 * (σ 10) + 0 := by
    have q : 0 ≤ ((-1) * σ 8 + (1 * σ 9 + (16 * σ 10 + 0))) + 0 := h3 _ (.tail _ (.tail _ (.tail _ (.head _))))
    omega
  have p0 : PRp (σ 1) (σ 2) (σ 3) (σ 4) (σ 5) (σ 6) (φ 0) (φ 1) (φ 2) := by
    have q : PRp (σ 1 + 0) (σ 2 + 0) (σ 3 + 0) (σ 4 + 0) (σ 5 + 0) (σ 6 + 0) (φ 0) (φ 1) (φ 2) := h4 _ (.head _)
    simpa only [Int.add_zero, hz, Int.zero_add] using q
  have p1 : P6 (σ 7) (σ 8) (φ 0) (φ 3) := by
    have q : P6 (σ 7 + 0) (σ 8 + 0) (φ 0) (φ 3) := h4 _ (.tail _ (.head _))
    simpa only [Int.add_zero, hz, Int.zero_add] using q
  obtain r0 := lc_put (σ 1) (σ 2) (σ 3) (σ 4) (σ 5) (σ 6) (σ 7) (σ 8) (σ 9) (σ 10) (φ 0) (φ 1) (φ 2) (φ 3) b1 b2 b3 b4 b5 b6 b7 b8 b9 b10 g0 g1 g2 g3 p0 p1
  refine ⟨σ, φ, fun _ _ => rfl, fun _ _ => rfl, ?_⟩
  refine ⟨sx_de0, sx_dr0, ?_, ?_, sx_nil, sx_nil⟩
  · exact sx_nil
  · exact sx_cons (by show PRp (σ 1 + 0) (σ 2 + 0) (σ 3 + 0) (σ 4 + 0) (σ 5 + 1) (σ 6 + 0) (φ 3) (φ 1) (φ 2); simpa only [Int.add_zero, Int.zero_add, hz] using r0) (sx_nil)
theorem sxL_puo_ok : sx_lemok sxPF sxL_puo := by
  intro σ φ h
  obtain ⟨h1, h2, h3, h4, h5, h6⟩ := h
  have hz : σ 0 = 0 := by
    have q : 0 ≤ σ 0 ∧ σ 0 ≤ 0 := h1 0 _ rfl
    omega
  have b1 : 0 ≤ σ 1 ∧ σ 1 ≤ 5 := h1 1 _ rfl
  have b2 : 0 ≤ σ 2 ∧ σ 2 ≤ 400 := h1 2 _ rfl
  have b3 : 0 ≤ σ 3 ∧ σ 3 ≤ 400 := h1 3 _ rfl
  have b4 : 0 ≤ σ 4 ∧ σ 4 ≤ 400 := h1 4 _ rfl
  have b5 : 0 ≤ σ 5 ∧ σ 5 ≤ 399 := h1 5 _ rfl
  have b6 : 2 ≤ σ 6 ∧ σ 6 ≤ 60 := h1 6 _ rfl
  have b7 : (-2147483648) ≤ σ 7 ∧ σ 7 ≤ 2147483647 := h1 7 _ rfl
  have b8 : (-2147483648) ≤ σ 8 ∧ σ 8 ≤ 2147483647 := h1 8 _ rfl
  have b9 : 2 ≤ σ 9 ∧ σ 9 ≤ 10 := h1 9 _ rfl
  have b10 : 0 ≤ σ 10 ∧ σ 10 ≤ 0 := h1 10 _ rfl
  have g0 : 0 ≤ 1 * (σ 7) + (-400) * (σ 1) + (-1) * (σ 5) + 0 := by
    have q : 0 ≤ (1 * σ 7 + ((-400) * σ 1 + ((-1) * σ 5 + 0))) + 0 := h3 _ (.head _)
    omega
  have g1 : 0 ≤ (-1) * (σ 7) + 400 * (σ 1) + 1 * (σ 5) + 0 := by
    have q : 0 ≤ ((-1) * σ 7 + (400 * σ 1 + (1 * σ 5 + 0))) + 0 := h3 _ (.tail _ (.head _))
    omega
  have g2 : 0 ≤ 1 * (σ 8) + (-1) * (σ 9) + (-16) * (σ 10) + 0 := by
    have q : 0 ≤ (1 * σ 8 + ((-1) * σ 9 + ((-16) * σ 10 + 0))) + 0 := h3 _ (.tail _ (.tail _ (.head _)))
    omega
  have g3 : 0 ≤ (-1) * (σ 8) + 1 * (σ 9) + 16 * (σ 10) + 0 := by
    have q : 0 ≤ ((-1) * σ 8 + (1 * σ 9 + (16 * σ 10 + 0))) + 0 := h3 _ (.tail _ (.tail _ (.tail _ (.head _))))
    omega
  have p0 : PRp (σ 1) (σ 2) (σ 3) (σ 4) (σ 5) (σ 6) (φ 0) (φ 1) (φ 2) := by
    have q : PRp (σ 1 + 0) (σ 2 + 0) (σ 3 + 0) (σ 4 + 0) (σ 5 + 0) (σ 6 + 0) (φ 0) (φ 1) (φ 2) := h4 _ (.head _)
    simpa only [Int.add_zero, hz, Int.zero_add] using q
  have p1 : P6 (σ 7) (σ 8) (φ 0) (φ 3) := by
    have q : P6 (σ 7 + 0) (σ 8 + 0) (φ 0) (φ 3) := h4 _ (.tail _ (.head _))
    simpa only [Int.add_zero, hz, Int.zero_add] using q
  obtain r0 := lc_puo (σ 1) (σ 2) (σ 3) (σ 4) (σ 5) (σ 6) (σ 7) (σ 8) (σ 9) (σ 10) (φ 0) (φ 1) (φ 2) (φ 3) b1 b2 b3 b4 b5 b6 b7 b8 b9 b10 g0 g1 g2 g3 p0 p1
  refine ⟨σ, φ, fun _ _ => rfl, fun _ _ => rfl, ?_⟩
  refine ⟨sx_de0, sx_dr0, ?_, ?_, sx_nil, sx_nil⟩
  · exact sx_nil
  · exact sx_cons (by show PRp (σ 1 + 0) (σ 2 + 0) (σ 3 + 0) (σ 4 + 0) (σ 5 + 1) (σ 6 + -1) (φ 3) (φ 1) (φ 2); simpa only [Int.add_zero, Int.zero_add, hz] using r0) (sx_nil)
theorem sxL_puq_ok : sx_lemok sxPF sxL_puq := by
  intro σ φ h
  obtain ⟨h1, h2, h3, h4, h5, h6⟩ := h
  have hz : σ 0 = 0 := by
    have q : 0 ≤ σ 0 ∧ σ 0 ≤ 0 := h1 0 _ rfl
    omega
  have b1 : 0 ≤ σ 1 ∧ σ 1 ≤ 5 := h1 1 _ rfl
  have b2 : 0 ≤ σ 2 ∧ σ 2 ≤ 400 := h1 2 _ rfl
  have b3 : 0 ≤ σ 3 ∧ σ 3 ≤ 400 := h1 3 _ rfl
  have b4 : 0 ≤ σ 4 ∧ σ 4 ≤ 400 := h1 4 _ rfl
  have b5 : 0 ≤ σ 5 ∧ σ 5 ≤ 399 := h1 5 _ rfl
  have b6 : 2 ≤ σ 6 ∧ σ 6 ≤ 60 := h1 6 _ rfl
  have b7 : (-2147483648) ≤ σ 7 ∧ σ 7 ≤ 2147483647 := h1 7 _ rfl
  have b8 : (-2147483648) ≤ σ 8 ∧ σ 8 ≤ 2147483647 := h1 8 _ rfl
  have b9 : 12 ≤ σ 9 ∧ σ 9 ≤ 14 := h1 9 _ rfl
  have b10 : 0 ≤ σ 10 ∧ σ 10 ≤ 0 := h1 10 _ rfl
  have g0 : 0 ≤ 1 * (σ 7) + (-400) * (σ 1) + (-1) * (σ 5) + 0 := by
    have q : 0 ≤ (1 * σ 7 + ((-400) * σ 1 + ((-1) * σ 5 + 0))) + 0 := h3 _ (.head _)
    omega
  have g1 : 0 ≤ (-1) * (σ 7) + 400 * (σ 1) + 1 * (σ 5) + 0 := by
    have q : 0 ≤ ((-1) * σ 7 + (400 * σ 1 + (1 * σ 5 + 0))) + 0 := h3 _ (.tail _ (.head _))
    omega
  have g2 : 0 ≤ 1 * (σ 8) + (-1) * (σ 9) + (-16) * (σ 10) + 0 := by
    have q : 0 ≤ (1 * σ 8 + ((-1) * σ 9 + ((-16) * σ 10 + 0))) + 0 := h3 _ (.tail _ (.tail _ (.head _)))
    omega
  have g3 : 0 ≤ (-1) * (σ 8) + 1 * (σ 9) + 16 * (σ 10) + 0 := by
    have q : 0 ≤ ((-1) * σ 8 + (1 * σ 9 + (16 * σ 10 + 0))) + 0 := h3 _ (.tail _ (.tail _ (.tail _ (.head _))))
    omega
  have p0 : PRp (σ 1) (σ 2) (σ 3) (σ 4) (σ 5) (σ 6) (φ 0) (φ 1) (φ 2) := by
    have q : PRp (σ 1 + 0) (σ 2 + 0) (σ 3 + 0) (σ 4 + 0) (σ 5 + 0) (σ 6 + 0) (φ 0) (φ 1) (φ 2) := h4 _ (.head _)
    simpa only [Int.add_zero, hz, Int.zero_add] using q
  have p1 : P6 (σ 7) (σ 8) (φ 0) (φ 3) := by
    have q : P6 (σ 7 + 0) (σ 8 + 0) (φ 0) (φ 3) := h4 _ (.tail _ (.head _))
    simpa only [Int.add_zero, hz, Int.zero_add] using q
  obtain r0 := lc_puq (σ 1) (σ 2) (σ 3) (σ 4) (σ 5) (σ 6) (σ 7) (σ 8) (σ 9) (σ 10) (φ 0) (φ 1) (φ 2) (φ 3) b1 b2 b3 b4 b5 b6 b7 b8 b9 b10 g0 g1 g2 g3 p0 p1
  refine ⟨σ, φ, fun _ _ => rfl, fun _ _ => rfl, ?_⟩
  refine ⟨sx_de0, sx_dr0, ?_, ?_, sx_nil, sx_nil⟩
  · exact sx_nil
  · exact sx_cons (by show PRp (σ 1 + 0) (σ 2 + 0) (σ 3 + 0) (σ 4 + 0) (σ 5 + 1) (σ 6 + -1) (φ 3) (φ 1) (φ 2); simpa only [Int.add_zero, Int.zero_add, hz] using r0) (sx_nil)
theorem sxL_op0_ok : sx_lemok sxPF sxL_op0 := by
  intro σ φ h
  obtain ⟨h1, h2, h3, h4, h5, h6⟩ := h
  have hz : σ 0 = 0 := by
    have q : 0 ≤ σ 0 ∧ σ 0 ≤ 0 := h1 0 _ rfl
    omega
  obtain r0 := lc_op0 (φ 0)
  refine ⟨σ, φ, fun _ _ => rfl, fun _ _ => rfl, ?_⟩
  refine ⟨sx_de0, sx_dr0, ?_, ?_, sx_nil, sx_nil⟩
  · exact sx_nil
  · exact sx_cons (by show OPp (σ 0 + 0) (σ 0 + 0) (σ 0 + 0) (φ 0); simpa only [Int.add_zero, Int.zero_add, hz] using r0) (sx_nil)
theorem sxL_opn_ok : sx_lemok sxPF sxL_opn := by
  intro σ φ h
  obtain ⟨h1, h2, h3, h4, h5, h6⟩ := h
  have hz : σ 0 = 0 := by
    have q : 0 ≤ σ 0 ∧ σ 0 ≤ 0 := h1 0 _ rfl
    omega
  have b1 : 0 ≤ σ 1 ∧ σ 1 ≤ 399 := h1 1 _ rfl
  have b2 : 0 ≤ σ 2 ∧ σ 2 ≤ 400 := h1 2 _ rfl
  have b3 : 0 ≤ σ 3 ∧ σ 3 ≤ 400 := h1 3 _ rfl
  have b4 : 11 ≤ σ 4 ∧ σ 4 ≤ 11 := h1 4 _ rfl
  have p0 : OPp (σ 1) (σ 2) (σ 3) (φ 0) := by
    have q : OPp (σ 1 + 0) (σ 2 + 0) (σ 3 + 0) (φ 0) := h4 _ (.head _)
    simpa only [Int.add_zero, hz, Int.zero_add] using q
  have p1 : P6 (σ 1) (σ 4) (φ 0) (φ 1) := by
    have q : P6 (σ 1 + 0) (σ 4 + 0) (φ 0) (φ 1) := h4 _ (.tail _ (.head _))
    simpa only [Int.add_zero, hz, Int.zero_add] using q
  obtain ⟨r0, r1, r2⟩ := lc_opn (σ 1) (σ 2) (σ 3) (σ 4) (φ 0) (φ 1) b1 b2 b3 b4 p0 p1
  refine ⟨σ, φ, fun _ _ => rfl, fun _ _ => rfl, ?_⟩
  refine ⟨sx_de0, sx_dr0, ?_, ?_, sx_nil, sx_nil⟩
  · exact sx_cons (by show 0 ≤ (1 * σ 1 + ((-1) * σ 3 + 0)) + 0; have q := r0; omega) (sx_cons (by show 0 ≤ (1 * σ 1 + ((-1) * σ 2 + 0)) + 0; have q := r1; omega) (sx_nil))
  · exact sx_cons (by show OPp (σ 1 + 1) (σ 2 + 0) (σ 3 + 0) (φ 1); simpa only [Int.add_zero, Int.zero_add, hz] using r2) (sx_nil)
theorem sxL_opb_ok : sx_lemok sxPF sxL_opb := by
  intro σ φ h
  obtain ⟨h1, h2, h3, h4, h5, h6⟩ := h
  have hz : σ 0 = 0 := by
    have q : 0 ≤ σ 0 ∧ σ 0 ≤ 0 := h1 0 _ rfl
    omega
  have b1 : 0 ≤ σ 1 ∧ σ 1 ≤ 399 := h1 1 _ rfl
  have b2 : 0 ≤ σ 2 ∧ σ 2 ≤ 400 := h1 2 _ rfl
  have b3 : 0 ≤ σ 3 ∧ σ 3 ≤ 400 := h1 3 _ rfl
  have b4 : 91 ≤ σ 4 ∧ σ 4 ≤ 91 := h1 4 _ rfl
  have p0 : OPp (σ 1) (σ 2) (σ 3) (φ 0) := by
    have q : OPp (σ 1 + 0) (σ 2 + 0) (σ 3 + 0) (φ 0) := h4 _ (.head _)
    simpa only [Int.add_zero, hz, Int.zero_add] using q
  have p1 : P6 (σ 1) (σ 4) (φ 0) (φ 1) := by
    have q : P6 (σ 1 + 0) (σ 4 + 0) (φ 0) (φ 1) := h4 _ (.tail _ (.head _))
    simpa only [Int.add_zero, hz, Int.zero_add] using q
  obtain ⟨r0, r1, r2⟩ := lc_opb (σ 1) (σ 2) (σ 3) (σ 4) (φ 0) (φ 1) b1 b2 b3 b4 p0 p1
  refine ⟨σ, φ, fun _ _ => rfl, fun _ _ => rfl, ?_⟩
  refine ⟨sx_de0, sx_dr0, ?_, ?_, sx_nil, sx_nil⟩
  · exact sx_cons (by show 0 ≤ (1 * σ 1 + ((-1) * σ 3 + 0)) + 0; have q := r0; omega) (sx_cons (by show 0 ≤ (1 * σ 1 + ((-1) * σ 2 + 0)) + 0; have q := r1; omega) (sx_nil))
  · exact sx_cons (by show OPp (σ 1 + 1) (σ 2 + 0) (σ 3 + 1) (φ 1); simpa only [Int.add_zero, Int.zero_add, hz] using r2) (sx_nil)
theorem sxL_opa_ok : sx_lemok sxPF sxL_opa := by
  intro σ φ h
  obtain ⟨h1, h2, h3, h4, h5, h6⟩ := h
  have hz : σ 0 = 0 := by
    have q : 0 ≤ σ 0 ∧ σ 0 ≤ 0 := h1 0 _ rfl
    omega
  have b1 : 0 ≤ σ 1 ∧ σ 1 ≤ 399 := h1 1 _ rfl
  have b2 : 0 ≤ σ 2 ∧ σ 2 ≤ 400 := h1 2 _ rfl
  have b3 : 0 ≤ σ 3 ∧ σ 3 ≤ 400 := h1 3 _ rfl
  have b4 : 12 ≤ σ 4 ∧ σ 4 ≤ 13 := h1 4 _ rfl
  have p0 : OPp (σ 1) (σ 2) (σ 3) (φ 0) := by
    have q : OPp (σ 1 + 0) (σ 2 + 0) (σ 3 + 0) (φ 0) := h4 _ (.head _)
    simpa only [Int.add_zero, hz, Int.zero_add] using q
  have p1 : P6 (σ 1) (σ 4) (φ 0) (φ 1) := by
    have q : P6 (σ 1 + 0) (σ 4 + 0) (φ 0) (φ 1) := h4 _ (.tail _ (.head _))
    simpa only [Int.add_zero, hz, Int.zero_add] using q
  obtain ⟨r0, r1, r2⟩ := lc_opa (σ 1) (σ 2) (σ 3) (σ 4) (φ 0) (φ 1) b1 b2 b3 b4 p0 p1
  refine ⟨σ, φ, fun _ _ => rfl, fun _ _ => rfl, ?_⟩
  refine ⟨sx_de0, sx_dr0, ?_, ?_, sx_nil, sx_nil⟩
  · exact sx_cons (by show 0 ≤ (1 * σ 1 + ((-1) * σ 3 + 0)) + 0; have q := r0; omega) (sx_cons (by show 0 ≤ (1 * σ 1 + ((-1) * σ 2 + 0)) + 0; have q := r1; omega) (sx_nil))
  · exact sx_cons (by show OPp (σ 1 + 1) (σ 2 + 1) (σ 3 + 0) (φ 1); simpa only [Int.add_zero, Int.zero_add, hz] using r2) (sx_nil)
theorem sxL_oqa_ok : sx_lemok sxPF sxL_oqa := by
  intro σ φ h
  obtain ⟨h1, h2, h3, h4, h5, h6⟩ := h
  have hz : σ 0 = 0 := by
    have q : 0 ≤ σ 0 ∧ σ 0 ≤ 0 := h1 0 _ rfl
    omega
  have b1 : 1 ≤ σ 1 ∧ σ 1 ≤ 400 := h1 1 _ rfl
  have b2 : 0 ≤ σ 2 ∧ σ 2 ≤ 400 := h1 2 _ rfl
  have b3 : 0 ≤ σ 3 ∧ σ 3 ≤ 400 := h1 3 _ rfl
  have b4 : 12 ≤ σ 4 ∧ σ 4 ≤ 13 := h1 4 _ rfl
  have p0 : OPp (σ 1) (σ 2) (σ 3) (φ 0) := by
    have q : OPp (σ 1 + 0) (σ 2 + 0) (σ 3 + 0) (φ 0) := h4 _ (.head _)
    simpa only [Int.add_zero, hz, Int.zero_add] using q
  have p1 : P5 ((σ 1) + -1) (σ 4) (φ 0) := by
    have q : P5 (σ 1 + -1) (σ 4 + 0) (φ 0) := h4 _ (.tail _ (.head _))
    simpa only [Int.add_zero, hz, Int.zero_add] using q
  obtain ⟨r0, r1⟩ := lc_oqa (σ 1) (σ 2) (σ 3) (σ 4) (φ 0) b1 b2 b3 b4 p0 p1
  refine ⟨σ, φ, fun _ _ => rfl, fun _ _ => rfl, ?_⟩
  refine ⟨sx_de0, sx_dr0, ?_, ?_, sx_nil, sx_nil⟩
  · exact sx_cons (by show 0 ≤ (1 * σ 2 + 0) + (-1); have q := r0; omega) (sx_nil)
  · exact sx_cons (by show OPp (σ 1 + -1) (σ 2 + -1) (σ 3 + 0) (φ 0); simpa only [Int.add_zero, Int.zero_add, hz] using r1) (sx_nil)
theorem sxL_oqn_ok : sx_lemok sxPF sxL_oqn := by
  intro σ φ h
  obtain ⟨h1, h2, h3, h4, h5, h6⟩ := h
  have hz : σ 0 = 0 := by
    have q : 0 ≤ σ 0 ∧ σ 0 ≤ 0 := h1 0 _ rfl
    omega
  have b1 : 1 ≤ σ 1 ∧ σ 1 ≤ 400 := h1 1 _ rfl
  have b2 : 0 ≤ σ 2 ∧ σ 2 ≤ 400 := h1 2 _ rfl
  have b3 : 0 ≤ σ 3 ∧ σ 3 ≤ 400 := h1 3 _ rfl
  have b4 : 11 ≤ σ 4 ∧ σ 4 ≤ 11 := h1 4 _ rfl
  have p0 : OPp (σ 1) (σ 2) (σ 3) (φ 0) := by
    have q : OPp (σ 1 + 0) (σ 2 + 0) (σ 3 + 0) (φ 0) := h4 _ (.head _)
    simpa only [Int.add_zero, hz, Int.zero_add] using q
  have p1 : P5 ((σ 1) + -1) (σ 4) (φ 0) := by
    have q : P5 (σ 1 + -1) (σ 4 + 0) (φ 0) := h4 _ (.tail _ (.head _))
    simpa only [Int.add_zero, hz, Int.zero_add] using q
  obtain r0 := lc_oqn (σ 1) (σ 2) (σ 3) (σ 4) (φ 0) b1 b2 b3 b4 p0 p1
  refine ⟨σ, φ, fun _ _ => rfl, fun _ _ => rfl, ?_⟩
  refine ⟨sx_de0, sx_dr0, ?_, ?_, sx_nil, sx_nil⟩
  · exact sx_nil
  · exact sx_cons (by show OPp (σ 1 + -1) (σ 2 + 0) (σ 3 + 0) (φ 0); simpa only [Int.add_zero, Int.zero_add, hz] using r0) (sx_nil)
theorem sxL_oqi_ok : sx_lemok sxPF sxL_oqi := by
  intro σ φ h
  obtain ⟨h1, h2, h3, h4, h5, h6⟩ := h
  have hz : σ 0 = 0 := by
    have q : 0 ≤ σ 0 ∧ σ 0 ≤ 0 := h1 0 _ rfl
    omega
  have b1 : 1 ≤ σ 1 ∧ σ 1 ≤ 400 := h1 1 _ rfl
  have b2 : 0 ≤ σ 2 ∧ σ 2 ≤ 400 := h1 2 _ rfl
  have b3 : 0 ≤ σ 3 ∧ σ 3 ≤ 400 := h1 3 _ rfl
  have b4 : (-2147483648) ≤ σ 4 ∧ σ 4 ≤ 2147483647 := h1 4 _ rfl
  have p0 : OPp (σ 1) (σ 2) (σ 3) (φ 0) := by
    have q : OPp (σ 1 + 0) (σ 2 + 0) (σ 3 + 0) (φ 0) := h4 _ (.head _)
    simpa only [Int.add_zero, hz, Int.zero_add] using q
  have p1 : P5 ((σ 1) + -1) (σ 4) (φ 0) := by
    have q : P5 (σ 1 + -1) (σ 4 + 0) (φ 0) := h4 _ (.tail _ (.head _))
    simpa only [Int.add_zero, hz, Int.zero_add] using q
  have p2 : (σ 4) ≠ 13 := by
    have q : (σ 4 + 0) ≠ (σ 0 + 13) := h4 _ (.tail _ (.tail _ (.head _)))
    simpa only [Int.add_zero, hz, Int.zero_add] using q
  have p3 : (σ 4) ≠ 12 := by
    have q : (σ 4 + 0) ≠ (σ 0 + 12) := h4 _ (.tail _ (.tail _ (.tail _ (.head _))))
    simpa only [Int.add_zero, hz, Int.zero_add] using q
  have p4 : (σ 4) ≠ 11 := by
    have q : (σ 4 + 0) ≠ (σ 0 + 11) := h4 _ (.tail _ (.tail _ (.tail _ (.tail _ (.head _)))))
    simpa only [Int.add_zero, hz, Int.zero_add] using q
  obtain ⟨r0, r1⟩ := lc_oqi (σ 1) (σ 2) (σ 3) (σ 4) (φ 0) b1 b2 b3 b4 p0 p1 p2 p3 p4
  refine ⟨σ, φ, fun _ _ => rfl, fun _ _ => rfl, ?_⟩
  refine ⟨sx_de0, sx_dr0, ?_, ?_, sx_nil, sx_nil⟩
  · exact sx_cons (by show 0 ≤ (1 * σ 3 + 0) + (-1); have q := r0; omega) (sx_nil)
  · exact sx_cons (by show TIp (σ 1 + 0) (φ 0); simpa only [Int.add_zero, Int.zero_add, hz] using r1) (sx_nil)
theorem sxL_oq0_ok : sx_lemok sxPF sxL_oq0 := by
  intro σ φ h
  obtain ⟨h1, h2, h3, h4, h5, h6⟩ := h
  have hz : σ 0 = 0 := by
    have q : 0 ≤ σ 0 ∧ σ 0 ≤ 0 := h1 0 _ rfl
    omega
  have b1 : 0 ≤ σ 1 ∧ σ 1 ≤ 0 := h1 1 _ rfl
  have b2 : 0 ≤ σ 2 ∧ σ 2 ≤ 400 := h1 2 _ rfl
  have b3 : 0 ≤ σ 3 ∧ σ 3 ≤ 400 := h1 3 _ rfl
  have p0 : OPp (σ 1) (σ 2) (σ 3) (φ 0) := by
    have q : OPp (σ 1 + 0) (σ 2 + 0) (σ 3 + 0) (φ 0) := h4 _ (.head _)
    simpa only [Int.add_zero, hz, Int.zero_add] using q
  obtain ⟨r0, r1⟩ := lc_oq0 (σ 1) (σ 2) (σ 3) (φ 0) b1 b2 b3 p0
  refine ⟨σ, φ, fun _ _ => rfl, fun _ _ => rfl, ?_⟩
  refine ⟨sx_de0, sx_dr0, ?_, ?_, sx_nil, sx_nil⟩
  · exact sx_cons (by show 0 ≤ ((-1) * σ 2 + 0) + 0; have q := r0; omega) (sx_cons (by show 0 ≤ ((-1) * σ 3 + 0) + 0; have q := r1; omega) (sx_nil))
  · exact sx_nil
theorem sxL_oqp_ok : sx_lemok sxPF sxL_oqp := by
  intro σ φ h
  obtain ⟨h1, h2, h3, h4, h5, h6⟩ := h
  have hz : σ 0 = 0 := by
    have q : 0 ≤ σ 0 ∧ σ 0 ≤ 0 := h1 0 _ rfl
    omega
  have b1 : 0 ≤ σ 1 ∧ σ 1 ≤ 400 := h1 1 _ rfl
  have b2 : 0 ≤ σ 2 ∧ σ 2 ≤ 400 := h1 2 _ rfl
  have b3 : 0 ≤ σ 3 ∧ σ 3 ≤ 400 := h1 3 _ rfl
  have p0 : OPp (σ 1) (σ 2) (σ 3) (φ 0) := by
    have q : OPp (σ 1 + 0) (σ 2 + 0) (σ 3 + 0) (φ 0) := h4 _ (.head _)
    simpa only [Int.add_zero, hz, Int.zero_add] using q
  have p1 : TIp (σ 1) (φ 0) := by
    have q : TIp (σ 1 + 0) (φ 0) := h4 _ (.tail _ (.head _))
    simpa only [Int.add_zero, hz, Int.zero_add] using q
  obtain ⟨r0, r1, r2⟩ := lc_oqp (σ 1) (σ 2) (σ 3) (φ 0) b1 b2 b3 p0 p1
  refine ⟨σ, φ, fun _ _ => rfl, fun _ _ => rfl, ?_⟩
  refine ⟨sx_de0, sx_dr0, ?_, ?_, sx_nil, sx_nil⟩
  · exact sx_cons (by show 0 ≤ (1 * σ 1 + 0) + (-1); have q := r0; omega) (sx_cons (by show 0 ≤ (1 * σ 3 + 0) + (-1); have q := r1; omega) (sx_nil))
  · exact sx_cons (by show OPp (σ 1 + -1) (σ 2 + 0) (σ 3 + -1) (φ 0); simpa only [Int.add_zero, Int.zero_add, hz] using r2) (sx_nil)
theorem sxL_ni0_ok : sx_lemok sxPF sxL_ni0 := by
  intro σ φ h
  obtain ⟨h1, h2, h3, h4, h5, h6⟩ := h
  have hz : σ 0 = 0 := by
    have q : 0 ≤ σ 0 ∧ σ 0 ≤ 0 := h1 0 _ rfl
    omega
  obtain r0 := lc_ni0 (φ 0)
  refine ⟨σ, φ, fun _ _ => rfl, fun _ _ => rfl, ?_⟩
  refine ⟨sx_de0, sx_dr0, ?_, ?_, sx_nil, sx_nil⟩
  · exact sx_nil
  · exact sx_cons (by show NIp (σ 0 + 0) (φ 0); simpa only [Int.add_zero, Int.zero_add, hz] using r0) (sx_nil)
theorem sxL_ni1_ok : sx_lemok sxPF sxL_ni1 := by
  intro σ φ h
  obtain ⟨h1, h2, h3, h4, h5, h6⟩ := h
  have hz : σ 0 = 0 := by
    have q : 0 ≤ σ 0 ∧ σ 0 ≤ 0 := h1 0 _ rfl
    omega
  have b1 : 0 ≤ σ 1 ∧ σ 1 ≤ 400 := h1 1 _ rfl
  have b2 : (-2147483648) ≤ σ 2 ∧ σ 2 ≤ 2147483647 := h1 2 _ rfl
  have p0 : NIp (σ 1) (φ 0) := by
    have q : NIp (σ 1 + 0) (φ 0) := h4 _ (.head _)
    simpa only [Int.add_zero, hz, Int.zero_add] using q
  have p1 : P5 (σ 1) (σ 2) (φ 0) := by
    have q : P5 (σ 1 + 0) (σ 2 + 0) (φ 0) := h4 _ (.tail _ (.head _))
    simpa only [Int.add_zero, hz, Int.zero_add] using q
  have p2 : (σ 2) ≠ 91 := by
    have q : (σ 2 + 0) ≠ (σ 0 + 91) := h4 _ (.tail _ (.tail _ (.head _)))
    simpa only [Int.add_zero, hz, Int.zero_add] using q
  obtain r0 := lc_ni1 (σ 1) (σ 2) (φ 0) b1 b2 p0 p1 p2
  refine ⟨σ, φ, fun _ _ => rfl, fun _ _ => rfl, ?_⟩
  refine ⟨sx_de0, sx_dr0, ?_, ?_, sx_nil, sx_nil⟩
  · exact sx_nil
  · exact sx_cons (by show NIp (σ 1 + 1) (φ 0); simpa only [Int.add_zero, Int.zero_add, hz] using r0) (sx_nil)
theorem sxL_nie_ok : sx_lemok sxPF sxL_nie := by
  intro σ φ h
  obtain ⟨h1, h2, h3, h4, h5, h6⟩ := h
  have hz : σ 0 = 0 := by
    have q : 0 ≤ σ 0 ∧ σ 0 ≤ 0 := h1 0 _ rfl
    omega
  have b1 : 0 ≤ σ 1 ∧ σ 1 ≤ 400 := h1 1 _ rfl
  have b2 : 0 ≤ σ 2 ∧ σ 2 ≤ 400 := h1 2 _ rfl
  have b3 : 0 ≤ σ 3 ∧ σ 3 ≤ 400 := h1 3 _ rfl
  have b4 : 0 ≤ σ 4 ∧ σ 4 ≤ 400 := h1 4 _ rfl
  have g0 : 0 ≤ 1 * (σ 4) + (-1) * (σ 1) + 0 := by
    have q : 0 ≤ (1 * σ 4 + ((-1) * σ 1 + 0)) + 0 := h3 _ (.head _)
    omega
  have p0 : OPp (σ 1) (σ 2) (σ 3) (φ 0) := by
    have q : OPp (σ 1 + 0) (σ 2 + 0) (σ 3 + 0) (φ 0) := h4 _ (.head _)
    simpa only [Int.add_zero, hz, Int.zero_add] using q
  have p1 : NIp (σ 4) (φ 0) := by
    have q : NIp (σ 4 + 0) (φ 0) := h4 _ (.tail _ (.head _))
    simpa only [Int.add_zero, hz, Int.zero_add] using q
  obtain r0 := lc_nie (σ 1) (σ 2) (σ 3) (σ 4) (φ 0) b1 b2 b3 b4 g0 p0 p1
  refine ⟨σ, φ, fun _ _ => rfl, fun _ _ => rfl, ?_⟩
  refine ⟨sx_de0, sx_dr0, ?_, ?_, sx_nil, sx_nil⟩
  · exact sx_cons (by show 0 ≤ ((-1) * σ 3 + 0) + 0; have q := r0; omega) (sx_nil)
  · exact sx_nil
theorem sxL_nii_ok : sx_lemok sxPF sxL_nii := by
  intro σ φ h
  obtain ⟨h1, h2, h3, h4, h5, h6⟩ := h
  have hz : σ 0 = 0 := by
    have q : 0 ≤ σ 0 ∧ σ 0 ≤ 0 := h1 0 _ rfl
    omega
  have b1 : 0 ≤ σ 1 ∧ σ 1 ≤ 400 := h1 1 _ rfl
  have b2 : 0 ≤ σ 2 ∧ σ 2 ≤ 400 := h1 2 _ rfl
  have b3 : 0 ≤ σ 3 ∧ σ 3 ≤ 400 := h1 3 _ rfl
  have b4 : 0 ≤ σ 4 ∧ σ 4 ≤ 400 := h1 4 _ rfl
  have b5 : 91 ≤ σ 5 ∧ σ 5 ≤ 91 := h1 5 _ rfl
  have g0 : 0 ≤ 1 * (σ 1) + (-1) * (σ 4) + (-1) := by
    have q : 0 ≤ (1 * σ 1 + ((-1) * σ 4 + 0)) + (-1) := h3 _ (.head _)
    omega
  have p0 : OPp (σ 1) (σ 2) (σ 3) (φ 0) := by
    have q : OPp (σ 1 + 0) (σ 2 + 0) (σ 3 + 0) (φ 0) := h4 _ (.head _)
    simpa only [Int.add_zero, hz, Int.zero_add] using q
  have p1 : P5 (σ 4) (σ 5) (φ 0) := by
    have q : P5 (σ 4 + 0) (σ 5 + 0) (φ 0) := h4 _ (.tail _ (.head _))
    simpa only [Int.add_zero, hz, Int.zero_add] using q
  obtain r0 := lc_nii (σ 1) (σ 2) (σ 3) (σ 4) (σ 5) (φ 0) b1 b2 b3 b4 b5 g0 p0 p1
  refine ⟨σ, φ, fun _ _ => rfl, fun _ _ => rfl, ?_⟩
  refine ⟨sx_de0, sx_dr0, ?_, ?_, sx_nil, sx_nil⟩
  · exact sx_cons (by show 0 ≤ (1 * σ 3 + 0) + (-1); have q := r0; omega) (sx_nil)
  · exact sx_nil
theorem sxL_f0_ok : sx_lemok sxPF sxL_f0 := by
  intro σ φ h
  obtain ⟨h1, h2, h3, h4, h5, h6⟩ := h
  have hz : σ 0 = 0 := by
    have q : 0 ≤ σ 0 ∧ σ 0 ≤ 0 := h1 0 _ rfl
    omega
  have b1 : 0 ≤ σ 1 ∧ σ 1 ≤ 5 := h1 1 _ rfl
  have b2 : 0 ≤ σ 2 ∧ σ 2 ≤ 11 := h1 2 _ rfl
  have b3 : (-2147483648) ≤ σ 3 ∧ σ 3 ≤ 2147483647 := h1 3 _ rfl
  have b4 : 0 ≤ σ 4 ∧ σ 4 ≤ 400 := h1 4 _ rfl
  have g0 : 0 ≤ 1 * (σ 3) + (-48) * (σ 1) + (-4) * (σ 2) + 0 := by
    have q : 0 ≤ (1 * σ 3 + ((-48) * σ 1 + ((-4) * σ 2 + 0))) + 0 := h3 _ (.head _)
    omega
  have g1 : 0 ≤ (-1) * (σ 3) + 48 * (σ 1) + 4 * (σ 2) + 0 := by
    have q : 0 ≤ ((-1) * σ 3 + (48 * σ 1 + (4 * σ 2 + 0))) + 0 := h3 _ (.tail _ (.head _))
    omega
  have p0 : RUq (σ 1) (σ 4) (φ 0) (φ 1) (φ 2) := by
    have q : RUq (σ 1 + 0) (σ 4 + 0) (φ 0) (φ 1) (φ 2) := h4 _ (.head _)
    simpa only [Int.add_zero, hz, Int.zero_add] using q
  have p1 : P5 (σ 1) (σ 2) (φ 2) := by
    have q : P5 (σ 1 + 0) (σ 2 + 0) (φ 2) := h4 _ (.tail _ (.head _))
    simpa only [Int.add_zero, hz, Int.zero_add] using q
  have p2 : P6 (σ 3) (σ 4) (φ 1) (φ 3) := by
    have q : P6 (σ 3 + 0) (σ 4 + 0) (φ 1) (φ 3) := h4 _ (.tail _ (.tail _ (.head _)))
    simpa only [Int.add_zero, hz, Int.zero_add] using q
  obtain r0 := lc_f0 (σ 1) (σ 2) (σ 3) (σ 4) (φ 0) (φ 1) (φ 2) (φ 3) b1 b2 b3 b4 g0 g1 p0 p1 p2
  refine ⟨σ, φ, fun _ _ => rfl, fun _ _ => rfl, ?_⟩
  refine ⟨sx_de0, sx_dr0, ?_, ?_, sx_nil, sx_nil⟩
  · exact sx_nil
  · exact sx_cons (by show PRp (σ 1 + 0) (σ 0 + 1) (σ 0 + 0) (σ 4 + 0) (σ 4 + 0) (σ 0 + 0) (φ 0) (φ 3) (φ 2); simpa only [Int.add_zero, Int.zero_add, hz] using r0) (sx_nil)
theorem sxL_prru_ok : sx_lemok sxPF sxL_prru := by
  intro σ φ h
  obtain ⟨h1, h2, h3, h4, h5, h6⟩ := h
  have hz : σ 0 = 0 := by
    have q : 0 ≤ σ 0 ∧ σ 0 ≤ 0 := h1 0 _ rfl
    omega
  have b1 : 0 ≤ σ 1 ∧ σ 1 ≤ 5 := h1 1 _ rfl
  have b2 : 0 ≤ σ 2 ∧ σ 2 ≤ 400 := h1 2 _ rfl
  have b3 : 0 ≤ σ 3 ∧ σ 3 ≤ 400 := h1 3 _ rfl
  have b4 : 0 ≤ σ 4 ∧ σ 4 ≤ 400 := h1 4 _ rfl
  have b5 : 0 ≤ σ 5 ∧ σ 5 ≤ 400 := h1 5 _ rfl
  have b6 : 0 ≤ σ 6 ∧ σ 6 ≤ 60 := h1 6 _ rfl
  have p0 : PRp (σ 1) (σ 2) (σ 3) (σ 4) (σ 5) (σ 6) (φ 0) (φ 1) (φ 2) := by
    have q : PRp (σ 1 + 0) (σ 2 + 0) (σ 3 + 0) (σ 4 + 0) (σ 5 + 0) (σ 6 + 0) (φ 0) (φ 1) (φ 2) := h4 _ (.head _)
    simpa only [Int.add_zero, hz, Int.zero_add] using q
  obtain r0 := lc_prru (σ 1) (σ 2) (σ 3) (σ 4) (σ 5) (σ 6) (φ 0) (φ 1) (φ 2) b1 b2 b3 b4 b5 b6 p0
  refine ⟨σ, φ, fun _ _ => rfl, fun _ _ => rfl, ?_⟩
  refine ⟨sx_de0, sx_dr0, ?_, ?_, sx_nil, sx_nil⟩
  · exact sx_nil
  · exact sx_cons (by show RUq (σ 1 + 0) (σ 5 + 0) (φ 0) (φ 1) (φ 2); simpa only [Int.add_zero, Int.zero_add, hz] using r0) (sx_nil)
theorem sxL_f1_ok : sx_lemok sxPF sxL_f1 := by
  intro σ φ h
  obtain ⟨h1, h2, h3, h4, h5, h6⟩ := h
  have hz : σ 0 = 0 := by
    have q : 0 ≤ σ 0 ∧ σ 0 ≤ 0 := h1 0 _ rfl
    omega
  have b1 : 0 ≤ σ 1 ∧ σ 1 ≤ 5 := h1 1 _ rfl
  have b2 : 0 ≤ σ 2 ∧ σ 2 ≤ 11 := h1 2 _ rfl
  have b3 : (-2147483648) ≤ σ 3 ∧ σ 3 ≤ 2147483647 := h1 3 _ rfl
  have b4 : 0 ≤ σ 4 ∧ σ 4 ≤ 400 := h1 4 _ rfl
  have b5 : 0 ≤ σ 5 ∧ σ 5 ≤ 400 := h1 5 _ rfl
  have b6 : 1 ≤ σ 6 ∧ σ 6 ≤ 1 := h1 6 _ rfl
  have g0 : 0 ≤ 1 * (σ 3) + (-48) * (σ 1) + (-4) * (σ 2) + 0 := by
    have q : 0 ≤ (1 * σ 3 + ((-48) * σ 1 + ((-4) * σ 2 + 0))) + 0 := h3 _ (.head _)
    omega
  have g1 : 0 ≤ (-1) * (σ 3) + 48 * (σ 1) + 4 * (σ 2) + 0 := by
    have q : 0 ≤ ((-1) * σ 3 + (48 * σ 1 + (4 * σ 2 + 0))) + 0 := h3 _ (.tail _ (.head _))
    omega
  have p0 : PRp (σ 1) 1 0 (σ 4) (σ 5) (σ 6) (φ 0) (φ 1) (φ 2) := by
    have q : PRp (σ 1 + 0) (σ 0 + 1) (σ 0 + 0) (σ 4 + 0) (σ 5 + 0) (σ 6 + 0) (φ 0) (φ 1) (φ 2) := h4 _ (.head _)
    simpa only [Int.add_zero, hz, Int.zero_add] using q
  have p1 : P5 (σ 1) (σ 2) (φ 2) := by
    have q : P5 (σ 1 + 0) (σ 2 + 0) (φ 2) := h4 _ (.tail _ (.head _))
    simpa only [Int.add_zero, hz, Int.zero_add] using q
  have p2 : P6 ((σ 3) + 1) (σ 5) (φ 1) (φ 3) := by
    have q : P6 (σ 3 + 1) (σ 5 + 0) (φ 1) (φ 3) := h4 _ (.tail _ (.tail _ (.head _)))
    simpa only [Int.add_zero, hz, Int.zero_add] using q
  have p3 : P6 ((σ 3) + 2) (-1) (φ 3) (φ 4) := by
    have q : P6 (σ 3 + 2) (σ 0 + -1) (φ 3) (φ 4) := h4 _ (.tail _ (.tail _ (.tail _ (.head _))))
    simpa only [Int.add_zero, hz, Int.zero_add] using q
  have p4 : P6 ((σ 3) + 2) (σ 5) (φ 4) (φ 5) := by
    have q : P6 (σ 3 + 2) (σ 5 + 0) (φ 4) (φ 5) := h4 _ (.tail _ (.tail _ (.tail _ (.tail _ (.head _)))))
    simpa only [Int.add_zero, hz, Int.zero_add] using q
  obtain r0 := lc_f1 (σ 1) (σ 2) (σ 3) (σ 4) (σ 5) (σ 6) (φ 0) (φ 1) (φ 2) (φ 3) (φ 4) (φ 5) b1 b2 b3 b4 b5 b6 g0 g1 p0 p1 p2 p3 p4
  refine ⟨σ, φ, fun _ _ => rfl, fun _ _ => rfl, ?_⟩
  refine ⟨sx_de0, sx_dr0, ?_, ?_, sx_nil, sx_nil⟩
  · exact sx_nil
  · exact sx_cons (by show PRp (σ 1 + 0) (σ 4 + 0) (σ 5 + 0) (σ 5 + 0) (σ 5 + 0) (σ 0 + 0) (φ 0) (φ 5) (φ 2); simpa only [Int.add_zero, Int.zero_add, hz] using r0) (sx_nil)
theorem sxL_fA_ok : sx_lemok sxPF sxL_fA := by
  intro σ φ h
  obtain ⟨h1, h2, h3, h4, h5, h6⟩ := h
  have hz : σ 0 = 0 := by
    have q : 0 ≤ σ 0 ∧ σ 0 ≤ 0 := h1 0 _ rfl
    omega
  have b1 : 0 ≤ σ 1 ∧ σ 1 ≤ 5 := h1 1 _ rfl
  have b2 : 0 ≤ σ 2 ∧ σ 2 ≤ 11 := h1 2 _ rfl
  have b3 : (-2147483648) ≤ σ 3 ∧ σ 3 ≤ 2147483647 := h1 3 _ rfl
  have b4 : 0 ≤ σ 4 ∧ σ 4 ≤ 400 := h1 4 _ rfl
  have b5 : 0 ≤ σ 5 ∧ σ 5 ≤ 400 := h1 5 _ rfl
  have b6 : 1 ≤ σ 6 ∧ σ 6 ≤ 1 := h1 6 _ rfl
  have g0 : 0 ≤ 1 * (σ 3) + (-48) * (σ 1) + (-4) * (σ 2) + 0 := by
    have q : 0 ≤ (1 * σ 3 + ((-48) * σ 1 + ((-4) * σ 2 + 0))) + 0 := h3 _ (.head _)
    omega
  have g1 : 0 ≤ (-1) * (σ 3) + 48 * (σ 1) + 4 * (σ 2) + 0 := by
    have q : 0 ≤ ((-1) * σ 3 + (48 * σ 1 + (4 * σ 2 + 0))) + 0 := h3 _ (.tail _ (.head _))
    omega
  have p0 : PRp (σ 1) 1 0 (σ 4) (σ 5) (σ 6) (φ 0) (φ 1) (φ 2) := by
    have q : PRp (σ 1 + 0) (σ 0 + 1) (σ 0 + 0) (σ 4 + 0) (σ 5 + 0) (σ 6 + 0) (φ 0) (φ 1) (φ 2) := h4 _ (.head _)
    simpa only [Int.add_zero, hz, Int.zero_add] using q
  have p1 : P5 (σ 1) (σ 2) (φ 2) := by
    have q : P5 (σ 1 + 0) (σ 2 + 0) (φ 2) := h4 _ (.tail _ (.head _))
    simpa only [Int.add_zero, hz, Int.zero_add] using q
  have p2 : P6 (σ 3) (σ 4) (φ 6) (φ 1) := by
    have q : P6 (σ 3 + 0) (σ 4 + 0) (φ 6) (φ 1) := h4 _ (.tail _ (.tail _ (.head _)))
    simpa only [Int.add_zero, hz, Int.zero_add] using q
  have p3 : P6 ((σ 3) + 1) (σ 5) (φ 1) (φ 3) := by
    have q : P6 (σ 3 + 1) (σ 5 + 0) (φ 1) (φ 3) := h4 _ (.tail _ (.tail _ (.tail _ (.head _))))
    simpa only [Int.add_zero, hz, Int.zero_add] using q
  have p4 : P6 ((σ 3) + 2) (-1) (φ 3) (φ 4) := by
    have q : P6 (σ 3 + 2) (σ 0 + -1) (φ 3) (φ 4) := h4 _ (.tail _ (.tail _ (.tail _ (.tail _ (.head _)))))
    simpa only [Int.add_zero, hz, Int.zero_add] using q
  have p5 : P6 ((σ 3) + 3) (σ 5) (φ 4) (φ 5) := by
    have q : P6 (σ 3 + 3) (σ 5 + 0) (φ 4) (φ 5) := h4 _ (.tail _ (.tail _ (.tail _ (.tail _ (.tail _ (.head _))))))
    simpa only [Int.add_zero, hz, Int.zero_add] using q
  have p6 : P6 (σ 1) ((σ 2) + 1) (φ 2) (φ 7) := by
    have q : P6 (σ 1 + 0) (σ 2 + 1) (φ 2) (φ 7) := h4 _ (.tail _ (.tail _ (.tail _ (.tail _ (.tail _ (.tail _ (.head _)))))))
    simpa only [Int.add_zero, hz, Int.zero_add] using q
  obtain r0 := lc_fA (σ 1) (σ 2) (σ 3) (σ 4) (σ 5) (σ 6) (φ 0) (φ 1) (φ 2) (φ 3) (φ 4) (φ 5) (φ 6) (φ 7) b1 b2 b3 b4 b5 b6 g0 g1 p0 p1 p2 p3 p4 p5 p6
  refine ⟨σ, φ, fun _ _ => rfl, fun _ _ => rfl, ?_⟩
  refine ⟨sx_de0, sx_dr0, ?_, ?_, sx_nil, sx_nil⟩
  · exact sx_nil
  · exact sx_cons (by show RUq (σ 1 + 0) (σ 5 + 0) (φ 0) (φ 5) (φ 7); simpa only [Int.add_zero, Int.zero_add, hz] using r0) (sx_nil)
theorem sxL_fB_ok : sx_lemok sxPF sxL_fB := by
  intro σ φ h
  obtain ⟨h1, h2, h3, h4, h5, h6⟩ := h
  have hz : σ 0 = 0 := by
    have q : 0 ≤ σ 0 ∧ σ 0 ≤ 0 := h1 0 _ rfl
    omega
  have b1 : 0 ≤ σ 1 ∧ σ 1 ≤ 5 := h1 1 _ rfl
  have b2 : 0 ≤ σ 2 ∧ σ 2 ≤ 11 := h1 2 _ rfl
  have b3 : (-2147483648) ≤ σ 3 ∧ σ 3 ≤ 2147483647 := h1 3 _ rfl
  have b4 : 0 ≤ σ 4 ∧ σ 4 ≤ 400 := h1 4 _ rfl
  have b5 : 0 ≤ σ 5 ∧ σ 5 ≤ 400 := h1 5 _ rfl
  have b6 : 0 ≤ σ 6 ∧ σ 6 ≤ 400 := h1 6 _ rfl
  have b7 : 1 ≤ σ 7 ∧ σ 7 ≤ 1 := h1 7 _ rfl
  have g0 : 0 ≤ 1 * (σ 3) + (-48) * (σ 1) + (-4) * (σ 2) + 0 := by
    have q : 0 ≤ (1 * σ 3 + ((-48) * σ 1 + ((-4) * σ 2 + 0))) + 0 := h3 _ (.head _)
    omega
  have g1 : 0 ≤ (-1) * (σ 3) + 48 * (σ 1) + 4 * (σ 2) + 0 := by
    have q : 0 ≤ ((-1) * σ 3 + (48 * σ 1 + (4 * σ 2 + 0))) + 0 := h3 _ (.tail _ (.head _))
    omega
  have g2 : 0 ≤ 1 * (σ 5) + (-1) * (σ 4) + 0 := by
    have q : 0 ≤ (1 * σ 5 + ((-1) * σ 4 + 0)) + 0 := h3 _ (.tail _ (.tail _ (.head _)))
    omega
  have p0 : PRp (σ 1) (σ 4) (σ 5) (σ 5) (σ 6) (σ 7) (φ 0) (φ 5) (φ 2) := by
    have q : PRp (σ 1 + 0) (σ 4 + 0) (σ 5 + 0) (σ 5 + 0) (σ 6 + 0) (σ 7 + 0) (φ 0) (φ 5) (φ 2) := h4 _ (.head _)
    simpa only [Int.add_zero, hz, Int.zero_add] using q
  have p1 : P5 (σ 1) (σ 2) (φ 2) := by
    have q : P5 (σ 1 + 0) (σ 2 + 0) (φ 2) := h4 _ (.tail _ (.head _))
    simpa only [Int.add_zero, hz, Int.zero_add] using q
  have p2 : P6 (σ 3) (σ 4) (φ 7) (φ 1) := by
    have q : P6 (σ 3 + 0) (σ 4 + 0) (φ 7) (φ 1) := h4 _ (.tail _ (.tail _ (.head _)))
    simpa only [Int.add_zero, hz, Int.zero_add] using q
  have p3 : P6 ((σ 3) + 1) (σ 5) (φ 1) (φ 3) := by
    have q : P6 (σ 3 + 1) (σ 5 + 0) (φ 1) (φ 3) := h4 _ (.tail _ (.tail _ (.tail _ (.head _))))
    simpa only [Int.add_zero, hz, Int.zero_add] using q
  have p4 : P6 ((σ 3) + 2) (-1) (φ 3) (φ 4) := by
    have q : P6 (σ 3 + 2) (σ 0 + -1) (φ 3) (φ 4) := h4 _ (.tail _ (.tail _ (.tail _ (.tail _ (.head _)))))
    simpa only [Int.add_zero, hz, Int.zero_add] using q
  have p5 : P6 ((σ 3) + 2) (σ 5) (φ 4) (φ 5) := by
    have q : P6 (σ 3 + 2) (σ 5 + 0) (φ 4) (φ 5) := h4 _ (.tail _ (.tail _ (.tail _ (.tail _ (.tail _ (.head _))))))
    simpa only [Int.add_zero, hz, Int.zero_add] using q
  have p6 : P6 ((σ 3) + 3) (σ 6) (φ 5) (φ 6) := by
    have q : P6 (σ 3 + 3) (σ 6 + 0) (φ 5) (φ 6) := h4 _ (.tail _ (.tail _ (.tail _ (.tail _ (.tail _ (.tail _ (.head _)))))))
    simpa only [Int.add_zero, hz, Int.zero_add] using q
  have p7 : P6 (σ 1) ((σ 2) + 1) (φ 2) (φ 8) := by
    have q : P6 (σ 1 + 0) (σ 2 + 1) (φ 2) (φ 8) := h4 _ (.tail _ (.tail _ (.tail _ (.tail _ (.tail _ (.tail _ (.tail _ (.head _))))))))
    simpa only [Int.add_zero, hz, Int.zero_add] using q
  obtain r0 := lc_fB (σ 1) (σ 2) (σ 3) (σ 4) (σ 5) (σ 6) (σ 7) (φ 0) (φ 1) (φ 2) (φ 3) (φ 4) (φ 5) (φ 6) (φ 7) (φ 8) b1 b2 b3 b4 b5 b6 b7 g0 g1 g2 p0 p1 p2 p3 p4 p5 p6 p7
  refine ⟨σ, φ, fun _ _ => rfl, fun _ _ => rfl, ?_⟩
  refine ⟨sx_de0, sx_dr0, ?_, ?_, sx_nil, sx_nil⟩
  · exact sx_nil
  · exact sx_cons (by show RUq (σ 1 + 0) (σ 6 + 0) (φ 0) (φ 6) (φ 8); simpa only [Int.add_zero, Int.zero_add, hz] using r0) (sx_nil)
theorem sxL_up5_ok : sx_lemok sxPF sxL_up5 := by
  intro σ φ h
  obtain ⟨h1, h2, h3, h4, h5, h6⟩ := h
  have hz : σ 0 = 0 := by
    have q : 0 ≤ σ 0 ∧ σ 0 ≤ 0 := h1 0 _ rfl
    omega
  have b1 : (-2147483648) ≤ σ 1 ∧ σ 1 ≤ 2147483647 := h1 1 _ rfl
  have b2 : (-2147483648) ≤ σ 2 ∧ σ 2 ≤ 2147483647 := h1 2 _ rfl
  have p0 : P6 (σ 1) (σ 2) (φ 0) (φ 1) := by
    have q : P6 (σ 1 + 0) (σ 2 + 0) (φ 0) (φ 1) := h4 _ (.head _)
    simpa only [Int.add_zero, hz, Int.zero_add] using q
  obtain r0 := lc_up5 (σ 1) (σ 2) (φ 0) (φ 1) b1 b2 p0
  refine ⟨σ, φ, fun _ _ => rfl, fun _ _ => rfl, ?_⟩
  refine ⟨sx_de0, sx_dr0, ?_, ?_, sx_nil, sx_nil⟩
  · exact sx_nil
  · exact sx_cons (by show P5 (σ 1 + 0) (σ 2 + 0) (φ 1); simpa only [Int.add_zero, Int.zero_add, hz] using r0) (sx_nil)
theorem sxL_roa_ok : sx_lemok sxPF sxL_roa := by
  intro σ φ h
  obtain ⟨h1, h2, h3, h4, h5, h6⟩ := h
  have hz : σ 0 = 0 := by
    have q : 0 ≤ σ 0 ∧ σ 0 ≤ 0 := h1 0 _ rfl
    omega
  have b1 : 0 ≤ σ 1 ∧ σ 1 ≤ 7 := h1 1 _ rfl
  have b2 : 0 ≤ σ 2 ∧ σ 2 ≤ 8 := h1 2 _ rfl
  have b3 : 0 ≤ σ 3 ∧ σ 3 ≤ 2 := h1 3 _ rfl
  have b4 : (-2147483648) ≤ σ 4 ∧ σ 4 ≤ 2147483647 := h1 4 _ rfl
  have p0 : ROp (σ 1) (σ 2) (φ 0) := by
    have q : ROp (σ 1 + 0) (σ 2 + 0) (φ 0) := h4 _ (.head _)
    simpa only [Int.add_zero, hz, Int.zero_add] using q
  have p1 : P6 (σ 3) (σ 4) (φ 0) (φ 1) := by
    have q : P6 (σ 3 + 0) (σ 4 + 0) (φ 0) (φ 1) := h4 _ (.tail _ (.head _))
    simpa only [Int.add_zero, hz, Int.zero_add] using q
  obtain r0 := lc_roa (σ 1) (σ 2) (σ 3) (σ 4) (φ 0) (φ 1) b1 b2 b3 b4 p0 p1
  refine ⟨σ, φ, fun _ _ => rfl, fun _ _ => rfl, ?_⟩
  refine ⟨sx_de0, sx_dr0, ?_, ?_, sx_nil, sx_nil⟩
  · exact sx_nil
  · exact sx_cons (by show ROp (σ 1 + 0) (σ 2 + 0) (φ 1); simpa only [Int.add_zero, Int.zero_add, hz] using r0) (sx_nil)
theorem sxL_rob_ok : sx_lemok sxPF sxL_rob := by
  intro σ φ h
  obtain ⟨h1, h2, h3, h4, h5, h6⟩ := h
  have hz : σ 0 = 0 := by
    have q : 0 ≤ σ 0 ∧ σ 0 ≤ 0 := h1 0 _ rfl
    omega
  have b1 : 0 ≤ σ 1 ∧ σ 1 ≤ 7 := h1 1 _ rfl
  have b2 : 0 ≤ σ 2 ∧ σ 2 ≤ 8 := h1 2 _ rfl
  have b3 : 39 ≤ σ 3 ∧ σ 3 ≤ 52 := h1 3 _ rfl
  have b4 : (-2147483648) ≤ σ 4 ∧ σ 4 ≤ 2147483647 := h1 4 _ rfl
  have p0 : ROp (σ 1) (σ 2) (φ 0) := by
    have q : ROp (σ 1 + 0) (σ 2 + 0) (φ 0) := h4 _ (.head _)
    simpa only [Int.add_zero, hz, Int.zero_add] using q
  have p1 : P6 (σ 3) (σ 4) (φ 0) (φ 1) := by
    have q : P6 (σ 3 + 0) (σ 4 + 0) (φ 0) (φ 1) := h4 _ (.tail _ (.head _))
    simpa only [Int.add_zero, hz, Int.zero_add] using q
  obtain r0 := lc_rob (σ 1) (σ 2) (σ 3) (σ 4) (φ 0) (φ 1) b1 b2 b3 b4 p0 p1
  refine ⟨σ, φ, fun _ _ => rfl, fun _ _ => rfl, ?_⟩
  refine ⟨sx_de0, sx_dr0, ?_, ?_, sx_nil, sx_nil⟩
  · exact sx_nil
  · exact sx_cons (by show ROp (σ 1 + 0) (σ 2 + 0) (φ 1); simpa only [Int.add_zero, Int.zero_add, hz] using r0) (sx_nil)
theorem sxL_roc_ok : sx_lemok sxPF sxL_roc := by
  intro σ φ h
  obtain ⟨h1, h2, h3, h4, h5, h6⟩ := h
  have hz : σ 0 = 0 := by
    have q : 0 ≤ σ 0 ∧ σ 0 ≤ 0 := h1 0 _ rfl
    omega
  have b1 : 0 ≤ σ 1 ∧ σ 1 ≤ 7 := h1 1 _ rfl
  have b2 : 0 ≤ σ 2 ∧ σ 2 ≤ 8 := h1 2 _ rfl
  have b3 : 53 ≤ σ 3 ∧ σ 3 ≤ 76 := h1 3 _ rfl
  have b4 : (-2147483648) ≤ σ 4 ∧ σ 4 ≤ 2147483647 := h1 4 _ rfl
  have g0 : 0 ≤ 1 * (σ 3) + (-3) * (σ 2) + (-53) := by
    have q : 0 ≤ (1 * σ 3 + ((-3) * σ 2 + 0)) + (-53) := h3 _ (.head _)
    omega
  have p0 : ROp (σ 1) (σ 2) (φ 0) := by
    have q : ROp (σ 1 + 0) (σ 2 + 0) (φ 0) := h4 _ (.head _)
    simpa only [Int.add_zero, hz, Int.zero_add] using q
  have p1 : P6 (σ 3) (σ 4) (φ 0) (φ 1) := by
    have q : P6 (σ 3 + 0) (σ 4 + 0) (φ 0) (φ 1) := h4 _ (.tail _ (.head _))
    simpa only [Int.add_zero, hz, Int.zero_add] using q
  obtain r0 := lc_roc (σ 1) (σ 2) (σ 3) (σ 4) (φ 0) (φ 1) b1 b2 b3 b4 g0 p0 p1
  refine ⟨σ, φ, fun _ _ => rfl, fun _ _ => rfl, ?_⟩
  refine ⟨sx_de0, sx_dr0, ?_, ?_, sx_nil, sx_nil⟩
  · exact sx_nil
  · exact sx_cons (by show ROp (σ 1 + 0) (σ 2 + 0) (φ 1); simpa only [Int.add_zero, Int.zero_add, hz] using r0) (sx_nil)
theorem sxL_ro3_ok : sx_lemok sxPF sxL_ro3 := by
  intro σ φ h
  obtain ⟨h1, h2, h3, h4, h5, h6⟩ := h
  have hz : σ 0 = 0 := by
    have q : 0 ≤ σ 0 ∧ σ 0 ≤ 0 := h1 0 _ rfl
    omega
  have b1 : 0 ≤ σ 1 ∧ σ 1 ≤ 7 := h1 1 _ rfl
  have b2 : 0 ≤ σ 2 ∧ σ 2 ≤ 8 := h1 2 _ rfl
  have b3 : (-2147483648) ≤ σ 3 ∧ σ 3 ≤ 2147483647 := h1 3 _ rfl
  have p0 : ROp (σ 1) (σ 2) (φ 0) := by
    have q : ROp (σ 1 + 0) (σ 2 + 0) (φ 0) := h4 _ (.head _)
    simpa only [Int.add_zero, hz, Int.zero_add] using q
  have p1 : P5 3 (σ 3) (φ 0) := by
    have q : P5 (σ 0 + 3) (σ 3 + 0) (φ 0) := h4 _ (.tail _ (.head _))
    simpa only [Int.add_zero, hz, Int.zero_add] using q
  obtain ⟨r0, r1⟩ := lc_ro3 (σ 1) (σ 2) (σ 3) (φ 0) b1 b2 b3 p0 p1
  refine ⟨σ, φ, fun _ _ => rfl, fun _ _ => rfl, ?_⟩
  refine ⟨sx_de0, sx_dr0, ?_, ?_, sx_nil, sx_nil⟩
  · exact sx_cons (by show 0 ≤ (1 * σ 3 + ((-1) * σ 1 + 0)) + 0; have q := r0; omega) (sx_cons (by show 0 ≤ ((-1) * σ 3 + (1 * σ 1 + 0)) + 0; have q := r1; omega) (sx_nil))
  · exact sx_nil
theorem sxL_ro4_ok : sx_lemok sxPF sxL_ro4 := by
  intro σ φ h
  obtain ⟨h1, h2, h3, h4, h5, h6⟩ := h
  have hz : σ 0 = 0 := by
    have q : 0 ≤ σ 0 ∧ σ 0 ≤ 0 := h1 0 _ rfl
    omega
  have b1 : 0 ≤ σ 1 ∧ σ 1 ≤ 7 := h1 1 _ rfl
  have b2 : 0 ≤ σ 2 ∧ σ 2 ≤ 8 := h1 2 _ rfl
  have b3 : (-2147483648) ≤ σ 3 ∧ σ 3 ≤ 2147483647 := h1 3 _ rfl
  have p0 : ROp (σ 1) (σ 2) (φ 0) := by
    have q : ROp (σ 1 + 0) (σ 2 + 0) (φ 0) := h4 _ (.head _)
    simpa only [Int.add_zero, hz, Int.zero_add] using q
  have p1 : P5 4 (σ 3) (φ 0) := by
    have q : P5 (σ 0 + 4) (σ 3 + 0) (φ 0) := h4 _ (.tail _ (.head _))
    simpa only [Int.add_zero, hz, Int.zero_add] using q
  obtain ⟨r0, r1, r2, r3⟩ := lc_ro4 (σ 1) (σ 2) (σ 3) (φ 0) b1 b2 b3 p0 p1
  refine ⟨σ, φ, fun _ _ => rfl, fun _ _ => rfl, ?_⟩
  refine ⟨sx_de0, sx_dr0, ?_, ?_, sx_nil, sx_nil⟩
  · exact sx_cons (by show 0 ≤ (1 * σ 3 + ((-1) * σ 2 + 0)) + 0; have q := r0; omega) (sx_cons (by show 0 ≤ ((-1) * σ 3 + (1 * σ 2 + 0)) + 0; have q := r1; omega) (sx_cons (by show 0 ≤ (3 * σ 3 + ((-3) * σ 2 + 0)) + 0; have q := r2; omega) (sx_cons (by show 0 ≤ ((-3) * σ 3 + (3 * σ 2 + 0)) + 0; have q := r3; omega) (sx_nil))))
  · exact sx_nil
theorem sxL_ron_ok : sx_lemok sxPF sxL_ron := by
  intro σ φ h
  obtain ⟨h1, h2, h3, h4, h5, h6⟩ := h
  have hz : σ 0 = 0 := by
    have q : 0 ≤ σ 0 ∧ σ 0 ≤ 0 := h1 0 _ rfl
    omega
  have b1 : 0 ≤ σ 1 ∧ σ 1 ≤ 6 := h1 1 _ rfl
  have b2 : 0 ≤ σ 2 ∧ σ 2 ≤ 8 := h1 2 _ rfl
  have b3 : (-2147483648) ≤ σ 3 ∧ σ 3 ≤ 2147483647 := h1 3 _ rfl
  have g0 : 0 ≤ 1 * (σ 3) + (-1) * (σ 1) + 0 := by
    have q : 0 ≤ (1 * σ 3 + ((-1) * σ 1 + 0)) + 0 := h3 _ (.head _)
    omega
  have g1 : 0 ≤ (-1) * (σ 3) + 1 * (σ 1) + 0 := by
    have q : 0 ≤ ((-1) * σ 3 + (1 * σ 1 + 0)) + 0 := h3 _ (.tail _ (.head _))
    omega
  have p0 : ROp (σ 1) (σ 2) (φ 0) := by
    have q : ROp (σ 1 + 0) (σ 2 + 0) (φ 0) := h4 _ (.head _)
    simpa only [Int.add_zero, hz, Int.zero_add] using q
  have p1 : P6 3 ((σ 3) + 1) (φ 0) (φ 1) := by
    have q : P6 (σ 0 + 3) (σ 3 + 1) (φ 0) (φ 1) := h4 _ (.tail _ (.head _))
    simpa only [Int.add_zero, hz, Int.zero_add] using q
  obtain r0 := lc_ron (σ 1) (σ 2) (σ 3) (φ 0) (φ 1) b1 b2 b3 g0 g1 p0 p1
  refine ⟨σ, φ, fun _ _ => rfl, fun _ _ => rfl, ?_⟩
  refine ⟨sx_de0, sx_dr0, ?_, ?_, sx_nil, sx_nil⟩
  · exact sx_nil
  · exact sx_cons (by show ROp (σ 1 + 1) (σ 2 + 0) (φ 1); simpa only [Int.add_zero, Int.zero_add, hz] using r0) (sx_nil)
theorem sxL_rom_ok : sx_lemok sxPF sxL_rom := by
  intro σ φ h
  obtain ⟨h1, h2, h3, h4, h5, h6⟩ := h
  have hz : σ 0 = 0 := by
    have q : 0 ≤ σ 0 ∧ σ 0 ≤ 0 := h1 0 _ rfl
    omega
  have b1 : 0 ≤ σ 1 ∧ σ 1 ≤ 7 := h1 1 _ rfl
  have b2 : 0 ≤ σ 2 ∧ σ 2 ≤ 7 := h1 2 _ rfl
  have b3 : (-2147483648) ≤ σ 3 ∧ σ 3 ≤ 2147483647 := h1 3 _ rfl
  have b4 : (-2147483648) ≤ σ 4 ∧ σ 4 ≤ 2147483647 := h1 4 _ rfl
  have b5 : 0 ≤ σ 5 ∧ σ 5 ≤ 6 := h1 5 _ rfl
  have b6 : 0 ≤ σ 6 ∧ σ 6 ≤ 6 := h1 6 _ rfl
  have g0 : 0 ≤ 1 * (σ 3) + (-1) * (σ 2) + 0 := by
    have q : 0 ≤ (1 * σ 3 + ((-1) * σ 2 + 0)) + 0 := h3 _ (.head _)
    omega
  have g1 : 0 ≤ (-1) * (σ 3) + 1 * (σ 2) + 0 := by
    have q : 0 ≤ ((-1) * σ 3 + (1 * σ 2 + 0)) + 0 := h3 _ (.tail _ (.head _))
    omega
  have g2 : 0 ≤ 1 * (σ 4) + (-3) * (σ 2) + (-53) := by
    have q : 0 ≤ (1 * σ 4 + ((-3) * σ 2 + 0)) + (-53) := h3 _ (.tail _ (.tail _ (.head _)))
    omega
  have g3 : 0 ≤ (-1) * (σ 4) + 3 * (σ 2) + 53 := by
    have q : 0 ≤ ((-1) * σ 4 + (3 * σ 2 + 0)) + 53 := h3 _ (.tail _ (.tail _ (.tail _ (.head _))))
    omega
  have g4 : 0 ≤ 1 * (σ 1) + (-1) * (σ 5) + (-1) := by
    have q : 0 ≤ (1 * σ 1 + ((-1) * σ 5 + 0)) + (-1) := h3 _ (.tail _ (.tail _ (.tail _ (.tail _ (.head _)))))
    omega
  have g5 : 0 ≤ 1 * (σ 1) + (-1) * (σ 6) + (-1) := by
    have q : 0 ≤ (1 * σ 1 + ((-1) * σ 6 + 0)) + (-1) := h3 _ (.tail _ (.tail _ (.tail _ (.tail _ (.tail _ (.head _))))))
    omega
  have p0 : ROp (σ 1) (σ 2) (φ 2) := by
    have q : ROp (σ 1 + 0) (σ 2 + 0) (φ 2) := h4 _ (.head _)
    simpa only [Int.add_zero, hz, Int.zero_add] using q
  have p1 : P6 ((σ 4) + 1) (σ 5) (φ 0) (φ 1) := by
    have q : P6 (σ 4 + 1) (σ 5 + 0) (φ 0) (φ 1) := h4 _ (.tail _ (.head _))
    simpa only [Int.add_zero, hz, Int.zero_add] using q
  have p2 : P6 ((σ 4) + 2) (σ 6) (φ 1) (φ 2) := by
    have q : P6 (σ 4 + 2) (σ 6 + 0) (φ 1) (φ 2) := h4 _ (.tail _ (.tail _ (.head _)))
    simpa only [Int.add_zero, hz, Int.zero_add] using q
  have p3 : P6 4 ((σ 3) + 1) (φ 2) (φ 3) := by
    have q : P6 (σ 0 + 4) (σ 3 + 1) (φ 2) (φ 3) := h4 _ (.tail _ (.tail _ (.tail _ (.head _))))
    simpa only [Int.add_zero, hz, Int.zero_add] using q
  obtain r0 := lc_rom (σ 1) (σ 2) (σ 3) (σ 4) (σ 5) (σ 6) (φ 0) (φ 1) (φ 2) (φ 3) b1 b2 b3 b4 b5 b6 g0 g1 g2 g3 g4 g5 p0 p1 p2 p3
  refine ⟨σ, φ, fun _ _ => rfl, fun _ _ => rfl, ?_⟩
  refine ⟨sx_de0, sx_dr0, ?_, ?_, sx_nil, sx_nil⟩
  · exact sx_nil
  · exact sx_cons (by show ROp (σ 1 + 0) (σ 2 + 1) (φ 3); simpa only [Int.add_zero, Int.zero_add, hz] using r0) (sx_nil)
theorem sxL_zr0_ok : sx_lemok sxPF sxL_zr0 := by
  intro σ φ h
  obtain ⟨h1, h2, h3, h4, h5, h6⟩ := h
  have hz : σ 0 = 0 := by
    have q : 0 ≤ σ 0 ∧ σ 0 ≤ 0 := h1 0 _ rfl
    omega
  obtain r0 := lc_zr0 (φ 0)
  refine ⟨σ, φ, fun _ _ => rfl, fun _ _ => rfl, ?_⟩
  refine ⟨sx_de0, sx_dr0, ?_, ?_, sx_nil, sx_nil⟩
  · exact sx_nil
  · exact sx_cons (by show ZRp (σ 0 + 0) (φ 0); simpa only [Int.add_zero, Int.zero_add, hz] using r0) (sx_nil)
theorem sxL_zr1_ok : sx_lemok sxPF sxL_zr1 := by
  intro σ φ h
  obtain ⟨h1, h2, h3, h4, h5, h6⟩ := h
  have hz : σ 0 = 0 := by
    have q : 0 ≤ σ 0 ∧ σ 0 ≤ 0 := h1 0 _ rfl
    omega
  have b1 : 0 ≤ σ 1 ∧ σ 1 ≤ 76 := h1 1 _ rfl
  have p0 : ZRp (σ 1) (φ 0) := by
    have q : ZRp (σ 1 + 0) (φ 0) := h4 _ (.head _)
    simpa only [Int.add_zero, hz, Int.zero_add] using q
  have p1 : P6 (σ 1) 0 (φ 0) (φ 1) := by
    have q : P6 (σ 1 + 0) (σ 0 + 0) (φ 0) (φ 1) := h4 _ (.tail _ (.head _))
    simpa only [Int.add_zero, hz, Int.zero_add] using q
  obtain r0 := lc_zr1 (σ 1) (φ 0) (φ 1) b1 p0 p1
  refine ⟨σ, φ, fun _ _ => rfl, fun _ _ => rfl, ?_⟩
  refine ⟨sx_de0, sx_dr0, ?_, ?_, sx_nil, sx_nil⟩
  · exact sx_nil
  · exact sx_cons (by show ZRp (σ 1 + 1) (φ 1); simpa only [Int.add_zero, Int.zero_add, hz] using r0) (sx_nil)
theorem sxL_zre_ok : sx_lemok sxPF sxL_zre := by
  intro σ φ h
  obtain ⟨h1, h2, h3, h4, h5, h6⟩ := h
  have hz : σ 0 = 0 := by
    have q : 0 ≤ σ 0 ∧ σ 0 ≤ 0 := h1 0 _ rfl
    omega
  have b1 : 77 ≤ σ 1 ∧ σ 1 ≤ 77 := h1 1 _ rfl
  have p0 : ZRp (σ 1) (φ 0) := by
    have q : ZRp (σ 1 + 0) (φ 0) := h4 _ (.head _)
    simpa only [Int.add_zero, hz, Int.zero_add] using q
  obtain r0 := lc_zre (σ 1) (φ 0) b1 p0
  refine ⟨σ, φ, fun _ _ => rfl, fun _ _ => rfl, ?_⟩
  refine ⟨sx_de0, sx_dr0, ?_, ?_, sx_nil, sx_nil⟩
  · exact sx_nil
  · exact sx_cons (by show ROp (σ 0 + 0) (σ 0 + 0) (φ 0); simpa only [Int.add_zero, Int.zero_add, hz] using r0) (sx_nil)
theorem sxL_hs0_ok : sx_lemok sxPF sxL_hs0 := by
  intro σ φ h
  obtain ⟨h1, h2, h3, h4, h5, h6⟩ := h
  have hz : σ 0 = 0 := by
    have q : 0 ≤ σ 0 ∧ σ 0 ≤ 0 := h1 0 _ rfl
    omega
  obtain r0 := lc_hs0 (φ 0) (φ 1)
  refine ⟨σ, φ, fun _ _ => rfl, fun _ _ => rfl, ?_⟩
  refine ⟨sx_de0, sx_dr0, ?_, ?_, sx_nil, sx_nil⟩
  · exact sx_nil
  · exact sx_cons (by show HSp (σ 0 + 0) (φ 0) (φ 1); simpa only [Int.add_zero, Int.zero_add, hz] using r0) (sx_nil)
theorem sxL_hs1_ok : sx_lemok sxPF sxL_hs1 := by
  intro σ φ h
  obtain ⟨h1, h2, h3, h4, h5, h6⟩ := h
  have hz : σ 0 = 0 := by
    have q : 0 ≤ σ 0 ∧ σ 0 ≤ 0 := h1 0 _ rfl
    omega
  have b1 : 0 ≤ σ 1 ∧ σ 1 ≤ 76 := h1 1 _ rfl
  have b2 : (-2147483648) ≤ σ 2 ∧ σ 2 ≤ 2147483647 := h1 2 _ rfl
  have p0 : HSp (σ 1) (φ 0) (φ 1) := by
    have q : HSp (σ 1 + 0) (φ 0) (φ 1) := h4 _ (.head _)
    simpa only [Int.add_zero, hz, Int.zero_add] using q
  have p1 : P5 (σ 1) (σ 2) (φ 1) := by
    have q : P5 (σ 1 + 0) (σ 2 + 0) (φ 1) := h4 _ (.tail _ (.head _))
    simpa only [Int.add_zero, hz, Int.zero_add] using q
  have p2 : P6 (σ 1) (σ 2) (φ 0) (φ 2) := by
    have q : P6 (σ 1 + 0) (σ 2 + 0) (φ 0) (φ 2) := h4 _ (.tail _ (.tail _ (.head _)))
    simpa only [Int.add_zero, hz, Int.zero_add] using q
  obtain r0 := lc_hs1 (σ 1) (σ 2) (φ 0) (φ 1) (φ 2) b1 b2 p0 p1 p2
  refine ⟨σ, φ, fun _ _ => rfl, fun _ _ => rfl, ?_⟩
  refine ⟨sx_de0, sx_dr0, ?_, ?_, sx_nil, sx_nil⟩
  · exact sx_nil
  · exact sx_cons (by show HSp (σ 1 + 1) (φ 2) (φ 1); simpa only [Int.add_zero, Int.zero_add, hz] using r0) (sx_nil)
theorem sxL_hs2_ok : sx_lemok sxPF sxL_hs2 := by
  intro σ φ h
  obtain ⟨h1, h2, h3, h4, h5, h6⟩ := h
  have hz : σ 0 = 0 := by
    have q : 0 ≤ σ 0 ∧ σ 0 ≤ 0 := h1 0 _ rfl
    omega
  have b1 : 77 ≤ σ 1 ∧ σ 1 ≤ 107 := h1 1 _ rfl
  have p0 : HSp (σ 1) (φ 0) (φ 1) := by
    have q : HSp (σ 1 + 0) (φ 0) (φ 1) := h4 _ (.head _)
    simpa only [Int.add_zero, hz, Int.zero_add] using q
  have p1 : P6 (σ 1) 0 (φ 0) (φ 2) := by
    have q : P6 (σ 1 + 0) (σ 0 + 0) (φ 0) (φ 2) := h4 _ (.tail _ (.head _))
    simpa only [Int.add_zero, hz, Int.zero_add] using q
  obtain r0 := lc_hs2 (σ 1) (φ 0) (φ 1) (φ 2) b1 p0 p1
  refine ⟨σ, φ, fun _ _ => rfl, fun _ _ => rfl, ?_⟩
  refine ⟨sx_de0, sx_dr0, ?_, ?_, sx_nil, sx_nil⟩
  · exact sx_nil
  · exact sx_cons (by show HSp (σ 1 + 1) (φ 2) (φ 1); simpa only [Int.add_zero, Int.zero_add, hz] using r0) (sx_nil)
theorem sxL_hse_ok : sx_lemok sxPF sxL_hse := by
  intro σ φ h
  obtain ⟨h1, h2, h3, h4, h5, h6⟩ := h
  have hz : σ 0 = 0 := by
    have q : 0 ≤ σ 0 ∧ σ 0 ≤ 0 := h1 0 _ rfl
    omega
  have b1 : 108 ≤ σ 1 ∧ σ 1 ≤ 108 := h1 1 _ rfl
  have b2 : 0 ≤ σ 2 ∧ σ 2 ≤ 7 := h1 2 _ rfl
  have b3 : 0 ≤ σ 3 ∧ σ 3 ≤ 8 := h1 3 _ rfl
  have p0 : HSp (σ 1) (φ 0) (φ 1) := by
    have q : HSp (σ 1 + 0) (φ 0) (φ 1) := h4 _ (.head _)
    simpa only [Int.add_zero, hz, Int.zero_add] using q
  have p1 : ROp (σ 2) (σ 3) (φ 1) := by
    have q : ROp (σ 2 + 0) (σ 3 + 0) (φ 1) := h4 _ (.tail _ (.head _))
    simpa only [Int.add_zero, hz, Int.zero_add] using q
  obtain r0 := lc_hse (σ 1) (σ 2) (σ 3) (φ 0) (φ 1) b1 b2 b3 p0 p1
  refine ⟨σ, φ, fun _ _ => rfl, fun _ _ => rfl, ?_⟩
  refine ⟨sx_de0, sx_dr0, ?_, ?_, sx_nil, sx_nil⟩
  · exact sx_nil
  · exact sx_cons (by show SDp (σ 0 + 0) (σ 2 + 0) (σ 3 + 0) (φ 0); simpa only [Int.add_zero, Int.zero_add, hz] using r0) (sx_nil)
theorem sxL_rur_ok : sx_lemok sxPF sxL_rur := by
  intro σ φ h
  obtain ⟨h1, h2, h3, h4, h5, h6⟩ := h
  have hz : σ 0 = 0 := by
    have q : 0 ≤ σ 0 ∧ σ 0 ≤ 0 := h1 0 _ rfl
    omega
  have b1 : 0 ≤ σ 1 ∧ σ 1 ≤ 5 := h1 1 _ rfl
  have b2 : 0 ≤ σ 2 ∧ σ 2 ≤ 400 := h1 2 _ rfl
  have p0 : RUq (σ 1) (σ 2) (φ 0) (φ 1) (φ 2) := by
    have q : RUq (σ 1 + 0) (σ 2 + 0) (φ 0) (φ 1) (φ 2) := h4 _ (.head _)
    simpa only [Int.add_zero, hz, Int.zero_add] using q
  obtain r0 := lc_rur (σ 1) (σ 2) (φ 0) (φ 1) (φ 2) b1 b2 p0
  refine ⟨σ, φ, fun _ _ => rfl, fun _ _ => rfl, ?_⟩
  refine ⟨sx_de0, sx_dr0, ?_, ?_, sx_nil, sx_nil⟩
  · exact sx_nil
  · exact sx_cons (by show RUp (φ 0) (φ 1) (φ 2); exact r0) (sx_nil)
theorem sxL_ru2_ok : sx_lemok sxPF sxL_ru2 := by
  intro σ φ h
  obtain ⟨h1, h2, h3, h4, h5, h6⟩ := h
  have hz : σ 0 = 0 := by
    have q : 0 ≤ σ 0 ∧ σ 0 ≤ 0 := h1 0 _ rfl
    omega
  have b1 : 0 ≤ σ 1 ∧ σ 1 ≤ 5 := h1 1 _ rfl
  have p0 : RUp (φ 0) (φ 1) (φ 2) := by
    have q : RUp (φ 0) (φ 1) (φ 2) := h4 _ (.head _)
    exact q
  have p1 : P6 (σ 1) 0 (φ 2) (φ 3) := by
    have q : P6 (σ 1 + 0) (σ 0 + 0) (φ 2) (φ 3) := h4 _ (.tail _ (.head _))
    simpa only [Int.add_zero, hz, Int.zero_add] using q
  obtain r0 := lc_ru2 (σ 1) (φ 0) (φ 1) (φ 2) (φ 3) b1 p0 p1
  refine ⟨σ, φ, fun _ _ => rfl, fun _ _ => rfl, ?_⟩
  refine ⟨sx_de0, sx_dr0, ?_, ?_, sx_nil, sx_nil⟩
  · exact sx_nil
  · exact sx_cons (by show RUq (σ 1 + 0) (σ 0 + 0) (φ 0) (φ 1) (φ 3); simpa only [Int.add_zero, Int.zero_add, hz] using r0) (sx_nil)
theorem sxLT_ok : ∀ L ∈ sxLT, sx_lemok sxPF L := (sx_cons sxL_sxLa_ok (sx_cons sxL_rd3_ok (sx_cons sxL_rd4_ok (sx_cons sxL_rd107_ok (sx_cons sxL_rdon_ok (sx_cons sxL_rdnote_ok (sx_cons sxL_rdmix_ok (sx_cons sxL_uplo_ok (sx_cons sxL_uphi_ok (sx_cons sxL_up107_ok (sx_cons sxL_upn0_ok (sx_cons sxL_upn1_ok (sx_cons sxL_upn2_ok (sx_cons sxL_upon_ok (sx_cons sxL_swap_ok (sx_cons sxL_nf0_ok (sx_cons sxL_nf1_ok (sx_cons sxL_nfe_ok (sx_cons sxL_bt_ok (sx_cons sxL_btor_ok (sx_cons sxL_cp0_ok (sx_cons sxL_cp1_ok (sx_cons sxL_mk29_ok (sx_cons sxL_mk108_ok (sx_cons sxL_kpe_ok (sx_cons sxL_lbe_ok (sx_cons sxL_kae_ok (sx_cons sxL_ude_ok (sx_cons sxL_ime_ok (sx_cons sxL_bke_ok (sx_cons sxL_ws0_ok (sx_cons sxL_sh0_ok (sx_cons sxL_sh1_ok (sx_cons sxL_she_ok (sx_cons sxL_bg0_ok (sx_cons sxL_bg1_ok (sx_cons sxL_bg2_ok (sx_cons sxL_bge_ok (sx_cons sxL_rus_ok (sx_cons sxL_rut_ok (sx_cons sxL_de0_ok (sx_cons sxL_dn_ok (sx_cons sxL_dw_ok (sx_cons sxL_dt_ok (sx_cons sxL_do_ok (sx_cons sxL_dend_ok (sx_cons sxL_q9_ok (sx_cons sxL_or0_ok (sx_cons sxL_orv_ok (sx_cons sxL_or1_ok (sx_cons sxL_or2_ok (sx_cons sxL_or3_ok (sx_cons sxL_or4_ok (sx_cons sxL_orn_ok (sx_cons sxL_orx_ok (sx_cons sxL_sd0_ok (sx_cons sxL_pl0_ok (sx_cons sxL_plq_ok (sx_cons sxL_plp_ok (sx_cons sxL_pls_ok (sx_cons sxL_plo_ok (sx_cons sxL_lt1_ok (sx_cons sxL_lt2_ok (sx_cons sxL_lt3_ok (sx_cons sxL_lt4_ok (sx_cons sxL_lt5_ok (sx_cons sxL_dg1_ok (sx_cons sxL_dg2_ok (sx_cons sxL_dg3_ok (sx_cons sxL_dg4_ok (sx_cons sxL_dg5_ok (sx_cons sxL_lt6_ok (sx_cons sxL_pun_ok (sx_cons sxL_puw_ok (sx_cons sxL_put_ok (sx_cons sxL_puo_ok (sx_cons sxL_puq_ok (sx_cons sxL_op0_ok (sx_cons sxL_opn_ok (sx_cons sxL_opb_ok (sx_cons sxL_opa_ok (sx_cons sxL_oqa_ok (sx_cons sxL_oqn_ok (sx_cons sxL_oqi_ok (sx_cons sxL_oq0_ok (sx_cons sxL_oqp_ok (sx_cons sxL_ni0_ok (sx_cons sxL_ni1_ok (sx_cons sxL_nie_ok (sx_cons sxL_nii_ok (sx_cons sxL_f0_ok (sx_cons sxL_prru_ok (sx_cons sxL_f1_ok (sx_cons sxL_fA_ok (sx_cons sxL_fB_ok (sx_cons sxL_up5_ok (sx_cons sxL_roa_ok (sx_cons sxL_rob_ok (sx_cons sxL_roc_ok (sx_cons sxL_ro3_ok (sx_cons sxL_ro4_ok (sx_cons sxL_ron_ok (sx_cons sxL_rom_ok (sx_cons sxL_zr0_ok (sx_cons sxL_zr1_ok (sx_cons sxL_zre_ok (sx_cons sxL_hs0_ok (sx_cons sxL_hs1_ok (sx_cons sxL_hs2_ok (sx_cons sxL_hse_ok (sx_cons sxL_rur_ok (sx_cons sxL_ru2_ok sx_nil))))))))))))))))))))))))))))))))))))))))))))))))))))))))))))))))))))))))))))))))))))))))))))))))))))))))))))))))
