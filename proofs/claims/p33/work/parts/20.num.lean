/-! a checker of walks: numbers. An abstract number is a name and what is added to it; facts are intervals and linear forms that are not below 0 -/
abbrev sxV : Type := Nat → Int
abbrev sxT : Type := Nat × Int
abbrev sxE : Type := Int × Int
abbrev sxL : Type := List (Nat × Int) × Int
def sx_tv (σ : sxV) (t : sxT) : Int := σ t.1 + t.2
def sx_ev (σ : sxV) : List (Nat × Int) → Int
  | [] => 0
  | q :: l => q.2 * σ q.1 + sx_ev σ l
def sx_lev (σ : sxV) (l : sxL) : Int := sx_ev σ l.1 + l.2
def sx_le (a b : Int) : Bool := match b - a with
  | .ofNat _ => true
  | .negSucc _ => false
theorem sx_le_iff {a b : Int} : sx_le a b = true ↔ a ≤ b := by
  unfold sx_le
  constructor
  · intro h
    cases hc : b - a with
    | ofNat n =>
      have h0 : (0 : Int) ≤ Int.ofNat n := Int.natCast_nonneg n
      omega
    | negSucc n => rw [hc] at h; cases h
  · intro h
    cases hc : b - a with
    | ofNat n => rfl
    | negSucc n => omega
theorem sx_le_not {a b : Int} (h : sx_le a b = false) : b < a := by
  have : ¬ a ≤ b := fun q => by rw [sx_le_iff.mpr q] at h; cases h
  omega
def sx_min (a b : Int) : Int := if sx_le a b then a else b
def sx_max (a b : Int) : Int := if sx_le a b then b else a
theorem sx_min_le {a b : Int} : sx_min a b ≤ a ∧ sx_min a b ≤ b := by
  unfold sx_min
  cases h : sx_le a b with
  | true => exact ⟨Int.le_refl _, sx_le_iff.mp h⟩
  | false => exact ⟨Int.le_of_lt (sx_le_not h), Int.le_refl _⟩
theorem sx_le_max {a b : Int} : a ≤ sx_max a b ∧ b ≤ sx_max a b := by
  unfold sx_max
  cases h : sx_le a b with
  | true => exact ⟨sx_le_iff.mp h, Int.le_refl _⟩
  | false => exact ⟨Int.le_refl _, Int.le_of_lt (sx_le_not h)⟩
theorem sx_min_or {a b x : Int} (h1 : x ≤ a) (h2 : x ≤ b) : x ≤ sx_min a b := by
  unfold sx_min
  cases sx_le a b <;> simp [*]
theorem sx_max_or {a b x : Int} (h1 : a ≤ x) (h2 : b ≤ x) : sx_max a b ≤ x := by
  unfold sx_max
  cases sx_le a b <;> simp [*]
/-- the least and the greatest of a linear form's part -/
def sx_lb (es : List sxE) : List (Nat × Int) → Option Int
  | [] => some 0
  | q :: l => match es[q.1]?, sx_lb es l with
    | some e, some z => some (q.2 * (if sx_le 0 q.2 then e.1 else e.2) + z)
    | _, _ => none
def sx_ub (es : List sxE) : List (Nat × Int) → Option Int
  | [] => some 0
  | q :: l => match es[q.1]?, sx_ub es l with
    | some e, some z => some (q.2 * (if sx_le 0 q.2 then e.2 else e.1) + z)
    | _, _ => none
/-- the intervals alone -/
def sx_I (es : List sxE) (σ : sxV) : Prop := ∀ (i : Nat) (e : sxE), es[i]? = some e → e.1 ≤ σ i ∧ σ i ≤ e.2
theorem sx_lb_ok {es : List sxE} {σ : sxV} (h : sx_I es σ) : ∀ (l : List (Nat × Int)) (z : Int), sx_lb es l = some z → z ≤ sx_ev σ l
  | [], z, hz => by cases hz; exact Int.le_refl 0
  | q :: l, z, hz => by
    unfold sx_lb at hz
    cases he : es[q.1]? with
    | none => rw [he] at hz; simp at hz
    | some e =>
      cases hl : sx_lb es l with
      | none => rw [he, hl] at hz; simp at hz
      | some z' =>
        rw [he, hl] at hz
        have hz' := Option.some.inj hz
        have ih := sx_lb_ok h l z' hl
        obtain ⟨h1, h2⟩ := h _ _ he
        have key : q.2 * (if sx_le 0 q.2 then e.1 else e.2) ≤ q.2 * σ q.1 := by
          cases hc : sx_le 0 q.2 with
          | true => exact Int.mul_le_mul_of_nonneg_left h1 (sx_le_iff.mp hc)
          | false => exact Int.mul_le_mul_of_nonpos_left (Int.le_of_lt (sx_le_not hc)) h2
        show z ≤ q.2 * σ q.1 + sx_ev σ l
        rw [← hz']
        exact Int.add_le_add key ih
theorem sx_ub_ok {es : List sxE} {σ : sxV} (h : sx_I es σ) : ∀ (l : List (Nat × Int)) (z : Int), sx_ub es l = some z → sx_ev σ l ≤ z
  | [], z, hz => by cases hz; exact Int.le_refl 0
  | q :: l, z, hz => by
    unfold sx_ub at hz
    cases he : es[q.1]? with
    | none => rw [he] at hz; simp at hz
    | some e =>
      cases hl : sx_ub es l with
      | none => rw [he, hl] at hz; simp at hz
      | some z' =>
        rw [he, hl] at hz
        have hz' := Option.some.inj hz
        have ih := sx_ub_ok h l z' hl
        obtain ⟨h1, h2⟩ := h _ _ he
        have key : q.2 * σ q.1 ≤ q.2 * (if sx_le 0 q.2 then e.2 else e.1) := by
          cases hc : sx_le 0 q.2 with
          | true => exact Int.mul_le_mul_of_nonneg_left h2 (sx_le_iff.mp hc)
          | false => exact Int.mul_le_mul_of_nonpos_left (Int.le_of_lt (sx_le_not hc)) h1
        show q.2 * σ q.1 + sx_ev σ l ≤ z
        rw [← hz']
        exact Int.add_le_add key ih
def sx_ins (i : Nat) (c : Int) : List (Nat × Int) → List (Nat × Int)
  | [] => [(i, c)]
  | q :: l => if Nat.beq q.1 i then (i, q.2 + c) :: l else q :: sx_ins i c l
theorem sx_ins_ev (σ : sxV) (i : Nat) (c : Int) : ∀ l, sx_ev σ (sx_ins i c l) = c * σ i + sx_ev σ l
  | [] => rfl
  | q :: l => by
    unfold sx_ins
    cases h : Nat.beq q.1 i with
    | true =>
      have hq : q.1 = i := Nat.eq_of_beq_eq_true h
      show (q.2 + c) * σ i + sx_ev σ l = c * σ i + (q.2 * σ q.1 + sx_ev σ l)
      rw [hq, Int.add_mul]
      omega
    | false =>
      show q.2 * σ q.1 + sx_ev σ (sx_ins i c l) = c * σ i + (q.2 * σ q.1 + sx_ev σ l)
      rw [sx_ins_ev σ i c l]
      omega
/-- k times the first, and the second -/
def sx_add (k : Int) : List (Nat × Int) → List (Nat × Int) → List (Nat × Int)
  | [], b => b
  | q :: a, b => sx_add k a (sx_ins q.1 (k * q.2) b)
theorem sx_add_ev (σ : sxV) (k : Int) : ∀ a b, sx_ev σ (sx_add k a b) = k * sx_ev σ a + sx_ev σ b
  | [], b => by show sx_ev σ b = k * 0 + sx_ev σ b; omega
  | q :: a, b => by
    show sx_ev σ (sx_add k a (sx_ins q.1 (k * q.2) b)) = k * (q.2 * σ q.1 + sx_ev σ a) + sx_ev σ b
    rw [sx_add_ev σ k a, sx_ins_ev, Int.mul_add, Int.mul_assoc]
    omega
def sx_ge (es : List sxE) (g : sxL) : Bool := match sx_lb es g.1 with
  | some z => sx_le 0 (z + g.2)
  | none => false
theorem sx_ge_ok {es : List sxE} {σ : sxV} (h : sx_I es σ) {g : sxL} (hg : sx_ge es g = true) : 0 ≤ sx_lev σ g := by
  unfold sx_ge at hg
  cases hz : sx_lb es g.1 with
  | none => rw [hz] at hg; cases hg
  | some z =>
    rw [hz] at hg
    have h1 := sx_le_iff.mp hg
    have h2 := sx_lb_ok h _ _ hz
    unfold sx_lev
    omega
def sx_sub (g f : sxL) : sxL := (sx_add (-1) f.1 g.1, g.2 - f.2)
theorem sx_sub_ev (σ : sxV) (g f : sxL) : sx_lev σ (sx_sub g f) = sx_lev σ g - sx_lev σ f := by
  unfold sx_lev sx_sub
  show sx_ev σ (sx_add (-1) f.1 g.1) + (g.2 - f.2) = _
  rw [sx_add_ev]
  omega
def sx_sg (c : Int) : Nat := match c with
  | .ofNat 0 => 0
  | .ofNat _ => 1
  | .negSucc _ => 2
/-- a name that both have, on one side -/
def sx_shares (g f : List (Nat × Int)) : Bool := g.any (fun q => !(Nat.beq q.1 0) && !(Nat.beq (sx_sg q.2) 0) && f.any (fun r => Nat.beq r.1 q.1 && Nat.beq (sx_sg r.2) (sx_sg q.2)))
def sx_bare (g : List (Nat × Int)) : Bool := g.all (fun q => Nat.beq q.1 0 || Nat.beq (sx_sg q.2) 0)
def sx_prove2 (es : List sxE) (fs : List sxL) (g : sxL) : Bool := fs.any (fun f => sx_shares g.1 f.1 && sx_ge es (sx_sub g f))
def sx_prove1 (es : List sxE) (fs : List sxL) (g : sxL) : Bool := sx_ge es g || sx_prove2 es fs g
/-- g is not below 0: by the intervals, by a fact, by two facts -/
def sx_prove (es : List sxE) (fs : List sxL) (g : sxL) : Bool := sx_ge es g || fs.any (fun f => (sx_bare g.1 || sx_shares g.1 f.1) && sx_prove1 es fs (sx_sub g f))
theorem sx_prove_ok {es : List sxE} {fs : List sxL} {σ : sxV} (h : sx_I es σ) (hf : ∀ f ∈ fs, 0 ≤ sx_lev σ f) {g : sxL} (hg : sx_prove es fs g = true) : 0 ≤ sx_lev σ g := by
  unfold sx_prove at hg
  rw [Bool.or_eq_true] at hg
  rcases hg with h1 | h1
  · exact sx_ge_ok h h1
  · obtain ⟨f, hm, h2⟩ := List.any_eq_true.mp h1
    rw [Bool.and_eq_true] at h2
    have h2 := h2.2
    unfold sx_prove1 at h2
    rw [Bool.or_eq_true] at h2
    have hf1 := hf f hm
    rcases h2 with h2 | h2
    · have h3 := sx_ge_ok h h2
      rw [sx_sub_ev] at h3
      omega
    · unfold sx_prove2 at h2
      obtain ⟨f', hm', h4⟩ := List.any_eq_true.mp h2
      rw [Bool.and_eq_true] at h4
      have h3 := sx_ge_ok h h4.2
      rw [sx_sub_ev, sx_sub_ev] at h3
      have hf2 := hf f' hm'
      omega
/-- a fact makes intervals narrower: names whose number is 1 or -1 -/
def sx_nar1 (u : Int) (q : Nat × Int) (e : sxE) : sxE :=
  match q.2 with
  | .ofNat 1 => (sx_max e.1 (e.2 - u), e.2)
  | .negSucc 0 => (e.1, sx_min e.2 (e.1 + u))
  | _ => e
def sx_nar (es : List sxE) (u : Int) : List (Nat × Int) → List sxE → List sxE
  | [], o => o
  | q :: l, o => match es[q.1]? with
    | some e => sx_nar es u l (o.set q.1 (sx_nar1 u q e))
    | none => sx_nar es u l o
theorem sx_ev_rest {es : List sxE} {σ : sxV} (h : sx_I es σ) : ∀ (l : List (Nat × Int)) (z : Int), sx_ub es l = some z → ∀ q ∈ l, ∀ e, es[q.1]? = some e → sx_ev σ l ≤ z - q.2 * (if sx_le 0 q.2 then e.2 else e.1) + q.2 * σ q.1
  | [], _, _, q, hq, _, _ => by cases hq
  | r :: l, z, hz, q, hq, e, he => by
    unfold sx_ub at hz
    cases hr : es[r.1]? with
    | none => rw [hr] at hz; simp at hz
    | some e' =>
      cases hl : sx_ub es l with
      | none => rw [hr, hl] at hz; simp at hz
      | some z' =>
        rw [hr, hl] at hz
        have hz' := Option.some.inj hz
        show r.2 * σ r.1 + sx_ev σ l ≤ _
        rcases List.mem_cons.mp hq with rfl | hq
        · have h1 := sx_ub_ok h l z' hl
          have : e' = e := Option.some.inj (hr.symm.trans he)
          subst this
          omega
        · have ih := sx_ev_rest h l z' hl q hq e he
          obtain ⟨h1, h2⟩ := h _ _ hr
          have key : r.2 * σ r.1 ≤ r.2 * (if sx_le 0 r.2 then e'.2 else e'.1) := by
            cases hc : sx_le 0 r.2 with
            | true => exact Int.mul_le_mul_of_nonneg_left h2 (sx_le_iff.mp hc)
            | false => exact Int.mul_le_mul_of_nonpos_left (Int.le_of_lt (sx_le_not hc)) h1
          omega
theorem sx_nar1_ok {es : List sxE} {σ : sxV} (h : sx_I es σ) {f : sxL} {z : Int} (hz : sx_ub es f.1 = some z) (hf : 0 ≤ sx_lev σ f) {q : Nat × Int} (hq : q ∈ f.1) {e : sxE} (he : es[q.1]? = some e) :
    (sx_nar1 (z + f.2) q e).1 ≤ σ q.1 ∧ σ q.1 ≤ (sx_nar1 (z + f.2) q e).2 := by
  have hr := sx_ev_rest h f.1 z hz q hq e he
  obtain ⟨h1, h2⟩ := h _ _ he
  unfold sx_lev at hf
  unfold sx_nar1
  split
  · rename_i hc
    refine ⟨sx_max_or h1 ?_, h2⟩
    rw [hc] at hr
    have : (sx_le 0 (Int.ofNat 1)) = true := rfl
    rw [this] at hr
    simp only [if_true] at hr
    have e1 : (Int.ofNat 1) = 1 := rfl
    rw [e1] at hr
    omega
  · rename_i hc
    refine ⟨h1, sx_min_or h2 ?_⟩
    rw [hc] at hr
    have : (sx_le 0 (Int.negSucc 0)) = false := rfl
    rw [this] at hr
    have e1 : (Int.negSucc 0) = -1 := rfl
    rw [e1] at hr
    simp at hr
    omega
  · exact ⟨h1, h2⟩
theorem sx_nar_ok {es : List sxE} {σ : sxV} (h : sx_I es σ) {f : sxL} {z : Int} (hz : sx_ub es f.1 = some z) (hf : 0 ≤ sx_lev σ f) : ∀ (l : List (Nat × Int)) (o : List sxE), (∀ q ∈ l, q ∈ f.1) → sx_I o σ → sx_I (sx_nar es (z + f.2) l o) σ
  | [], o, _, ho => ho
  | q :: l, o, hm, ho => by
    unfold sx_nar
    cases he : es[q.1]? with
    | none => exact sx_nar_ok h hz hf l o (fun r hr => hm r (List.mem_cons_of_mem _ hr)) ho
    | some e =>
      refine sx_nar_ok h hz hf l _ (fun r hr => hm r (List.mem_cons_of_mem _ hr)) ?_
      intro i e' hi
      by_cases hq : q.1 = i
      · subst hq
        have hl : q.1 < o.length := by
          have := (List.getElem?_eq_some_iff.mp hi).1
          simpa using this
        rw [List.getElem?_set_self hl] at hi
        cases hi
        exact sx_nar1_ok h hz hf (hm q List.mem_cons_self) he
      · rw [List.getElem?_set_ne hq] at hi
        exact ho i e' hi
theorem sx_nar_len (es : List sxE) (u : Int) : ∀ (l : List (Nat × Int)) (o : List sxE), (sx_nar es u l o).length = o.length
  | [], _ => rfl
  | q :: l, o => by
    unfold sx_nar
    cases es[q.1]? with
    | none => exact sx_nar_len es u l o
    | some e => rw [sx_nar_len es u l]; simp
/-- a fact that can't hold -/
def sx_dead (es : List sxE) (f : sxL) : Bool := match sx_ub es f.1 with
  | some z => !(sx_le 0 (z + f.2))
  | none => false
theorem sx_dead_ok {es : List sxE} {σ : sxV} (h : sx_I es σ) {f : sxL} (hd : sx_dead es f = true) (hf : 0 ≤ sx_lev σ f) : False := by
  unfold sx_dead at hd
  cases hz : sx_ub es f.1 with
  | none => rw [hz] at hd; cases hd
  | some z =>
    rw [hz] at hd
    have h1 : sx_le 0 (z + f.2) = false := by simpa using hd
    have h2 := sx_le_not h1
    have h3 := sx_ub_ok h _ _ hz
    unfold sx_lev at hf
    omega
/-- a fact is taken in -/
def sx_asmE (es : List sxE) (f : sxL) : List sxE := match sx_ub es f.1 with
  | some z => sx_nar es (z + f.2) f.1 es
  | none => es
theorem sx_asmE_ok {es : List sxE} {σ : sxV} (h : sx_I es σ) {f : sxL} (hf : 0 ≤ sx_lev σ f) : sx_I (sx_asmE es f) σ := by
  unfold sx_asmE
  cases hz : sx_ub es f.1 with
  | none => exact h
  | some z => exact sx_nar_ok h hz hf f.1 es (fun _ q => q) h
theorem sx_asmE_len (es : List sxE) (f : sxL) : (sx_asmE es f).length = es.length := by
  unfold sx_asmE
  cases sx_ub es f.1 with
  | none => rfl
  | some z => exact sx_nar_len _ _ _ _
/-- intervals become narrower alone -/
def sx_sh (a b : List sxE) : Prop := ∀ (i : Nat) (e : sxE), b[i]? = some e → ∃ e', a[i]? = some e' ∧ e'.1 ≤ e.1 ∧ e.2 ≤ e'.2
theorem sx_nar1_sh (u : Int) (q : Nat × Int) (e : sxE) : e.1 ≤ (sx_nar1 u q e).1 ∧ (sx_nar1 u q e).2 ≤ e.2 := by
  unfold sx_nar1
  split
  · exact ⟨sx_le_max.1, Int.le_refl _⟩
  · exact ⟨Int.le_refl _, sx_min_le.1⟩
  · exact ⟨Int.le_refl _, Int.le_refl _⟩
theorem sx_nar_sh (es : List sxE) (u : Int) : ∀ (l : List (Nat × Int)) (o : List sxE), sx_sh es o → sx_sh es (sx_nar es u l o)
  | [], _, h => h
  | q :: l, o, h => by
    unfold sx_nar
    cases he : es[q.1]? with
    | none => exact sx_nar_sh es u l o h
    | some e =>
      refine sx_nar_sh es u l _ ?_
      intro i e' hi
      by_cases hq : q.1 = i
      · subst hq
        have hl : q.1 < o.length := by
          have := (List.getElem?_eq_some_iff.mp hi).1
          simpa using this
        rw [List.getElem?_set_self hl] at hi
        cases hi
        exact ⟨e, he, sx_nar1_sh u q e⟩
      · rw [List.getElem?_set_ne hq] at hi
        exact h i e' hi
theorem sx_asmE_sh (es : List sxE) (f : sxL) : sx_sh es (sx_asmE es f) := by
  unfold sx_asmE
  cases sx_ub es f.1 with
  | none => exact fun i e h => ⟨e, h, Int.le_refl _, Int.le_refl _⟩
  | some z => exact sx_nar_sh es _ _ es (fun i e h => ⟨e, h, Int.le_refl _, Int.le_refl _⟩)
/-- the interval of a term -/
def sx_iv (es : List sxE) (t : sxT) : Option (Int × Int) := match es[t.1]? with
  | some e => some (e.1 + t.2, e.2 + t.2)
  | none => none
theorem sx_iv_ok {es : List sxE} {σ : sxV} (h : sx_I es σ) {t : sxT} {a b : Int} (hi : sx_iv es t = some (a, b)) : a ≤ sx_tv σ t ∧ sx_tv σ t ≤ b := by
  unfold sx_iv at hi
  cases he : es[t.1]? with
  | none => rw [he] at hi; cases hi
  | some e =>
    rw [he] at hi
    cases hi
    obtain ⟨h1, h2⟩ := h _ _ he
    unfold sx_tv
    omega
/-- a - b + k as a linear form -/
def sx_dif (a b : sxT) (k : Int) : sxL := (sx_add (-1) [(b.1, 1)] [(a.1, 1)], a.2 - b.2 + k)
theorem sx_dif_ev (σ : sxV) (a b : sxT) (k : Int) : sx_lev σ (sx_dif a b k) = sx_tv σ a - sx_tv σ b + k := by
  unfold sx_lev sx_dif sx_tv
  show sx_ev σ (sx_add (-1) [(b.1, 1)] [(a.1, 1)]) + _ = _
  rw [sx_add_ev]
  simp only [sx_ev]
  omega
