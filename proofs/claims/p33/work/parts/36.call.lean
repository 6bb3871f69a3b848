/-! a checker of walks: contracts and calls -/
/-- a contract: its method, frames and locals, its start (names and what is known of them), its arguments, what it may change, its ends -/
abbrev sxI : Type := Nat × (Nat × Nat) × sxS × List sxA × sxK × List (sxS × Option sxA)
def sx_f0 (ts : List sxT) (i : Nat) : sxT := ts.getD i (0, 0)
def sx_g0 (rs : List Nat) (i : Nat) : Nat := rs.getD i 0
/-- names below n stay, those from n on are given -/
def sx_f1 (n : Nat) (ts : List sxT) (i : Nat) : sxT := if Nat.blt i n then (i, 0) else ts.getD (i - n) (0, 0)
def sx_g1 (n : Nat) (rs : List Nat) (i : Nat) : Nat := if Nat.blt i n then i else rs.getD (i - n) 0
/-- names below n are given, those from n on begin at b -/
def sx_f2 (n : Nat) (ts : List sxT) (b i : Nat) : sxT := if Nat.blt i n then ts.getD i (0, 0) else (b + (i - n), 0)
def sx_g2 (n : Nat) (rs : List Nat) (b i : Nat) : Nat := if Nat.blt i n then rs.getD i 0 else b + (i - n)
def sx_ret (σ : sxV) (ρ : sxR) (r : Option sxA) : Option Value := r.map (sx_val σ ρ)
/-- what a contract's end says -/
def sx_QX (PF : Nat → List Int → List (Nat → Int) → Prop) (RT : List sxG) (dC : Nat → ClassId) (dI : Nat → Nat → Nat) (kA : Nat → ClassId) (τ : Nat → Option Nat) (I : sxI) (σ : sxV) (ρ : sxR) (φ : sxF) (ws : va_W) (A : Nat → Prop) : Array Value → State → Outcome → State → Prop := fun _ st o t =>
  (∃ E ∈ I.2.2.2.2.2, ∃ σ' ρ' φ' w1, sx_ag I.2.2.1 σ σ' ρ ρ' φ φ' ∧ sx_dsat PF τ I.2.2.1.1.length I.2.2.1.2.1.length E.1 σ' ρ' φ' w1 ∧ o = .returned (sx_ret σ' ρ' E.2) ∧ va_P (dC, dI) vwCl w1 t.heap ∧ va_D A w1 ∧ sx_wt RT kA τ w1 ∧ sx_un I.2.2.2.2.1 τ ws w1) ∧ va_F A st t
def sx_rm (I : sxI) : Room := { frames := I.2.1.1, cells := 0, slots := 0, locals := I.2.1.2 }
/-- the contract holds -/
def sx_met (PF : Nat → List Int → List (Nat → Int) → Prop) (RT : List sxG) (My : Nat → MethodName) (Mc : Nat → ByteArray) (ML : Nat → Nat) (Mr : Nat → Option FieldType) (TK : (Nat → Option Nat) → va_W → State → Prop) (l : Launch) (I : sxI) : Prop :=
  ∀ (dC : Nat → ClassId) (dI : Nat → Nat → Nat) (kA : Nat → ClassId) (τ : Nat → Option Nat) (ws : va_W) (sz : Nat) (σ : sxV) (ρ : sxR) (φ : sxF), sx_sat PF τ I.2.2.1 σ ρ φ ws → sx_wt RT kA τ ws →
    Met l (My I.1) (wsU (My I.1) (Mc I.1) (ML I.1) (Mr I.1)) (sx_rm I) (va_Pc (I.2.2.2.1.map (sx_val σ ρ)) (fun U => PW dC dI kA ws sz U ∧ TK τ ws U)) (sx_QX PF RT dC dI kA τ I σ ρ φ ws (va_A ws sz)) 0 0 (va_A ws sz)
/-- behind a call: what isn't among what may change is still known -/
def sx_keep (S : sxS) (K : sxK) (m : sxM) : Bool := match S.2.1[m.1.2]? with
  | some R => Nat.beq m.1.1 2 || (match sx_iv S.1 m.2.1 with
    | some w => sx_le 0 w.1 && K.all (fun q => !(Nat.beq q.1 R) || sx_le (w.2 + 1) (q.2.1 : Int) || sx_le (q.2.2 : Int) w.1)
    | none => false)
  | none => false
def sx_keepc (S : sxS) (K : sxK) (c : sxC) : Bool := match S.2.1[c.1]? with
  | some R => K.all (fun q => !(Nat.beq q.1 R) || Nat.ble c.2.1.2 q.2.1 || Nat.ble q.2.2 c.2.1.1)
  | none => false
def sx_app (S : sxS) (K : sxK) (f : Nat → sxT) (g h : Nat → Nat) (D : sxS) : sxS := (S.1 ++ D.1, S.2.1 ++ D.2.1, S.2.2.1 + D.2.2.1, D.2.2.2.1.map (sb_L f) ++ S.2.2.2.1, D.2.2.2.2.1.map (sb_P f h) ++ S.2.2.2.2.1, D.2.2.2.2.2.1.map (sb_M f g) ++ S.2.2.2.2.2.1.filter (sx_keep S K), D.2.2.2.2.2.2.map (sb_C g h) ++ S.2.2.2.2.2.2.filter (sx_keepc S K))
/-- a call's start: the contract's start holds, its arguments are those on the stack -/
def sx_pre (S : sxS) (I : sxI) (ts : List sxT) (rs cs : List Nat) : Bool := sx_ent S (sx_f0 ts) (sx_g0 rs) (sx_g0 cs) 0 0 I.2.2.1 && Nat.beq ts.length I.2.2.1.1.length && Nat.beq rs.length I.2.2.1.2.1.length && Nat.beq cs.length I.2.2.1.2.2.1 && ts.all (fun t => Nat.blt t.1 S.1.length) && rs.all (fun r => Nat.blt r S.2.1.length) && cs.all (fun r => Nat.blt r S.2.2.1)
def sx_post (S : sxS) (I : sxI) (ts : List sxT) (rs cs : List Nat) (D : sxS) : sxS := sx_app S I.2.2.2.2.1 (sx_f2 I.2.2.1.1.length ts S.1.length) (sx_g2 I.2.2.1.2.1.length rs S.2.1.length) (sx_g2 I.2.2.1.2.2.1 cs S.2.2.1) D
def sx_postr (S : sxS) (I : sxI) (ts : List sxT) (rs : List Nat) (r : Option sxA) : Option sxA := r.map (sb_A (sx_f2 I.2.2.1.1.length ts S.1.length) (sx_g2 I.2.2.1.2.1.length rs S.2.1.length))
section SXC
variable {PF : Nat → List Int → List (Nat → Int) → Prop} {RT : List sxG} {τ : Nat → Option Nat} {S : sxS} {σ : sxV} {ρ : sxR} {φ : sxF} {ws w1 : va_W} {kA : Nat → ClassId} {A : Nat → Prop}
/-- a memo of the heap stays behind a call -/
theorem sx_keep_ok (hwd : va_D A ws) (h : sx_sat PF τ S σ ρ φ ws) {K : sxK} (hu : sx_un K τ ws w1) {m : sxM} (hm : sx_mok σ ρ ws m) (hk : sx_keep S K m = true) : sx_mok σ ρ w1 m := by
  unfold sx_keep at hk
  split at hk
  · rename_i R hR
    have hτ := h.2.1 _ _ hR
    rw [Bool.or_eq_true] at hk
    have nin : ∀ w, sx_iv S.1 m.2.1 = some w → K.all (fun q => !(Nat.beq q.1 R) || sx_le (w.2 + 1) (q.2.1 : Int) || sx_le (q.2.2 : Int) w.1) = true → 0 ≤ sx_tv σ m.2.1 → ¬ sx_inM K R (sx_tv σ m.2.1).toNat := by
      rintro w hw hall h0 ⟨q, q1, q2, q3, q4⟩
      have b := sx_iv_ok h.1 (a := w.1) (b := w.2) hw
      have := List.all_eq_true.mp hall q q1
      rw [Bool.or_eq_true, Bool.or_eq_true] at this
      rcases this with (z | z) | z
      · rw [q2, Nat.beq_refl] at z
        cases z
      · have := sx_le_iff.mp z
        omega
      · have := sx_le_iff.mp z
        omega
    unfold sx_mok at hm ⊢
    split <;> rename_i hkd <;> simp only [hkd] at hm
    · rcases hk with hk | hk
      · rw [hkd] at hk
        cases hk
      · split at hk
        · rename_i w hw
          rw [Bool.and_eq_true] at hk
          obtain ⟨ci, fs, m1, m2, m3⟩ := hm
          obtain ⟨e, g1, g2⟩ := hu _ _ hτ _ m1
          match e, g2 with
          | .inr o, g2 =>
            refine ⟨o.1, o.2, g1, m2, ?_⟩
            rw [g2.2.2 _ (nin w hw hk.2 m2)]
            exact m3
          | .inl o, g2 => exact g2.elim
        · cases hk
    · rcases hk with hk | hk
      · rw [hkd] at hk
        cases hk
      · split at hk
        · rename_i w hw
          rw [Bool.and_eq_true] at hk
          obtain ⟨cA, n, d, m1, m2, m3, m4⟩ := hm
          obtain ⟨e, g1, g2⟩ := hu _ _ hτ _ m1
          match e, g2 with
          | .inl o, g2 =>
            have hn : o.2.1 = n := g2.2.1
            refine ⟨o.1, o.2.1, o.2.2, g1, m2, by rw [hn]; exact m3, ?_⟩
            rw [(g2.2.2 _ (by rw [hn]; exact m3) (nin w hw hk.2 m2)).1]
            exact m4
          | .inr o, g2 => exact g2.elim
        · cases hk
    · obtain ⟨cA, n, d, m1, m2⟩ := hm
      obtain ⟨e, g1, g2⟩ := hu _ _ hτ _ m1
      match e, g2 with
      | .inl o, g2 =>
        have hn : o.2.1 = n := g2.2.1
        exact ⟨o.1, o.2.1, o.2.2, g1, by rw [hn]; exact m2⟩
      | .inr o, g2 => exact g2.elim
  · cases hk
theorem sx_keepc_ok (h : sx_sat PF τ S σ ρ φ ws) {K : sxK} (hu : sx_un K τ ws w1) {c : sxC} (hc : sx_cok ρ φ ws c) (hk : sx_keepc S K c = true) : sx_cok ρ φ w1 c := by
  unfold sx_keepc at hk
  split at hk
  · rename_i R hR
    have hτ := h.2.1 _ _ hR
    obtain ⟨cA, n, d, m1, m2⟩ := hc
    obtain ⟨e, g1, g2⟩ := hu _ _ hτ _ m1
    match e, g2 with
    | .inl o, g2 =>
      have hn : o.2.1 = n := g2.2.1
      refine ⟨o.1, o.2.1, o.2.2, g1, fun j j1 j2 j3 => ?_⟩
      rw [(g2.2.2 j j3 ?_).2]
      · exact m2 j j1 j2 (by rw [← hn]; exact j3)
      · rintro ⟨q, q1, q2, q3, q4⟩
        have := List.all_eq_true.mp hk q q1
        rw [Bool.or_eq_true, Bool.or_eq_true] at this
        rcases this with (z | z) | z
        · rw [q2, Nat.beq_refl] at z
          cases z
        · have := Nat.le_of_ble_eq_true z
          omega
        · have := Nat.le_of_ble_eq_true z
          omega
    | .inr o, g2 => exact g2.elim
  · cases hk
/-- names of a contract's start, as the caller has them -/
theorem sx_pre_ok (hw : sx_wf S) (h : sx_sat PF τ S σ ρ φ ws) {I : sxI} {ts : List sxT} {rs cs : List Nat} (hp : sx_pre S I ts rs cs = true) : sx_sat PF τ I.2.2.1 (sb_σ (sx_f0 ts) σ) (fun i => ρ (sx_g0 rs i)) (fun i => φ (sx_g0 cs i)) ws := by
  unfold sx_pre at hp
  simp only [Bool.and_eq_true] at hp
  obtain ⟨⟨⟨⟨⟨⟨c1, -⟩, -⟩, -⟩, -⟩, -⟩, -⟩ := hp
  obtain ⟨d1, d2, d3⟩ := sx_ent_ok hw h c1
  exact ⟨fun i e hi => by have := d1 i e hi; rwa [Nat.zero_add] at this, fun i r hi => by have := d2 i r hi; rwa [Nat.zero_add] at this, d3⟩
theorem sx_getD_lt {α : Type} {l : List α} {d : α} {P : α → Bool} (h : l.all P = true) {i : Nat} (hi : i < l.length) : P (l.getD i d) = true := by
  have e : l.getD i d = l[i] := by
    rw [List.getD_eq_getElem?_getD, List.getElem?_eq_getElem hi]
    rfl
  rw [e]
  exact List.all_eq_true.mp h _ (List.getElem_mem hi)
/-- the caller's valuation behind a call -/
def sx_σ2 (n b : Nat) (σ σ' : sxV) : sxV := fun i => if i < b then σ i else σ' (n + (i - b))
def sx_ρ2 (n b : Nat) (ρ ρ' : sxR) : sxR := fun i => if i < b then ρ i else ρ' (n + (i - b))
def sx_φ2 (n b : Nat) (φ φ' : sxF) : sxF := fun i => if i < b then φ i else φ' (n + (i - b))
theorem sb_l_wf {f : Nat → sxT} {n n' : Nat} (hf : ∀ i, i < n → (f i).1 < n') : ∀ l : List (Nat × Int), (∀ q ∈ l, q.1 < n) → ∀ q ∈ (sb_l f l).1, q.1 < n'
  | [], _, q, hq => by cases hq
  | a :: l, hl, q, hq => by
    have hq : q ∈ ((f a.1).1, a.2) :: (sb_l f l).1 := hq
    rcases List.mem_cons.mp hq with rfl | hq
    · exact hf _ (hl a List.mem_cons_self)
    · exact sb_l_wf hf l (fun r hr => hl r (List.mem_cons_of_mem _ hr)) q hq
theorem sx_ins_wf {n i : Nat} {c : Int} (hi : i < n) : ∀ l : List (Nat × Int), (∀ q ∈ l, q.1 < n) → ∀ q ∈ sx_ins i c l, q.1 < n
  | [], _, q, hq => by
    cases List.mem_singleton.mp hq
    exact hi
  | a :: l, hl, q, hq => by
    unfold sx_ins at hq
    split at hq
    · rcases List.mem_cons.mp hq with rfl | hq
      · exact hi
      · exact hl q (List.mem_cons_of_mem _ hq)
    · rcases List.mem_cons.mp hq with rfl | hq
      · exact hl q List.mem_cons_self
      · exact sx_ins_wf hi l (fun r hr => hl r (List.mem_cons_of_mem _ hr)) q hq
theorem sx_add_wf {n : Nat} {k : Int} : ∀ a b : List (Nat × Int), (∀ q ∈ a, q.1 < n) → (∀ q ∈ b, q.1 < n) → ∀ q ∈ sx_add k a b, q.1 < n
  | [], _, _, hb, q, hq => hb q hq
  | x :: a, b, ha, hb, q, hq => sx_add_wf a (sx_ins x.1 (k * x.2) b) (fun r hr => ha r (List.mem_cons_of_mem _ hr)) (sx_ins_wf (ha x List.mem_cons_self) b hb) q hq
theorem sb_L_wf {f : Nat → sxT} {n n' : Nat} (hf : ∀ i, i < n → (f i).1 < n') {l : sxL} (h : sx_wfL n l) : sx_wfL n' (sb_L f l) := sx_add_wf _ _ (sb_l_wf hf l.1 h) (fun q hq => by cases hq)
theorem sb_A_wf {f : Nat → sxT} {g : Nat → Nat} {n n' k k' : Nat} (hf : ∀ i, i < n → (f i).1 < n') (hg : ∀ i, i < k → g i < k') {a : sxA} (h : sx_wfA n k a) : sx_wfA n' k' (sb_A f g a) := by
  obtain ⟨t, i, o⟩ := a
  unfold sx_wfA at h
  unfold sb_A
  match t with
  | 0 =>
    refine Or.inr (Or.inl ⟨by show 0 < 2; omega, hf i ?_⟩)
    dsimp only at h
    omega
  | 1 =>
    refine Or.inr (Or.inl ⟨by show 1 < 2; omega, hf i ?_⟩)
    dsimp only at h
    omega
  | 2 =>
    refine Or.inr (Or.inr (Or.inl ⟨rfl, hg i ?_⟩))
    dsimp only at h
    omega
  | t + 3 => exact Or.inr (Or.inr (Or.inr (by show 2 < 3; omega)))
theorem sb_P_wf {f : Nat → sxT} {h' : Nat → Nat} {n n' c c' : Nat} (hf : ∀ i, i < n → (f i).1 < n') (hh : ∀ i, i < c → h' i < c') {p : sxP} (h : sx_wfP n c p) : sx_wfP n' c' (sb_P f h' p) := by
  refine ⟨fun t ht => ?_, fun i hi => ?_⟩
  · obtain ⟨t0, h0, rfl⟩ := List.mem_map.mp ht
    exact hf _ (h.1 t0 h0)
  · obtain ⟨i0, h0, rfl⟩ := List.mem_map.mp hi
    exact hh _ (h.2 i0 h0)
theorem sb_M_wf {f : Nat → sxT} {g : Nat → Nat} {n n' k k' : Nat} (hf : ∀ i, i < n → (f i).1 < n') (hg : ∀ i, i < k → g i < k') {m : sxM} (h : sx_wfM n k m) : sx_wfM n' k' (sb_M f g m) := ⟨hg _ h.1, hf _ h.2.1, sb_A_wf hf hg h.2.2⟩
theorem sb_C_wf {g h' : Nat → Nat} {k k' c c' : Nat} (hg : ∀ i, i < k → g i < k') (hh : ∀ i, i < c → h' i < c') {x : sxC} (h : sx_wfC k c x) : sx_wfC k' c' (sb_C g h' x) := ⟨hg _ h.1, hh _ h.2⟩
set_option maxHeartbeats 1000000 in
theorem sx_app_ok (hw : sx_wf S) (hwd : va_D A ws) (h : sx_sat PF τ S σ ρ φ ws) {K : sxK} {n k c : Nat} {ts : List sxT} {rs cs : List Nat} (l1 : ts.length = n) (l2 : rs.length = k) (l3 : cs.length = c) (b1 : ts.all (fun t => Nat.blt t.1 S.1.length) = true) (b2 : rs.all (fun r => Nat.blt r S.2.1.length) = true) (b3 : cs.all (fun r => Nat.blt r S.2.2.1) = true) {D : sxS} (hb : sx_bD (n + D.1.length) (k + D.2.1.length) (c + D.2.2.1) D = true) {σ' : sxV} {ρ' : sxR} {φ' : sxF}
    (a1 : ∀ i, i < n → σ' i = sx_tv σ (sx_f0 ts i)) (a2 : ∀ i, i < k → ρ' i = ρ (sx_g0 rs i)) (a3 : ∀ i, i < c → φ' i = φ (sx_g0 cs i)) (hd : sx_dsat PF τ n k D σ' ρ' φ' w1) (hu : sx_un K τ ws w1) :
    sx_gwf S (sx_app S K (sx_f2 n ts S.1.length) (sx_g2 k rs S.2.1.length) (sx_g2 c cs S.2.2.1) D) ∧ sx_ag S σ (sx_σ2 n S.1.length σ σ') ρ (sx_ρ2 k S.2.1.length ρ ρ') φ (sx_φ2 c S.2.2.1 φ φ') ∧ sx_sat PF τ (sx_app S K (sx_f2 n ts S.1.length) (sx_g2 k rs S.2.1.length) (sx_g2 c cs S.2.2.1) D) (sx_σ2 n S.1.length σ σ') (sx_ρ2 k S.2.1.length ρ ρ') (sx_φ2 c S.2.2.1 φ φ') w1 ∧
    ∀ r : Option sxA, (∀ a, r = some a → sx_bA (n + D.1.length) (k + D.2.1.length) a = true) → sx_ret σ' ρ' r = sx_ret (sx_σ2 n S.1.length σ σ') (sx_ρ2 k S.2.1.length ρ ρ') (r.map (sb_A (sx_f2 n ts S.1.length) (sx_g2 k rs S.2.1.length))) ∧ ∀ a, r.map (sb_A (sx_f2 n ts S.1.length) (sx_g2 k rs S.2.1.length)) = some a → sx_wfA (S.1.length + D.1.length) (S.2.1.length + D.2.1.length) a := by
  obtain ⟨q1, q2, q3, q4⟩ := sx_bD_ok hb
  have hag : sx_ag S σ (sx_σ2 n S.1.length σ σ') ρ (sx_ρ2 k S.2.1.length ρ ρ') φ (sx_φ2 c S.2.2.1 φ φ') := ⟨fun i hi => if_pos hi, fun i hi => if_pos hi, fun i hi => if_pos hi⟩
  have f1 : ∀ i, i < n → (sx_f2 n ts S.1.length i).1 < S.1.length := fun i hi => by
    have e : sx_f2 n ts S.1.length i = ts.getD i (0, 0) := if_pos (Nat.ble_eq_true_of_le hi)
    rw [e]
    exact sx_blt (sx_getD_lt b1 (by omega))
  have g1 : ∀ i, i < k → sx_g2 k rs S.2.1.length i < S.2.1.length := fun i hi => by
    have e : sx_g2 k rs S.2.1.length i = rs.getD i 0 := if_pos (Nat.ble_eq_true_of_le hi)
    rw [e]
    exact sx_blt (sx_getD_lt b2 (by omega))
  have h1 : ∀ i, i < c → sx_g2 c cs S.2.2.1 i < S.2.2.1 := fun i hi => by
    have e : sx_g2 c cs S.2.2.1 i = cs.getD i 0 := if_pos (Nat.ble_eq_true_of_le hi)
    rw [e]
    exact sx_blt (sx_getD_lt b3 (by omega))
  have nb : ∀ {a b : Nat}, ¬ a < b → Nat.blt a b = false := fun {a b} hq => sx_bf (fun z => hq (sx_blt z))
  have f2 : ∀ i, i < n + D.1.length → (sx_f2 n ts S.1.length i).1 < S.1.length + D.1.length := fun i hi => by
    by_cases hn : i < n
    · have := f1 i hn
      omega
    · have e : sx_f2 n ts S.1.length i = (S.1.length + (i - n), 0) := if_neg (by rw [nb hn]; decide)
      rw [e]
      show S.1.length + (i - n) < _
      omega
  have g2 : ∀ i, i < k + D.2.1.length → sx_g2 k rs S.2.1.length i < S.2.1.length + D.2.1.length := fun i hi => by
    by_cases hn : i < k
    · have := g1 i hn
      omega
    · have e : sx_g2 k rs S.2.1.length i = S.2.1.length + (i - k) := if_neg (by rw [nb hn]; decide)
      rw [e]
      omega
  have h2 : ∀ i, i < c + D.2.2.1 → sx_g2 c cs S.2.2.1 i < S.2.2.1 + D.2.2.1 := fun i hi => by
    by_cases hn : i < c
    · have := h1 i hn
      omega
    · have e : sx_g2 c cs S.2.2.1 i = S.2.2.1 + (i - c) := if_neg (by rw [nb hn]; decide)
      rw [e]
      omega
  have s1 : ∀ i, i < n + D.1.length → sb_σ (sx_f2 n ts S.1.length) (sx_σ2 n S.1.length σ σ') i = σ' i := fun i hi => by
    show sx_tv (sx_σ2 n S.1.length σ σ') (sx_f2 n ts S.1.length i) = σ' i
    by_cases hn : i < n
    · rw [sx_tv_ext hag.1 (f1 i hn), a1 i hn]
      have e : sx_f2 n ts S.1.length i = ts.getD i (0, 0) := if_pos (Nat.ble_eq_true_of_le hn)
      rw [e]
      rfl
    · have e : sx_f2 n ts S.1.length i = (S.1.length + (i - n), 0) := if_neg (by rw [nb hn]; decide)
      rw [e]
      show sx_σ2 n S.1.length σ σ' (S.1.length + (i - n)) + 0 = _
      rw [Int.add_zero]
      show (if S.1.length + (i - n) < S.1.length then _ else _) = _
      rw [if_neg (by omega)]
      congr 1
      omega
  have s2 : ∀ i, i < k + D.2.1.length → sx_ρ2 k S.2.1.length ρ ρ' (sx_g2 k rs S.2.1.length i) = ρ' i := fun i hi => by
    by_cases hn : i < k
    · rw [hag.2.1 _ (g1 i hn), a2 i hn]
      have e : sx_g2 k rs S.2.1.length i = rs.getD i 0 := if_pos (Nat.ble_eq_true_of_le hn)
      rw [e]
      rfl
    · have e : sx_g2 k rs S.2.1.length i = S.2.1.length + (i - k) := if_neg (by rw [nb hn]; decide)
      rw [e]
      show (if S.2.1.length + (i - k) < S.2.1.length then _ else _) = _
      rw [if_neg (by omega)]
      congr 1
      omega
  have s3 : ∀ i, i < c + D.2.2.1 → sx_φ2 c S.2.2.1 φ φ' (sx_g2 c cs S.2.2.1 i) = φ' i := fun i hi => by
    by_cases hn : i < c
    · rw [hag.2.2 _ (h1 i hn), a3 i hn]
      have e : sx_g2 c cs S.2.2.1 i = cs.getD i 0 := if_pos (Nat.ble_eq_true_of_le hn)
      rw [e]
      rfl
    · have e : sx_g2 c cs S.2.2.1 i = S.2.2.1 + (i - c) := if_neg (by rw [nb hn]; decide)
      rw [e]
      show (if S.2.2.1 + (i - c) < S.2.2.1 then _ else _) = _
      rw [if_neg (by omega)]
      congr 1
      omega
  have hl1 : (sx_app S K (sx_f2 n ts S.1.length) (sx_g2 k rs S.2.1.length) (sx_g2 c cs S.2.2.1) D).1.length = S.1.length + D.1.length := by simp [sx_app]
  have hl2 : (sx_app S K (sx_f2 n ts S.1.length) (sx_g2 k rs S.2.1.length) (sx_g2 c cs S.2.2.1) D).2.1.length = S.2.1.length + D.2.1.length := by simp [sx_app]
  obtain ⟨w0, w00, w1', w2', w3', w4'⟩ := hw
  obtain ⟨d1, d2, d3, d4, d5, d6⟩ := hd
  refine ⟨⟨⟨by omega, sx_z0_app w00 _, fun x hx => ?_, fun x hx => ?_, fun x hx => ?_, fun x hx => ?_⟩, by omega, by omega, Nat.le_add_right _ _⟩, hag, ⟨fun i e hi => ?_, fun i r hi => ?_, fun x hx => ?_, fun x hx => ?_, fun x hx => ?_, fun x hx => ?_⟩, fun r hr => ⟨?_, fun a ha => ?_⟩⟩
  · rw [hl1]
    rcases List.mem_append.mp hx with q | q
    · obtain ⟨y, hy, rfl⟩ := List.mem_map.mp q
      exact sb_L_wf f2 (q1 y hy)
    · exact sx_wfL_mono (by omega) (w1' x q)
  · rw [hl1]
    rcases List.mem_append.mp hx with q | q
    · obtain ⟨y, hy, rfl⟩ := List.mem_map.mp q
      exact sb_P_wf f2 h2 (q2 y hy)
    · exact sx_wfP_mono (by omega) (Nat.le_add_right _ _) (w2' x q)
  · rw [hl1, hl2]
    rcases List.mem_append.mp hx with q | q
    · obtain ⟨y, hy, rfl⟩ := List.mem_map.mp q
      exact sb_M_wf f2 g2 (q3 y hy)
    · exact sx_wfM_mono (by omega) (by omega) (w3' x (List.mem_filter.mp q).1)
  · rw [hl2]
    rcases List.mem_append.mp hx with q | q
    · obtain ⟨y, hy, rfl⟩ := List.mem_map.mp q
      exact sb_C_wf g2 h2 (q4 y hy)
    · exact sx_wfC_mono (by omega) (Nat.le_add_right _ _) (w4' x (List.mem_filter.mp q).1)
  · have hi : (S.1 ++ D.1)[i]? = some e := hi
    by_cases hl : i < S.1.length
    · rw [List.getElem?_append_left hl] at hi
      rw [hag.1 i hl]
      exact h.1 i e hi
    · rw [List.getElem?_append_right (by omega)] at hi
      have := d1 _ e hi
      have e1 : sx_σ2 n S.1.length σ σ' i = σ' (n + (i - S.1.length)) := if_neg hl
      rw [e1]
      exact this
  · have hi : (S.2.1 ++ D.2.1)[i]? = some r := hi
    by_cases hl : i < S.2.1.length
    · rw [List.getElem?_append_left hl] at hi
      rw [hag.2.1 i hl]
      exact h.2.1 i r hi
    · rw [List.getElem?_append_right (by omega)] at hi
      have := d2 _ r hi
      have e1 : sx_ρ2 k S.2.1.length ρ ρ' i = ρ' (k + (i - S.2.1.length)) := if_neg hl
      rw [e1]
      exact this
  · rcases List.mem_append.mp hx with q | q
    · obtain ⟨y, hy, rfl⟩ := List.mem_map.mp q
      rw [← sb_L_ok, sx_lev_ext s1 (q1 y hy)]
      exact d3 y hy
    · rw [sx_lev_ext hag.1 (w1' x q)]
      exact h.2.2.1 x q
  · rcases List.mem_append.mp hx with q | q
    · obtain ⟨y, hy, rfl⟩ := List.mem_map.mp q
      rw [← sb_P_ok, sx_pok_ext PF s1 s3 (q2 y hy)]
      exact d4 y hy
    · exact (sx_pok_ext PF hag.1 hag.2.2 (w2' x q)).mpr (h.2.2.2.1 x q)
  · rcases List.mem_append.mp hx with q | q
    · obtain ⟨y, hy, rfl⟩ := List.mem_map.mp q
      rw [← sb_M_ok]
      exact sx_mok_ext s1 s2 (q3 y hy) (d5 y hy)
    · have hf := List.mem_filter.mp q
      exact sx_mok_ext hag.1 hag.2.1 (w3' x hf.1) (sx_keep_ok hwd h hu (h.2.2.2.2.1 x hf.1) hf.2)
  · rcases List.mem_append.mp hx with q | q
    · obtain ⟨y, hy, rfl⟩ := List.mem_map.mp q
      exact sx_cok_ext s2 s3 (q4 y hy) (d6 y hy)
    · have hf := List.mem_filter.mp q
      exact sx_cok_ext hag.2.1 hag.2.2 (w4' x hf.1) (sx_keepc_ok h hu (h.2.2.2.2.2 x hf.1) hf.2)
  · cases r with
    | none => rfl
    | some a =>
      show some (sx_val σ' ρ' a) = some (sx_val _ _ (sb_A _ _ a))
      rw [← sb_A_ok, sx_val_ext s1 s2 (sx_bA_ok (hr a rfl))]
  · cases r with
    | none => cases ha
    | some b =>
      have ha : some (sb_A _ _ b) = some a := ha
      cases ha
      exact sb_A_wf f2 g2 (sx_bA_ok (hr b rfl))
end SXC
