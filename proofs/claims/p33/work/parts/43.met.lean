/-! a checker of walks: a contract out of the checker -/
def sx_argl : Nat → List sxA → List (Nat × sxA)
  | _, [] => []
  | i, a :: l => (i, a) :: sx_argl (if Nat.beq a.1 1 then i + 2 else i + 1) l
def sx_argn (l : List sxA) : Nat := (l.map fun v => if Nat.beq v.1 1 then 2 else 1).sum
def sx_rcP (rc : Nat) (r : Option FieldType) : Prop := match rc with
  | 0 => r = some .int
  | 1 => r = some .boolean
  | 2 => r = some .long
  | 3 => (∃ n, r = some (.object n)) ∨ ∃ t, r = some (.array t)
  | _ => r = none
/-- a contract's own words are in order -/
def sx_Iok (I : sxI) : Bool := Nat.blt 0 I.2.2.1.1.length && (match I.2.2.1.1 with
  | e :: _ => sx_le 0 e.1 && sx_le e.2 0
  | [] => false) && sx_bD I.2.2.1.1.length I.2.2.1.2.1.length I.2.2.1.2.2.1 I.2.2.1 && I.2.2.2.1.all (sx_bA I.2.2.1.1.length I.2.2.1.2.1.length) && Nat.blt 0 I.2.1.1
section SXS
variable {PF : Nat → List Int → List (Nat → Int) → Prop} {RT : List sxG} {TK : (Nat → Option Nat) → va_W → State → Prop} {My : Nat → MethodName} {Mc : Nat → ByteArray} {ML : Nat → Nat} {Mr : Nat → Option FieldType} {FW : Nat → Prop} {CT : List sxI} {LT : List (sxS × sxS)}
theorem sx_argl_ok (σ : sxV) (ρ : sxR) : ∀ (l : List sxA) (i : Nat), lv_args i (l.map (sx_val σ ρ)) = sx_loc σ ρ (sx_argl i l)
  | [], _ => rfl
  | a :: l, i => by
    show (i, sx_val σ ρ a) :: lv_args (if (sx_val σ ρ a).category = 2 then i + 2 else i + 1) (l.map (sx_val σ ρ)) = (i, sx_val σ ρ a) :: sx_loc σ ρ (sx_argl (if Nat.beq a.1 1 then i + 2 else i + 1) l)
    rw [sx_argl_ok σ ρ l]
    have e1 : (if (sx_val σ ρ a).category = 2 then i + 2 else i + 1) = if Nat.beq a.1 1 then i + 2 else i + 1 := by
      cases hb : Nat.beq a.1 1 with
      | true => rw [sx_cat2 hb]; rfl
      | false => rw [sx_cat1 hb]; rfl
    rw [e1]
theorem sx_argl_wf {n k : Nat} : ∀ {l : List sxA} {i : Nat}, (∀ a ∈ l, sx_wfA n k a) → ∀ q ∈ sx_argl i l, sx_wfA n k q.2
  | a :: l, i, h, q, hq => by
    rcases List.mem_cons.mp hq with rfl | hq
    · exact h a List.mem_cons_self
    · exact sx_argl_wf (fun b hb => h b (List.mem_cons_of_mem _ hb)) q hq
theorem sx_lgsl (σ : sxV) (ρ : sxR) : ∀ l : List sxA, (lg_sl (l.map (sx_val σ ρ))).length = sx_argn l
  | [] => rfl
  | a :: l => by
    have ih := sx_lgsl σ ρ l
    show (lg_sl (sx_val σ ρ a :: l.map (sx_val σ ρ))).length = (if Nat.beq a.1 1 then 2 else 1) + sx_argn l
    rw [← ih]
    cases hb : Nat.beq a.1 1 with
    | true =>
      have hc := sx_cat2 (σ := σ) (ρ := ρ) hb
      simp [lg_sl, hc]
      omega
    | false =>
      have hc := sx_cat1 (σ := σ) (ρ := ρ) hb
      simp [lg_sl, hc]
      omega
theorem sx_Iok_wf {I : sxI} (hb : sx_Iok I = true) : sx_wf I.2.2.1 ∧ (∀ a ∈ I.2.2.2.1, sx_wfA I.2.2.1.1.length I.2.2.1.2.1.length a) ∧ 1 ≤ I.2.1.1 := by
  unfold sx_Iok at hb
  simp only [Bool.and_eq_true] at hb
  obtain ⟨⟨⟨⟨c1, c2⟩, c3⟩, c4⟩, c5⟩ := hb
  have c1 := sx_blt c1
  obtain ⟨b1, b2, b3, b4⟩ := sx_bD_ok c3
  refine ⟨⟨c1, ?_, b1, b2, b3, b4⟩, fun a ha => sx_bA_ok (List.all_eq_true.mp c4 a ha), sx_blt c5⟩
  split at c2
  · rename_i ev rest hev
    rw [Bool.and_eq_true] at c2
    refine ⟨ev, ?_, sx_le_iff.mp c2.1, sx_le_iff.mp c2.2⟩
    rw [hev]
    rfl
  · cases c2
theorem sx_met_of {l : Launch} {I : sxI} {h : sxH} {fuel : Nat} {its its2 : List sxJ} (hTKo : sx_TKok TK) (hTK2 : ∀ τ ws (s : State), TK τ ws s → (∀ H locs, va_S (va_A ws s.heap.size) s.heap H locs → ∀ a r, τ a = some r → RT.length ≤ r → ∃ cell : Cell, H[a]? = some cell ∧ cell.vm.isStatics = false ∧ s.vm.findClass "java/lang/String" = some cell.cls) ∧ ∀ q ∈ h.2.2.2.2.1.2.2, ∃ a tx, vk_R (My I.1).cls q.1 tx a s ∧ τ a = some (RT.length + q.2))
    (htab : sx_tab RT My Mc ML Mr FW (My I.1).cls (Mc I.1) h) (hF : sx_Fw FW) (hM : ∀ J ∈ CT, sx_met PF RT My Mc ML Mr TK l J) (hLm : ∀ L ∈ LT, sx_lemok PF L)
    (hpl : plainName (My I.1).cls = true) (hI : sx_Iok I = true) (hn : sx_argn I.2.2.2.1 ≤ ML I.1) (hrc : sx_rcP h.2.2.2.2.2.1.2.2.2 (Mr I.1))
    (he : h.2.2.2.2.2.1.1 = ML I.1 ∧ h.2.2.2.2.2.1.2.1 = I.2.2.2.2.1 ∧ h.2.2.2.2.2.1.2.2.1 = I.2.2.2.2.2 ∧ h.2.2.2.2.2.2 = ((I.2.2.1.1.length, I.2.2.1.2.1.length, I.2.2.1.2.2.1), I.2.1)) (hchk : sx_exec RT CT LT h fuel 0 I.2.2.1 (sx_argl 0 I.2.2.2.1) [] [] its = some its2) : sx_met PF RT My Mc ML Mr TK l I := by
  intro dC dI kA τ ws sz σ ρ φ hs hT
  obtain ⟨hwf, hwa, hfr⟩ := sx_Iok_wf hI
  refine Met.ofW (cc := Mc I.1) (maxL := ML I.1) (ret := Mr I.1) hpl rfl ?_
  intro p e s m args below meth c s₁ B hml hv
  obtain ⟨rfl, ⟨hsz, hP, hK, hN, hD0⟩, htk⟩ := hv
  subst hsz
  obtain ⟨q1, q2⟩ := hTK2 τ ws s htk
  have hl := lv_entry (I.2.2.2.1.map (sx_val σ ρ)) (n := ML I.1) (by rw [sx_lgsl]; exact hn)
  rw [lg_entry_eq]
  rw [sx_argl_ok] at hl
  obtain ⟨e1, e2, e3, e4⟩ := he
  have e5 : h.2.2.2.2.2.2.1.1 = I.2.2.1.1.length := by rw [e4]
  have e6 : h.2.2.2.2.2.2.1.2.1 = I.2.2.1.2.1.length := by rw [e4]
  have e7 : h.2.2.2.2.2.2.1.2.2 = I.2.2.1.2.2.1 := by rw [e4]
  have e8 : h.2.2.2.2.2.2.2 = I.2.1 := by rw [e4]
  have hts : ∀ w ∈ lwG, w.before (I.2.2.2.1.map (sx_val σ ρ)).toArray s = true := fun w hw => atoms_spec (ws := wsU (My I.1) (Mc I.1) (ML I.1) (Mr I.1)) B.pre w (List.mem_cons_of_mem _ hw)
  have hcx : sx_cx PF RT TK My Mc ML Mr FW CT LT h l p (sx_rm I) s m (I.2.2.2.1.map (sx_val σ ρ)).toArray c (Mc I.1) (My I.1).cls dC dI kA (va_A ws s.heap.size) τ s.heap := ⟨⟨B.exec, B.bytes, by rw [hml, e1], findClass_of_methodNamed B.named, hts, hK, hN⟩, ⟨hTKo, fun ws' H locs d1 d2 U u1 u2 => hTKo.2 τ ws s htk ws' H locs d1 d2 U u1 u2, fun q hq => Or.inr hq⟩, htab, hF, hM, hLm, ⟨by rw [e8]; rfl, by rw [e8]; rfl⟩, q2, q1⟩
  have hhp : sx_hp RT h.2.2.2.2.2.1.2.1 dC dI kA (va_A ws s.heap.size) τ s.heap ws ws s.heap [] := ⟨hP, hD0.self, va_S.rf, hT, sx_un.rfl⟩
  have hRH : sx_RH PF RT h dC dI kA (va_A ws s.heap.size) τ s.heap ws σ ρ φ p l e (sx_rm I) s m (I.2.2.2.1.map (sx_val σ ρ)).toArray below meth c (Mc I.1) 0 0 (MQ below (sx_QX PF RT dC dI kA τ I σ ρ φ ws (va_A ws s.heap.size)) (I.2.2.2.1.map (sx_val σ ρ)).toArray s 0 0 (va_A ws s.heap.size)) := by
    intro E hE i pc ls σ' ρ' φ' ws' H' locs' hdg a1 a2 a3 hd hp' hrk
    obtain ⟨p1, p2, p3, p4, p5⟩ := hp'
    rw [e3] at hE
    rw [e5] at a1
    rw [e6] at a2
    rw [e7] at a3
    rw [e5, e6] at hd
    rw [e2] at p5
    have hq : ∀ t : State, t.heap = H' → sx_QX PF RT dC dI kA τ I σ ρ φ ws (va_A ws s.heap.size) (I.2.2.2.1.map (sx_val σ ρ)).toArray s (.returned (sx_ret σ' ρ' E.2)) t := fun t ht => ⟨⟨E, hE, σ', ρ', φ', ws', ⟨a1, a2, a3⟩, hd, rfl, by rw [ht]; exact p1, p2, p4, p5⟩, p3.F ht⟩
    have hrt := B.returns
    rcases hrk with ⟨rfl, r1, r2⟩ | ⟨rfl, x, r1, r2⟩ | ⟨rfl, r1, x, r2⟩ | ⟨rfl, r1, w, r2, r3⟩
    · rw [r2] at hq ⊢
      have hr4 : Mr I.1 = none := by rw [r1] at hrc; exact hrc
      exact W.vret B.exec B.bytes (by rw [hrt, hr4]) (fun t ht _ => hq t ht) p3.2.2 hdg B.notSynchronized
    · rw [r1] at hq ⊢
      rcases r2 with r2 | ⟨r2, r3, r4⟩
      · have hr4 : Mr I.1 = some .int := by rw [r2] at hrc; exact hrc
        exact W.iret B.exec B.bytes (by rw [hrt, hr4]) (fun t ht _ => hq t ht) p3.2.2 hdg B.notSynchronized
      · have hr4 : Mr I.1 = some .boolean := by rw [r2] at hrc; exact hrc
        exact W.zret B.exec B.bytes (by rw [hrt, hr4]) (sx_bool r3 r4).1 (fun t ht _ => hq t ht) p3.2.2 hdg B.notSynchronized
    · rw [r2] at hq ⊢
      have hr4 : Mr I.1 = some .long := by rw [r1] at hrc; exact hrc
      exact W.lret B.exec B.bytes (by rw [hrt, hr4]) (fun t ht _ => hq t ht) p3.2.2 hdg B.notSynchronized
    · rw [r2] at hq ⊢
      have hr4 : (∃ n, Mr I.1 = some (.object n)) ∨ ∃ t, Mr I.1 = some (.array t) := by rw [r1] at hrc; exact hrc
      rcases hr4 with ⟨n, hr4⟩ | ⟨n, hr4⟩
      · exact W.aret B.exec B.bytes (by rw [hrt, hr4]) (Or.inl ⟨n, rfl⟩) r3 (fun t ht _ => hq t ht) p3.2.2 hdg B.notSynchronized
      · exact W.aret B.exec B.bytes (by rw [hrt, hr4]) (Or.inr ⟨n, rfl⟩) r3 (fun t ht _ => hq t ht) p3.2.2 hdg B.notSynchronized
  exact sx_exec_ok hcx hfr ⟨Nat.le_refl _, Nat.le_refl _⟩ hRH fuel 0 I.2.2.1 (sx_argl 0 I.2.2.2.1) [] [] its its2 hchk σ ρ φ ws s.heap [] _ hwf ⟨sx_argl_wf hwa, fun a ha => by cases ha⟩ ⟨by rw [e5]; exact Nat.le_refl _, by rw [e6]; exact Nat.le_refl _, by rw [e7]; exact Nat.le_refl _⟩ ⟨fun _ _ => rfl, fun _ _ => rfl, fun _ _ => rfl⟩ (fun a ha => by cases ha) hs hhp (by rw [e1]; exact hl)
end SXS
