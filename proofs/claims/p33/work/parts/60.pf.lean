/-! what the reference's facts say: places of contents, updates, the house as it is said, images, rules as signs, the tape -/
def P5 (t v : Int) (c : Nat → Int) : Prop := 0 ≤ t ∧ c t.toNat = v
def P6 (t v : Int) (c d : Nat → Int) : Prop := 0 ≤ t ∧ ∀ j, d j = if j = t.toNat then v else c j
def ONS (o : Nat) (c : Nat → Int) : Prop := ∀ i, i < 7 → 0 ≤ c (o + i) ∧ c (o + i) ≤ 6
def PRM (n : Int) (o : Nat) (c : Nat → Int) : Prop := ∀ x : Nat, (x : Int) < n → ∃ b : Nat, (b : Int) < n ∧ c (o + b) = x
def MXS (n m : Int) (c : Nat → Int) : Prop := ∀ k : Nat, (k : Int) < m → (0 ≤ c (54 + 3 * k) ∧ c (54 + 3 * k) < n) ∧ 0 ≤ c (55 + 3 * k) ∧ c (55 + 3 * k) < n
def NTS (c : Nat → Int) : Prop := ∀ k, k < 10 → 0 ≤ c (78 + 3 * k) ∧ c (78 + 3 * k) ≤ 6
def SDp (f n m : Int) (c : Nat → Int) : Prop := c 3 = n ∧ c 4 = m ∧ (0 ≤ n ∧ n ≤ 7) ∧ (0 ≤ m ∧ m ≤ 8) ∧ (0 ≤ c 107 ∧ c 107 ≤ 10) ∧ ONS 11 c ∧ MXS n m c ∧ NTS c ∧ (f = 1 → PRM n 11 c)
def WSp (u n : Int) (c : Nat → Int) : Prop := ∀ j : Nat, (j : Int) < u → ONS (29 * j + 1) c ∧ PRM n (29 * j + 1) c
def IMp (c : Nat → Int) : Prop := ∀ k : Nat, k < 4 → ∃ n m : Int, SDp 1 n m (fun j => c (108 * k + j))
def PKp (n : Int) (c : Nat → Int) : Prop := ONS 1 c ∧ PRM n 1 c
def CPp (k o p : Int) (d a s : Nat → Int) : Prop := (∀ i : Nat, (i : Int) < k → d (o.toNat + i) = s (p.toNat + i)) ∧ ∀ j : Nat, ((j : Int) < o ∨ o + k ≤ j) → d j = a j
def NFp (b s : Int) (c : Nat → Int) : Prop := ∀ i : Nat, (i : Int) < b → c (11 + i) ≠ s
def BTp (s k : Int) : Prop := (Int32.ofInt s >>> (Int32.ofInt k &&& 31) &&& Int32.ofInt 1).toInt = 0
def w20 (i : Nat) : Int := match i with
  | 0 => 25600000000
  | 1 => 1280000000
  | 2 => 64000000
  | 3 => 3200000
  | 4 => 160000
  | 5 => 8000
  | 6 => 400
  | _ => 20
def ORm (n : Int) (c : Nat → Int) : Nat → Int
  | 0 => 0
  | i + 1 => ORm n c i + (n + 1 - c i) * w20 i
def ORp (k n mu : Int) (c : Nat → Int) : Prop := (-1 ≤ k ∧ k ≤ n) ∧ (∀ i : Nat, (i : Int) < k → 0 ≤ c i ∧ c i ≤ n - 1) ∧ (0 ≤ k → -1 ≤ c k.toNat ∧ c k.toNat ≤ n - 1) ∧ mu = ORm n c (k + 1).toNat
def w60 (i : Nat) : Int := match i with
  | 0 => 12960000
  | 1 => 216000
  | 2 => 3600
  | _ => 60
def PLm (c : Nat → Int) : Nat → Int
  | 0 => 0
  | i + 1 => PLm c i + (50 - c i) * w60 i
def PLp (k mu : Int) (c : Nat → Int) : Prop := (∀ i : Nat, (i : Int) ≤ k → -1 ≤ c i ∧ c i ≤ 49) ∧ mu = PLm c (k + 1).toNat
def PQp (k mu : Int) (c : Nat → Int) : Prop := (∀ i : Nat, (i : Int) ≤ k → -1 ≤ c i ∧ c i ≤ 49) ∧ mu = PLm c (k + 1).toNat + w60 k.toNat - 1
def SHp (k : Int) (c a : Nat → Int) : Prop := ∀ j : Nat, c j = if (j : Int) + 29 < k then a (j + 29) else a j
def ROp (n m : Int) (c : Nat → Int) : Prop := c 3 = n ∧ c 4 = m ∧ (0 ≤ n ∧ n ≤ 7) ∧ (0 ≤ m ∧ m ≤ 8) ∧ (∀ i, i < 7 → c (11 + i) = 0) ∧ MXS n m c
def BGp (b n m : Int) (c : Nat → Int) : Prop := SDp 0 n m c ∧ ∀ i : Nat, (i : Int) < b → c (11 + i) = i
def LTp (k : Int) (c : Nat → Int) : Prop := 97 ≤ c k.toNat ∧ c k.toNat ≤ 122
def NLp (k t : Int) (c : Nat → Int) : Prop := ¬ (k < t ∧ LTp k c)
def DGp (k : Int) (c : Nat → Int) : Prop := 48 ≤ c k.toNat ∧ c k.toNat ≤ 57
def NDp (k t : Int) (c : Nat → Int) : Prop := ¬ (k < t ∧ DGp k c)
def sd_one (z : Int) (d : Nat) : Option Nat := if z < 0 then none else if z % 16 = 0 then (if d < 60 then some (d + 1) else none) else if z % 16 = 1 then (if d < 60 ∧ z / 16 ≤ 11 then some (d + 1) else none) else if z % 16 = 11 then (if 1 ≤ d ∧ d ≤ 60 then some d else none) else if 2 ≤ d ∧ d ≤ 60 then some (d - 1) else none
def dep (G : Nat → Int) (lo : Nat) : Nat → Option Nat
  | 0 => some 0
  | k + 1 => match dep G lo k with
    | none => none
    | some d => sd_one (G (lo + k)) d
def DEp (t b e j : Int) (G : Nat → Int) : Prop := (0 ≤ b ∧ b ≤ e) ∧ 0 ≤ j ∧ dep G (400 * t.toNat + b.toNat) (e - b).toNat = some j.toNat
def CLq (G C : Nat → Int) (t j : Nat) (l : Int) : Prop := DEp t (C (48 * t + 4 * j)) (C (48 * t + 4 * j + 1)) 1 G ∧ C (48 * t + 4 * j + 1) ≤ l ∧ (C (48 * t + 4 * j + 2) < 0 ∨ (DEp t (C (48 * t + 4 * j + 2)) (C (48 * t + 4 * j + 3)) 1 G ∧ C (48 * t + 4 * j + 3) ≤ l))
def RUp (G C L : Nat → Int) : Prop := ∀ t : Nat, t < 6 → L t ≤ 12 ∧ ∀ j : Nat, (j : Int) < L t → CLq G C t j 400
def RUq (text l : Int) (G C L : Nat → Int) : Prop := ∀ t : Nat, t < 6 → L t ≤ 12 ∧ ∀ j : Nat, (j : Int) < L t → CLq G C t j (if (t : Int) = text then l else 400)
def PRp (text p q b l d : Int) (G C L : Nat → Int) : Prop := RUq text l G C L ∧ (q < p ∨ (DEp text p q 1 G ∧ q ≤ l)) ∧ DEp text b l d G
def ocnt (p : Int → Bool) (c : Nat → Int) : Nat → Int
  | 0 => 0
  | k + 1 => ocnt p c k + if p (c k) then 1 else 0
def o_w (x : Int) : Bool := decide (x = 12) || decide (x = 13)
def o_y (x : Int) : Bool := decide (x = 91)
def OPp (o w y : Int) (c : Nat → Int) : Prop := (∀ i : Nat, (i : Int) < o → c i = 11 ∨ c i = 12 ∨ c i = 13 ∨ c i = 91) ∧ w = ocnt o_w c o.toNat ∧ y = ocnt o_y c o.toNat
def TIp (o : Int) (c : Nat → Int) : Prop := 1 ≤ o ∧ c (o - 1).toNat = 91
def NIp (k : Int) (c : Nat → Int) : Prop := ∀ i : Nat, (i : Int) < k → c i ≠ 91
def ZRp (k : Int) (c : Nat → Int) : Prop := ∀ i : Nat, (i : Int) < k → c i = 0
def HSp (k : Int) (d s : Nat → Int) : Prop := ∀ i : Nat, (i : Int) < k → (i < 77 → d i = s i) ∧ (77 ≤ i → d i = 0)
theorem sx_ex1 (σ : sxV) (n : Nat) (x : Int) : ∃ τ : sxV, (∀ i, i < n → τ i = σ i) ∧ τ n = x := ⟨sx_up σ n x, sx_up_lt, sx_up_n⟩
theorem sx_ex2 (σ : sxV) (n : Nat) (x y : Int) : ∃ τ : sxV, (∀ i, i < n → τ i = σ i) ∧ τ n = x ∧ τ (n + 1) = y := ⟨sx_up (sx_up σ n x) (n + 1) y, fun i hi => by rw [sx_up_lt i (by omega), sx_up_lt i hi], by rw [sx_up_lt n (by omega), sx_up_n], sx_up_n⟩
theorem sx_de0 {P : Nat → sxE → Prop} : ∀ (i : Nat) (e : sxE), ([] : List sxE)[i]? = some e → P i e := fun i e h => by cases i <;> cases h
theorem sx_dr0 {P : Nat → Nat → Prop} : ∀ (i e : Nat), ([] : List Nat)[i]? = some e → P i e := fun i e h => by cases i <;> cases h
theorem sx_de1 {P : Nat → sxE → Prop} {a : sxE} (h : P 0 a) : ∀ (i : Nat) (e : sxE), [a][i]? = some e → P i e := fun i e he => by
  match i, he with
  | 0, he => cases he; exact h
  | i + 1, he => cases i <;> cases he
theorem sx_de2 {P : Nat → sxE → Prop} {a b : sxE} (h : P 0 a) (h' : P 1 b) : ∀ (i : Nat) (e : sxE), [a, b][i]? = some e → P i e := fun i e he => by
  match i, he with
  | 0, he => cases he; exact h
  | 1, he => cases he; exact h'
  | i + 2, he => cases i <;> cases he
def sxPF (k : Nat) (xs : List Int) (fs : List (Nat → Int)) : Prop := match k with
  | 20 => SDp (xs.getD 0 0) (xs.getD 1 0) (xs.getD 2 0) (fs.getD 0 (fun _ => 0))
  | 21 => WSp (xs.getD 0 0) (xs.getD 1 0) (fs.getD 0 (fun _ => 0))
  | 22 => IMp (fs.getD 0 (fun _ => 0))
  | 23 => RUp (fs.getD 0 (fun _ => 0)) (fs.getD 1 (fun _ => 0)) (fs.getD 2 (fun _ => 0))
  | 24 => CPp (xs.getD 0 0) (xs.getD 1 0) (xs.getD 2 0) (fs.getD 0 (fun _ => 0)) (fs.getD 1 (fun _ => 0)) (fs.getD 2 (fun _ => 0))
  | 25 => NFp (xs.getD 0 0) (xs.getD 1 0) (fs.getD 0 (fun _ => 0))
  | 26 => PKp (xs.getD 0 0) (fs.getD 0 (fun _ => 0))
  | 27 => BTp (xs.getD 0 0) (xs.getD 1 0)
  | 28 => ORp (xs.getD 0 0) (xs.getD 1 0) (xs.getD 2 0) (fs.getD 0 (fun _ => 0))
  | 29 => PLp (xs.getD 0 0) (xs.getD 1 0) (fs.getD 0 (fun _ => 0))
  | 30 => SHp (xs.getD 0 0) (fs.getD 0 (fun _ => 0)) (fs.getD 1 (fun _ => 0))
  | 31 => PQp (xs.getD 0 0) (xs.getD 1 0) (fs.getD 0 (fun _ => 0))
  | 32 => ROp (xs.getD 0 0) (xs.getD 1 0) (fs.getD 0 (fun _ => 0))
  | 33 => BGp (xs.getD 0 0) (xs.getD 1 0) (xs.getD 2 0) (fs.getD 0 (fun _ => 0))
  | 34 => LTp (xs.getD 0 0) (fs.getD 0 (fun _ => 0))
  | 35 => NLp (xs.getD 0 0) (xs.getD 1 0) (fs.getD 0 (fun _ => 0))
  | 36 => PRp (xs.getD 0 0) (xs.getD 1 0) (xs.getD 2 0) (xs.getD 3 0) (xs.getD 4 0) (xs.getD 5 0) (fs.getD 0 (fun _ => 0)) (fs.getD 1 (fun _ => 0)) (fs.getD 2 (fun _ => 0))
  | 37 => OPp (xs.getD 0 0) (xs.getD 1 0) (xs.getD 2 0) (fs.getD 0 (fun _ => 0))
  | 38 => TIp (xs.getD 0 0) (fs.getD 0 (fun _ => 0))
  | 39 => RUq (xs.getD 0 0) (xs.getD 1 0) (fs.getD 0 (fun _ => 0)) (fs.getD 1 (fun _ => 0)) (fs.getD 2 (fun _ => 0))
  | 40 => DEp (xs.getD 0 0) (xs.getD 1 0) (xs.getD 2 0) (xs.getD 3 0) (fs.getD 0 (fun _ => 0))
  | 41 => ZRp (xs.getD 0 0) (fs.getD 0 (fun _ => 0))
  | 42 => DGp (xs.getD 0 0) (fs.getD 0 (fun _ => 0))
  | 43 => NDp (xs.getD 0 0) (xs.getD 1 0) (fs.getD 0 (fun _ => 0))
  | 44 => NIp (xs.getD 0 0) (fs.getD 0 (fun _ => 0))
  | 45 => HSp (xs.getD 0 0) (fs.getD 0 (fun _ => 0)) (fs.getD 1 (fun _ => 0))
  | _ => True
