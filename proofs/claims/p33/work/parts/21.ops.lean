/-! a checker of walks: what an instruction's number can be -/
theorem t_rng32 (x : Int32) : -2147483648 ≤ x.toInt ∧ x.toInt ≤ 2147483647 := by
  have h1 := x.le_toInt
  have h2 := x.toInt_lt
  omega
theorem t_of32 {n : Int} (h1 : -2147483648 ≤ n) (h2 : n ≤ 2147483647) : (Int32.ofInt n).toInt = n := Int32.toInt_ofInt_of_le (by omega) (by omega)
theorem t_rng64 (x : Int64) : -9223372036854775808 ≤ x.toInt ∧ x.toInt ≤ 9223372036854775807 := by
  have h1 := x.le_toInt
  have h2 := x.toInt_lt
  omega
theorem t_of64 {n : Int} (h1 : -9223372036854775808 ≤ n) (h2 : n ≤ 9223372036854775807) : (Int64.ofInt n).toInt = n := Int64.toInt_ofInt_of_le (by omega) (by omega)
def sx_full : Int × Int := (-2147483648, 2147483647)
def sx_full64 : Int × Int := (-9223372036854775808, 9223372036854775807)
def sx_in32 (a b : Int) : Bool := sx_le (-2147483648) a && sx_le b 2147483647
def sx_in64 (a b : Int) : Bool := sx_le (-9223372036854775808) a && sx_le b 9223372036854775807
theorem sx_in32_ok {a b : Int} (h : sx_in32 a b = true) : -2147483648 ≤ a ∧ b ≤ 2147483647 := by
  unfold sx_in32 at h
  rw [Bool.and_eq_true] at h
  exact ⟨sx_le_iff.mp h.1, sx_le_iff.mp h.2⟩
theorem sx_in64_ok {a b : Int} (h : sx_in64 a b = true) : -9223372036854775808 ≤ a ∧ b ≤ 9223372036854775807 := by
  unfold sx_in64 at h
  rw [Bool.and_eq_true] at h
  exact ⟨sx_le_iff.mp h.1, sx_le_iff.mp h.2⟩
theorem t_bm32 {n : Int} (h1 : -2147483648 ≤ n) (h2 : n ≤ 2147483647) : n.bmod (2 ^ 32) = n := Int.bmod_eq_of_le (by omega) (by omega)
theorem t_bm64 {n : Int} (h1 : -9223372036854775808 ≤ n) (h2 : n ≤ 9223372036854775807) : n.bmod (2 ^ 64) = n := Int.bmod_eq_of_le (by omega) (by omega)
/-- [a, b] times [c, d], none below 0 -/
theorem t_mulb {a b c d x y : Int} (ha : 0 ≤ a) (hc : 0 ≤ c) (h1 : a ≤ x) (h2 : x ≤ b) (h3 : c ≤ y) (h4 : y ≤ d) : a * c ≤ x * y ∧ x * y ≤ b * d :=
  ⟨Int.mul_le_mul h1 h3 hc (by omega), Int.mul_le_mul h2 h4 (by omega) (by omega)⟩
def sx_mul (a b c d : Int) : Int × Int := if sx_le 0 a && sx_le 0 c && sx_in32 0 (b * d) then (a * c, b * d) else sx_full
def sx_mul64 (a b c d : Int) : Int × Int := if sx_le 0 a && sx_le 0 c && sx_in64 0 (b * d) then (a * c, b * d) else sx_full64
def sx_and (a b c d : Int) : Int × Int :=
  if sx_le 0 c then (if sx_le 0 a then (0, sx_min b d) else (0, d)) else if sx_le 0 a then (0, b) else sx_full
def sx_or (a b c d : Int) : Int × Int :=
  if sx_le 0 a && sx_le 0 c then (0, ((2 ^ (Nat.log2 (b.toNat ||| d.toNat) + 1) : Nat) : Int) - 1) else sx_full
def sx_shl (a b c d : Int) : Int × Int :=
  if sx_le 0 a && sx_le 0 c && sx_le d 31 && sx_in32 0 (b * ((2 ^ d.toNat : Nat) : Int)) then (a * ((2 ^ c.toNat : Nat) : Int), b * ((2 ^ d.toNat : Nat) : Int)) else sx_full
def sx_shr (a b c d : Int) : Int × Int :=
  if sx_le 0 a && sx_le 0 c && sx_le d 31 then (0, b / ((2 ^ c.toNat : Nat) : Int)) else sx_full
def sx_div (i64 : Bool) (a b c _d : Int) : Int × Int :=
  if sx_le 0 a && sx_le 1 c then (0, b / c) else if i64 then sx_full64 else sx_full
def sx_rem (i64 : Bool) (a b c d : Int) : Int × Int :=
  if sx_le 1 c then (if sx_le 0 a then (0, sx_min b (d - 1)) else (1 - d, d - 1)) else if i64 then sx_full64 else sx_full
theorem sx_mul_ok {x y : Int32} {a b c d : Int} (h1 : a ≤ x.toInt) (h2 : x.toInt ≤ b) (h3 : c ≤ y.toInt) (h4 : y.toInt ≤ d) : (sx_mul a b c d).1 ≤ (x * y).toInt ∧ (x * y).toInt ≤ (sx_mul a b c d).2 := by
  unfold sx_mul
  split
  · rename_i hc
    simp only [Bool.and_eq_true] at hc
    obtain ⟨⟨ha, hc'⟩, hr⟩ := hc
    have hb := t_mulb (sx_le_iff.mp ha) (sx_le_iff.mp hc') h1 h2 h3 h4
    have hin := sx_in32_ok hr
    have h0 : 0 ≤ a * c := Int.mul_nonneg (sx_le_iff.mp ha) (sx_le_iff.mp hc')
    rw [Int32.toInt_mul, t_bm32 (by omega) (by omega)]
    exact hb
  · exact t_rng32 _
theorem sx_mul64_ok {x y : Int64} {a b c d : Int} (h1 : a ≤ x.toInt) (h2 : x.toInt ≤ b) (h3 : c ≤ y.toInt) (h4 : y.toInt ≤ d) : (sx_mul64 a b c d).1 ≤ (x * y).toInt ∧ (x * y).toInt ≤ (sx_mul64 a b c d).2 := by
  unfold sx_mul64
  split
  · rename_i hc
    simp only [Bool.and_eq_true] at hc
    obtain ⟨⟨ha, hc'⟩, hr⟩ := hc
    have hb := t_mulb (sx_le_iff.mp ha) (sx_le_iff.mp hc') h1 h2 h3 h4
    have hin := sx_in64_ok hr
    have h0 : 0 ≤ a * c := Int.mul_nonneg (sx_le_iff.mp ha) (sx_le_iff.mp hc')
    rw [Int64.toInt_mul, t_bm64 (by omega) (by omega)]
    exact hb
  · exact t_rng64 _
/-- a number that isn't below 0, as bits -/
theorem t_nat (x : Int32) (h : 0 ≤ x.toInt) : ∃ n : Nat, n < 2 ^ 31 ∧ x = nI n ∧ x.toInt = n := by
  have h2 := (t_rng32 x).2
  refine ⟨x.toInt.toNat, by omega, ?_, by omega⟩
  apply Int32.toInt_inj.mp
  rw [nI_toInt (by omega)]
  omega
theorem t_and_le (x y : Int32) (h : 0 ≤ y.toInt) : 0 ≤ (x &&& y).toInt ∧ (x &&& y).toInt ≤ y.toInt := by
  obtain ⟨n, hn, rfl, hy⟩ := t_nat y h
  have e : (x &&& nI n).toBitVec.toNat = x.toBitVec.toNat &&& n := by
    rw [Int32.toBitVec_and, BitVec.toNat_and, pk_tn (by omega)]
  have hle : x.toBitVec.toNat &&& n ≤ n := Nat.and_le_right
  have h3 : (x &&& nI n) = nI (x.toBitVec.toNat &&& n) := by
    apply Int32.toBitVec_inj.mp
    apply BitVec.eq_of_toNat_eq
    rw [e, pk_tn (by omega)]
  rw [h3, nI_toInt (by omega), nI_toInt hn]
  omega
theorem t_and_comm (x y : Int32) : x &&& y = y &&& x := Int32.and_comm x y
theorem sx_and_ok {x y : Int32} {a b c d : Int} (h1 : a ≤ x.toInt) (h2 : x.toInt ≤ b) (h3 : c ≤ y.toInt) (h4 : y.toInt ≤ d) : (sx_and a b c d).1 ≤ (x &&& y).toInt ∧ (x &&& y).toInt ≤ (sx_and a b c d).2 := by
  unfold sx_and
  split
  · rename_i hc
    have hy := t_and_le x y (by have := sx_le_iff.mp hc; omega)
    split
    · rename_i ha
      have hx := t_and_le y x (by have := sx_le_iff.mp ha; omega)
      rw [t_and_comm y x] at hx
      exact ⟨hy.1, sx_min_or (by omega) (by omega)⟩
    · exact ⟨hy.1, by show _ ≤ d; omega⟩
  · split
    · rename_i ha
      have hx := t_and_le y x (by have := sx_le_iff.mp ha; omega)
      rw [t_and_comm y x] at hx
      exact ⟨hx.1, by show _ ≤ b; omega⟩
    · exact t_rng32 _
theorem sx_or_ok {x y : Int32} {a b c d : Int} (h1 : a ≤ x.toInt) (h2 : x.toInt ≤ b) (h3 : c ≤ y.toInt) (h4 : y.toInt ≤ d) : (sx_or a b c d).1 ≤ (x ||| y).toInt ∧ (x ||| y).toInt ≤ (sx_or a b c d).2 := by
  unfold sx_or
  split
  · rename_i hc
    simp only [Bool.and_eq_true] at hc
    have ha := sx_le_iff.mp hc.1
    have hc' := sx_le_iff.mp hc.2
    obtain ⟨n, hn, rfl, hx⟩ := t_nat x (by omega)
    obtain ⟨k, hk, rfl, hy⟩ := t_nat y (by omega)
    have e : (nI n ||| nI k) = nI (n ||| k) := by
      apply Int32.toBitVec_inj.mp
      apply BitVec.eq_of_toNat_eq
      have hlt : n ||| k < 2 ^ 32 := Nat.or_lt_two_pow (by omega) (by omega)
      rw [Int32.toBitVec_or, BitVec.toNat_or, pk_tn (by omega), pk_tn (by omega), pk_tn hlt]
    have hlt : n ||| k < 2 ^ 31 := Nat.or_lt_two_pow hn hk
    rw [e, nI_toInt hlt]
    refine ⟨by show (0 : Int) ≤ _; omega, ?_⟩
    have q1 : b.toNat < 2 ^ (Nat.log2 (b.toNat ||| d.toNat) + 1) := Nat.lt_of_le_of_lt Nat.left_le_or Nat.lt_log2_self
    have q2 : d.toNat < 2 ^ (Nat.log2 (b.toNat ||| d.toNat) + 1) := Nat.lt_of_le_of_lt Nat.right_le_or Nat.lt_log2_self
    have q3 : n ||| k < 2 ^ (Nat.log2 (b.toNat ||| d.toNat) + 1) := Nat.or_lt_two_pow (by omega) (by omega)
    show ((n ||| k : Nat) : Int) ≤ ((2 ^ (Nat.log2 (b.toNat ||| d.toNat) + 1) : Nat) : Int) - 1
    omega
  · exact t_rng32 _
theorem t_and31 {k : Nat} (h : k < 32) : ((nI k &&& 31).toBitVec.smod 32).toNat = k := by
  have : ∀ j : Fin 32, ((nI j.val &&& 31).toBitVec.smod 32).toNat = j.val := by decide +kernel
  exact this ⟨k, h⟩
theorem t_pow_le {a b : Nat} (h : a ≤ b) : 2 ^ a ≤ 2 ^ b := Nat.pow_le_pow_right (by omega) h
theorem sx_shl_ok {x y : Int32} {a b c d : Int} (h1 : a ≤ x.toInt) (h2 : x.toInt ≤ b) (h3 : c ≤ y.toInt) (h4 : y.toInt ≤ d) : (sx_shl a b c d).1 ≤ (x <<< (y &&& 31)).toInt ∧ (x <<< (y &&& 31)).toInt ≤ (sx_shl a b c d).2 := by
  unfold sx_shl
  split
  · rename_i hc
    simp only [Bool.and_eq_true] at hc
    obtain ⟨⟨⟨ha, hc'⟩, hd⟩, hr⟩ := hc
    have ha := sx_le_iff.mp ha
    have hc' := sx_le_iff.mp hc'
    have hd := sx_le_iff.mp hd
    have hr := (sx_in32_ok hr).2
    obtain ⟨n, hn, rfl, hx⟩ := t_nat x (by omega)
    obtain ⟨k, hk, rfl, hy⟩ := t_nat y (by omega)
    have p1 : 2 ^ c.toNat ≤ 2 ^ k := t_pow_le (by omega)
    have p2 : 2 ^ k ≤ 2 ^ d.toNat := t_pow_le (by omega)
    have m2 : n * 2 ^ k ≤ b.toNat * 2 ^ d.toNat := Nat.mul_le_mul (by omega) p2
    have m1 : a.toNat * 2 ^ c.toNat ≤ n * 2 ^ k := Nat.mul_le_mul (by omega) p1
    have e2 : b * ((2 ^ d.toNat : Nat) : Int) = ((b.toNat * 2 ^ d.toNat : Nat) : Int) := by
      rw [Int.natCast_mul]
      congr 1
      omega
    have e1 : a * ((2 ^ c.toNat : Nat) : Int) = ((a.toNat * 2 ^ c.toNat : Nat) : Int) := by
      rw [Int.natCast_mul]
      congr 1
      omega
    rw [e2] at hr
    have hlt : n * 2 ^ k < 2 ^ 31 := by omega
    rw [pk_shlN (n := n) (nI k &&& 31) k (t_and31 (by omega)) (by omega), nI_toInt hlt]
    exact ⟨by rw [e1]; exact Int.ofNat_le.mpr m1, by rw [e2]; exact Int.ofNat_le.mpr m2⟩
  · exact t_rng32 _
theorem sx_shr_ok {x y : Int32} {a b c d : Int} (h1 : a ≤ x.toInt) (h2 : x.toInt ≤ b) (h3 : c ≤ y.toInt) (h4 : y.toInt ≤ d) : (sx_shr a b c d).1 ≤ (x >>> (y &&& 31)).toInt ∧ (x >>> (y &&& 31)).toInt ≤ (sx_shr a b c d).2 := by
  unfold sx_shr
  split
  · rename_i hc
    simp only [Bool.and_eq_true] at hc
    obtain ⟨⟨ha, hc'⟩, hd⟩ := hc
    have ha := sx_le_iff.mp ha
    have hc' := sx_le_iff.mp hc'
    have hd := sx_le_iff.mp hd
    obtain ⟨n, hn, rfl, hx⟩ := t_nat x (by omega)
    obtain ⟨k, hk, rfl, hy⟩ := t_nat y (by omega)
    rw [pk_shrN hn (nI k &&& 31) k (t_and31 (by omega)), nI_toInt (Nat.lt_of_le_of_lt (Nat.div_le_self _ _) hn)]
    refine ⟨Int.natCast_nonneg _, ?_⟩
    show ((n / 2 ^ k : Nat) : Int) ≤ b / ((2 ^ c.toNat : Nat) : Int)
    have p1 : 2 ^ c.toNat ≤ 2 ^ k := t_pow_le (by omega)
    have p0 : 0 < 2 ^ c.toNat := Nat.two_pow_pos _
    have e : b / ((2 ^ c.toNat : Nat) : Int) = ((b.toNat / 2 ^ c.toNat : Nat) : Int) := by
      rw [Int.natCast_ediv]
      congr 1
      omega
    rw [e]
    exact Int.ofNat_le.mpr (Nat.le_trans (Nat.div_le_div_left p1 p0) (Nat.div_le_div_right (by omega)))
  · exact t_rng32 _
theorem sx_div_ok {x y : Int32} {a b c d : Int} (h1 : a ≤ x.toInt) (h2 : x.toInt ≤ b) (h3 : c ≤ y.toInt) (h4 : y.toInt ≤ d) : (sx_div false a b c d).1 ≤ (x / y).toInt ∧ (x / y).toInt ≤ (sx_div false a b c d).2 := by
  unfold sx_div
  split
  · rename_i hc
    simp only [Bool.and_eq_true] at hc
    have ha := sx_le_iff.mp hc.1
    have hc' := sx_le_iff.mp hc.2
    have hne : y ≠ -1 := fun h => by subst h; have : (-1 : Int32).toInt = -1 := rfl; omega
    rw [Int32.toInt_div_of_ne_right x y hne, Int.tdiv_eq_ediv_of_nonneg (by omega)]
    refine ⟨Int.ediv_nonneg (by omega) (by omega), ?_⟩
    show x.toInt / y.toInt ≤ b / c
    exact Int.le_trans (Int.ediv_le_ediv (by omega) h2) (by
      have hb : 0 ≤ b := by omega
      obtain ⟨bn, rfl⟩ := Int.eq_ofNat_of_zero_le hb
      obtain ⟨cn, rfl⟩ := Int.eq_ofNat_of_zero_le (show 0 ≤ c by omega)
      obtain ⟨yn, hyn⟩ := Int.eq_ofNat_of_zero_le (show 0 ≤ y.toInt by omega)
      rw [hyn, ← Int.natCast_ediv, ← Int.natCast_ediv]
      exact Int.ofNat_le.mpr (Nat.div_le_div_left (by omega) (by omega)))
  · exact t_rng32 _
theorem sx_div64_ok {x y : Int64} {a b c d : Int} (h1 : a ≤ x.toInt) (h2 : x.toInt ≤ b) (h3 : c ≤ y.toInt) (h4 : y.toInt ≤ d) : (sx_div true a b c d).1 ≤ (x / y).toInt ∧ (x / y).toInt ≤ (sx_div true a b c d).2 := by
  unfold sx_div
  split
  · rename_i hc
    simp only [Bool.and_eq_true] at hc
    have ha := sx_le_iff.mp hc.1
    have hc' := sx_le_iff.mp hc.2
    have hne : y ≠ -1 := fun h => by subst h; have : (-1 : Int64).toInt = -1 := rfl; omega
    rw [Int64.toInt_div_of_ne_right x y hne, Int.tdiv_eq_ediv_of_nonneg (by omega)]
    refine ⟨Int.ediv_nonneg (by omega) (by omega), ?_⟩
    show x.toInt / y.toInt ≤ b / c
    exact Int.le_trans (Int.ediv_le_ediv (by omega) h2) (by
      have hb : 0 ≤ b := by omega
      obtain ⟨bn, rfl⟩ := Int.eq_ofNat_of_zero_le hb
      obtain ⟨cn, rfl⟩ := Int.eq_ofNat_of_zero_le (show 0 ≤ c by omega)
      obtain ⟨yn, hyn⟩ := Int.eq_ofNat_of_zero_le (show 0 ≤ y.toInt by omega)
      rw [hyn, ← Int.natCast_ediv, ← Int.natCast_ediv]
      exact Int.ofNat_le.mpr (Nat.div_le_div_left (by omega) (by omega)))
  · exact t_rng64 _
theorem t_tmodb {x y : Int} (hy : 1 ≤ y) : 1 - y ≤ x - x.tdiv y * y ∧ x - x.tdiv y * y ≤ y - 1 ∧ (0 ≤ x → 0 ≤ x - x.tdiv y * y ∧ x - x.tdiv y * y ≤ x) := by
  have e : x - x.tdiv y * y = x.tmod y := by rw [Int.tmod_def, Int.mul_comm]
  rw [e]
  have h1 := Int.tmod_lt_of_pos x (show 0 < y by omega)
  have h2 := Int.lt_tmod_of_pos x (show 0 < y by omega)
  refine ⟨by omega, by omega, fun hx => ?_⟩
  rw [Int.tmod_eq_emod_of_nonneg hx]
  have h3 := Int.emod_nonneg x (show y ≠ 0 by omega)
  have h4 : x % y ≤ x := by
    obtain ⟨xn, rfl⟩ := Int.eq_ofNat_of_zero_le hx
    obtain ⟨yn, rfl⟩ := Int.eq_ofNat_of_zero_le (show 0 ≤ y by omega)
    rw [← Int.natCast_emod]
    exact Int.ofNat_le.mpr (Nat.mod_le _ _)
  omega
theorem t_rem32 {x y : Int32} (hy : 1 ≤ y.toInt) : (x - x / y * y).toInt = x.toInt - x.toInt.tdiv y.toInt * y.toInt := by
  have hne : y ≠ -1 := fun h => by subst h; have : (-1 : Int32).toInt = -1 := rfl; omega
  have hx := t_rng32 x
  have hyr := t_rng32 y
  have h1 := t_tmodb (x := x.toInt) hy
  have e := Int32.toInt_div_of_ne_right x y hne
  have e2 : x - x / y * y = Int32.ofInt (x.toInt - x.toInt.tdiv y.toInt * y.toInt) := by
    rw [Int32.ofInt_sub, Int32.ofInt_mul, Int32.ofInt_toInt, ← e, Int32.ofInt_toInt, Int32.ofInt_toInt]
  rw [e2, t_of32 (by omega) (by omega)]
theorem t_rem64 {x y : Int64} (hy : 1 ≤ y.toInt) : (x - x / y * y).toInt = x.toInt - x.toInt.tdiv y.toInt * y.toInt := by
  have hne : y ≠ -1 := fun h => by subst h; have : (-1 : Int64).toInt = -1 := rfl; omega
  have hx := t_rng64 x
  have hyr := t_rng64 y
  have h1 := t_tmodb (x := x.toInt) hy
  have e := Int64.toInt_div_of_ne_right x y hne
  have e2 : x - x / y * y = Int64.ofInt (x.toInt - x.toInt.tdiv y.toInt * y.toInt) := by
    rw [Int64.ofInt_sub, Int64.ofInt_mul, Int64.ofInt_toInt, ← e, Int64.ofInt_toInt, Int64.ofInt_toInt]
  rw [e2, t_of64 (by omega) (by omega)]
theorem sx_rem_ok {x y : Int32} {a b c d : Int} (h1 : a ≤ x.toInt) (h2 : x.toInt ≤ b) (h3 : c ≤ y.toInt) (h4 : y.toInt ≤ d) : (sx_rem false a b c d).1 ≤ (x - x / y * y).toInt ∧ (x - x / y * y).toInt ≤ (sx_rem false a b c d).2 := by
  unfold sx_rem
  split
  · rename_i hc
    have hc := sx_le_iff.mp hc
    have hy : 1 ≤ y.toInt := by omega
    have hb := t_tmodb (x := x.toInt) hy
    rw [t_rem32 hy]
    split
    · rename_i ha
      have ha := sx_le_iff.mp ha
      have h5 := hb.2.2 (by omega)
      exact ⟨h5.1, sx_min_or (by omega) (by omega)⟩
    · constructor
      · show 1 - d ≤ _
        omega
      · show _ ≤ d - 1
        omega
  · exact t_rng32 _
theorem sx_rem64_ok {x y : Int64} {a b c d : Int} (h1 : a ≤ x.toInt) (h2 : x.toInt ≤ b) (h3 : c ≤ y.toInt) (h4 : y.toInt ≤ d) : (sx_rem true a b c d).1 ≤ (x - x / y * y).toInt ∧ (x - x / y * y).toInt ≤ (sx_rem true a b c d).2 := by
  unfold sx_rem
  split
  · rename_i hc
    have hc := sx_le_iff.mp hc
    have hy : 1 ≤ y.toInt := by omega
    have hb := t_tmodb (x := x.toInt) hy
    rw [t_rem64 hy]
    split
    · rename_i ha
      have ha := sx_le_iff.mp ha
      have h5 := hb.2.2 (by omega)
      exact ⟨h5.1, sx_min_or (by omega) (by omega)⟩
    · constructor
      · show 1 - d ≤ _
        omega
      · show _ ≤ d - 1
        omega
  · exact t_rng64 _
