theorem bm32 {a : Int} (h1 : -2147483648 ≤ a) (h2 : a < 2147483648) : a.bmod (2 ^ 32) = a := by
  rw [Int.bmod_def]
  simp only [show ((2 ^ 32 : Nat) : Int) = 4294967296 from rfl]
  split <;> omega
theorem bm64 {a : Int} (h1 : -9223372036854775808 ≤ a) (h2 : a < 9223372036854775808) : a.bmod (2 ^ 64) = a := by
  rw [Int.bmod_def]
  simp only [show ((2 ^ 64 : Nat) : Int) = 18446744073709551616 from rfl]
  split <;> omega
theorem bm64r (x : Int) : -9223372036854775808 ≤ x.bmod (2 ^ 64) ∧ x.bmod (2 ^ 64) < 9223372036854775808 := by
  rw [Int.bmod_def]
  simp only [show ((2 ^ 64 : Nat) : Int) = 18446744073709551616 from rfl]
  split <;> omega
theorem n32 {a : Int} (h1 : -2147483648 ≤ a) (h2 : a < 2147483648) : (i32 a).toInt = a := by
  have h : (Int32.ofInt a).toInt = a.bmod (2 ^ 32) := Int32.toInt_ofInt
  show (Int32.ofInt a).toInt = a
  rw [h]
  exact bm32 h1 h2
theorem n64 {a : Int} (h1 : -9223372036854775808 ≤ a) (h2 : a < 9223372036854775808) : (i64 a).toInt = a := by
  have h : (Int64.ofInt a).toInt = a.bmod (2 ^ 64) := Int64.toInt_ofInt
  show (Int64.ofInt a).toInt = a
  rw [h]
  exact bm64 h1 h2
theorem i32_add (a b : Int) : i32 (a + b) = i32 a + i32 b := Int32.ofInt_add a b
theorem i32_sub (a b : Int) : i32 (a - b) = i32 a - i32 b := Int32.ofInt_sub a b
theorem i32_mul (a b : Int) : i32 (a * b) = i32 a * i32 b := Int32.ofInt_mul a b
theorem i32_neg (a : Int) : i32 (-a) = -i32 a := Int32.ofInt_neg a
theorem i64_add (a b : Int) : i64 (a + b) = i64 a + i64 b := Int64.ofInt_add a b
theorem i64_sub (a b : Int) : i64 (a - b) = i64 a - i64 b := Int64.ofInt_sub a b
theorem i64_mul (a b : Int) : i64 (a * b) = i64 a * i64 b := Int64.ofInt_mul a b
theorem i64_neg (a : Int) : i64 (-a) = -i64 a := Int64.ofInt_neg a
theorem i_l {a : Int} (h1 : -2147483648 ≤ a) (h2 : a < 2147483648) : (i32 a).toInt64 = i64 a := by
  apply Int64.toInt_inj.mp
  rw [Int32.toInt_toInt64, n32 h1 h2, n64 (by omega) (by omega)]
theorem l_i (a : Int) : (i64 a).toInt32 = i32 a := Int64.toInt32_ofInt
theorem i_lt {a b : Int} (h1 : -2147483648 ≤ a) (h2 : a < 2147483648) (h3 : -2147483648 ≤ b) (h4 : b < 2147483648) : i32 a < i32 b ↔ a < b := by
  rw [Int32.lt_iff_toInt_lt, n32 h1 h2, n32 h3 h4]
theorem i_le {a b : Int} (h1 : -2147483648 ≤ a) (h2 : a < 2147483648) (h3 : -2147483648 ≤ b) (h4 : b < 2147483648) : i32 a ≤ i32 b ↔ a ≤ b := by
  rw [Int32.le_iff_toInt_le, n32 h1 h2, n32 h3 h4]
theorem i_eq {a b : Int} (h1 : -2147483648 ≤ a) (h2 : a < 2147483648) (h3 : -2147483648 ≤ b) (h4 : b < 2147483648) : i32 a = i32 b ↔ a = b := by
  rw [← Int32.toInt_inj, n32 h1 h2, n32 h3 h4]
theorem l_lt {a b : Int} (h1 : -9223372036854775808 ≤ a) (h2 : a < 9223372036854775808) (h3 : -9223372036854775808 ≤ b) (h4 : b < 9223372036854775808) : i64 a < i64 b ↔ a < b := by
  rw [Int64.lt_iff_toInt_lt, n64 h1 h2, n64 h3 h4]
theorem l_eq {a b : Int} (h1 : -9223372036854775808 ≤ a) (h2 : a < 9223372036854775808) (h3 : -9223372036854775808 ≤ b) (h4 : b < 9223372036854775808) : i64 a = i64 b ↔ a = b := by
  rw [← Int64.toInt_inj, n64 h1 h2, n64 h3 h4]
/-- a quotient's bounds -/
theorem tdiv_bd {a b M : Int} (h1 : -M ≤ a) (h2 : a ≤ M) : -M ≤ a.tdiv b ∧ a.tdiv b ≤ M := by
  have h : (a.tdiv b).natAbs ≤ a.natAbs := by
    rw [Int.natAbs_tdiv]
    exact Nat.div_le_self _ _
  omega
theorem i_div {a b : Int} (h1 : -2147483648 < a) (h2 : a < 2147483648) (h3 : -2147483648 ≤ b) (h4 : b < 2147483648) : i32 a / i32 b = i32 (a.tdiv b) := by
  apply Int32.toInt_inj.mp
  have hb := tdiv_bd (a := a) (b := b) (M := 2147483647) (by omega) (by omega)
  rw [Int32.toInt_div, n32 (by omega) h2, n32 h3 h4, n32 (by omega) (by omega)]
  exact bm32 (by omega) (by omega)
theorem l_div {a b : Int} (h1 : -9223372036854775808 < a) (h2 : a < 9223372036854775808) (h3 : -9223372036854775808 ≤ b) (h4 : b < 9223372036854775808) : i64 a / i64 b = i64 (a.tdiv b) := by
  apply Int64.toInt_inj.mp
  have hb := tdiv_bd (a := a) (b := b) (M := 9223372036854775807) (by omega) (by omega)
  rw [Int64.toInt_div, n64 (by omega) h2, n64 h3 h4, n64 (by omega) (by omega)]
  exact bm64 (by omega) (by omega)
theorem i_rem {a b : Int} (h1 : -2147483648 < a) (h2 : a < 2147483648) (h3 : -2147483648 ≤ b) (h4 : b < 2147483648) : i32 a - i32 a / i32 b * i32 b = i32 (a.tmod b) := by
  rw [i_div h1 h2 h3 h4, ← i32_mul, ← i32_sub, Int.tmod_def, Int.mul_comm]
theorem l_rem {a b : Int} (h1 : -9223372036854775808 < a) (h2 : a < 9223372036854775808) (h3 : -9223372036854775808 ≤ b) (h4 : b < 9223372036854775808) : i64 a - i64 a / i64 b * i64 b = i64 (a.tmod b) := by
  rw [l_div h1 h2 h3 h4, ← i64_mul, ← i64_sub, Int.tmod_def, Int.mul_comm]
def cmpI (x y : Int) : Int := if x < y then -1 else if x = y then 0 else 1
theorem l_cmp {a b : Int} (h1 : -9223372036854775808 ≤ a) (h2 : a < 9223372036854775808) (h3 : -9223372036854775808 ≤ b) (h4 : b < 9223372036854775808) : lg_cmp (i64 a) (i64 b) = i32 (cmpI a b) := by
  have e1 := l_lt h1 h2 h3 h4
  have e2 := l_eq h1 h2 h3 h4
  have e3 := l_lt h3 h4 h1 h2
  unfold lg_cmp cmpI
  by_cases h : a < b
  · have h6 : ¬ i64 b < i64 a := fun q => by have := e3.mp q; omega
    have h8 : ¬ i64 a = i64 b := fun q => by have := e2.mp q; omega
    simp [h, h6, h8]
  · by_cases h' : a = b
    · subst h'; simp [Int64.lt_irrefl]; rfl
    · have h5 : b < a := by omega
      have h6 := e3.mpr h5
      have h7 : ¬ i64 a < i64 b := fun q => h (e1.mp q)
      have h8 : ¬ i64 a = i64 b := fun q => h' (e2.mp q)
      simp [h, h', h6]; rfl
/-- the comparison of two longs, whatever their range -/
def c64 (x y : Int) : Int := cmpI (x.bmod (2 ^ 64)) (y.bmod (2 ^ 64))
theorem i64_bmod (a : Int) : i64 (a.bmod (2 ^ 64)) = i64 a := by
  apply Int64.toInt_inj.mp
  rw [n64 (bm64r a).1 (bm64r a).2]
  have h2 : (i64 a).toInt = a.bmod (2 ^ 64) := Int64.toInt_ofInt
  rw [h2]
theorem l_cmpG (a b : Int) : lg_cmp (i64 a) (i64 b) = i32 (c64 a b) := by
  rw [← i64_bmod a, ← i64_bmod b]
  exact l_cmp (bm64r a).1 (bm64r a).2 (bm64r b).1 (bm64r b).2
theorem c64_self (a : Int) : c64 a a = 0 := by simp [c64, cmpI]
theorem c64_in {a b : Int} (h1 : -9223372036854775808 ≤ a) (h2 : a < 9223372036854775808) (h3 : -9223372036854775808 ≤ b) (h4 : b < 9223372036854775808) : c64 a b = cmpI a b := by
  unfold c64
  rw [bm64 h1 h2, bm64 h3 h4]
theorem nat_in {k : Int} {n : Nat} (h0 : 0 ≤ k) (h1 : k < (n : Int)) (hn : n < 2147483648) : vp_in (i32 k) n ∧ (i32 k).toNatClampNeg = k.toNat := by
  have e := n32 (a := k) (by omega) (by omega)
  have e2 : (i32 k).toNatClampNeg = k.toNat := by
    show (i32 k).toInt.toNat = k.toNat
    rw [e]
  refine ⟨?_, e2⟩
  rw [vp_in_iff, e]
  exact ⟨h0, h1⟩
