/-! longs that stand for naturals -/
theorem i64_lit {n : Nat} (h : n < 2 ^ 62) : (Int64.ofNat n).toInt = (n : Int) := Int64.toInt_ofNat_of_lt (by omega)
theorem i64_of {n : Nat} (h : n < 2 ^ 31) : (nI n).toInt64.toInt = (n : Int) := by
  rw [Int32.toInt_toInt64, nI_toInt h]
theorem i64_add {x y : Int64} {a b : Nat} (hx : x.toInt = (a : Int)) (hy : y.toInt = (b : Int)) (h : a + b < 2 ^ 62) : (x + y).toInt = ((a + b : Nat) : Int) := by
  rw [Int64.toInt_add, hx, hy]
  exact Int.bmod_eq_of_le (by omega) (by omega)
theorem i64_sub {x y : Int64} {a b : Nat} (hx : x.toInt = (a : Int)) (hy : y.toInt = (b : Int)) (hb : b ≤ a) (h : a < 2 ^ 62) : (x - y).toInt = ((a - b : Nat) : Int) := by
  rw [Int64.toInt_sub, hx, hy]
  have e : ((a - b : Nat) : Int) = (a : Int) - b := Int.ofNat_sub hb
  rw [e]
  exact Int.bmod_eq_of_le (by omega) (by omega)
theorem i64_mul {x y : Int64} {a b : Nat} (hx : x.toInt = (a : Int)) (hy : y.toInt = (b : Int)) (h : a * b < 2 ^ 62) : (x * y).toInt = ((a * b : Nat) : Int) := by
  rw [Int64.toInt_mul, hx, hy, ← Int.natCast_mul]
  exact Int.bmod_eq_of_le (by omega) (by omega)
theorem i64_div {x y : Int64} {a b : Nat} (hx : x.toInt = (a : Int)) (hy : y.toInt = (b : Int)) (h : a < 2 ^ 62) : (x / y).toInt = ((a / b : Nat) : Int) := by
  have hd : a / b ≤ a := Nat.div_le_self a b
  rw [Int64.toInt_div, hx, hy, show (a : Int).tdiv (b : Int) = ((a / b : Nat) : Int) from rfl]
  generalize a / b = q at hd ⊢
  exact Int.bmod_eq_of_le (by omega) (by omega)
theorem i64_rem {x y : Int64} {a b : Nat} (hx : x.toInt = (a : Int)) (hy : y.toInt = (b : Int)) (h : a < 2 ^ 62) : (x - x / y * y).toInt = ((a % b : Nat) : Int) := by
  have hd : a / b * b ≤ a := Nat.div_mul_le_self a b
  have e := i64_sub hx (i64_mul (i64_div hx hy h) hy (by omega)) hd h
  rw [e]
  have := Nat.div_add_mod' a b
  omega
theorem i64_int {x : Int64} {n : Nat} (hx : x.toInt = (n : Int)) (h : n < 2 ^ 31) : x.toInt32 = nI n := by
  apply Int32.toInt_inj.mp
  rw [Int64.toInt_toInt32, hx, nI_toInt h]
  exact Int.bmod_eq_of_le (by omega) (by omega)
theorem yr_long {y : Nat} (hy : y < 65537) : ((75 * (nI y).toInt64 + 74) - (75 * (nI y).toInt64 + 74) / 65537 * 65537 : Int64).toInt32 = nI (yrX y) := by
  have h75 : (75 : Int64).toInt = ((75 : Nat) : Int) := by decide
  have h74 : (74 : Int64).toInt = ((74 : Nat) : Int) := by decide
  have h37 : (65537 : Int64).toInt = ((65537 : Nat) : Int) := by decide
  have hm : yrX y < 65537 := Nat.mod_lt _ (by decide)
  exact i64_int (i64_rem (i64_add (i64_mul h75 (i64_of (by omega)) (by omega)) h74 (by omega)) h37 (by omega)) (by omega)
