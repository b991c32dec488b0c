/-! ===== pure rows ===== -/
theorem pow_le_128 {n : Nat} (h : n ≤ 7) : 2 ^ n ≤ 128 := Nat.pow_le_pow_right (by decide) h
theorem pow_le_64 {n : Nat} (h : n ≤ 6) : 2 ^ n ≤ 64 := Nat.pow_le_pow_right (by decide) h
theorem pow_le_m18 {d : Nat} (h : d ≤ 3) : 2 ^ (d * 6) ≤ 262144 := Nat.pow_le_pow_right (n := 2) (by decide) (show d * 6 ≤ 18 by omega)
theorem bars_lt {n d : Nat} (h : n ≤ 6) (hd : d ≤ 3) : (2 ^ n - 1) * 2 ^ (d * 6) < 16777216 := by
  have h1 := pow_le_64 h
  have h2 := pow_le_m18 hd
  have h3 : (2 ^ n - 1) * 2 ^ (d * 6) ≤ 63 * 262144 := Nat.mul_le_mul (by omega) h2
  omega
