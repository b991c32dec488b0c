/-! ===== the class's calls that change it ===== -/
def sp_change (v : Nat → Nat → Nat) (c : Nat → Nat → Int32) (u : (Nat → Nat → Nat) × (Nat → Nat → Int32)) (x y z r : Int32) : Prop :=
  ((¬ ∃ d j, d < v 11 1 ∧ j < v 13 d ∧ x = nI d ∧ y = nI j) ∧ r = -1 ∧ u.1 3 = v 3 ∧ u.1 11 = v 11 ∧ u.1 12 = v 12 ∧ u.1 13 = v 13 ∧ u.1 14 = v 14 ∧ u.1 15 = v 15 ∧ u.1 16 = v 16 ∧ u.1 17 = v 17 ∧ u.1 23 = v 23 ∧ u.1 24 = v 24 ∧ u.2 2 = c 2 ∧ u.2 4 = c 4 ∧ u.2 0 7 = c 0 7 ∧ u.1 0 8 = v 0 8) ∨ ∃ d j, d < v 11 1 ∧ j < v 13 d ∧ x = nI d ∧ y = nI j ∧ (((¬ ∃ q, q < 2 ^ v 11 0 ∧ pc q ≤ 4 ∧ z = nI q) ∧ r = -2 ∧ u.1 3 = v 3 ∧ u.1 11 = v 11 ∧ u.1 12 = v 12 ∧ u.1 13 = v 13 ∧ u.1 14 = v 14 ∧ u.1 15 = v 15 ∧ u.1 16 = v 16 ∧ u.1 17 = v 17 ∧ u.1 23 = v 23 ∧ u.1 24 = v 24 ∧ u.2 2 = c 2 ∧ u.2 4 = c 4 ∧ u.2 0 7 = c 0 7 ∧ u.1 0 8 = v 0 8) ∨ ∃ q, q < 2 ^ v 11 0 ∧ pc q ≤ 4 ∧ z = nI q ∧ r = nI (v 14 (d * 6 + j)) ∧ u.1 14 = va_up (v 14) (d * 6 + j) q ∧ u.1 3 = v 3 ∧ u.1 11 = v 11 ∧ u.1 12 = v 12 ∧ u.1 13 = v 13 ∧ u.1 15 = v 15 ∧ u.1 16 = v 16 ∧ u.1 17 = v 17 ∧ u.1 23 = v 23 ∧ u.1 24 = v 24 ∧ u.2 2 = c 2 ∧ u.2 4 = c 4 ∧ u.2 0 7 = c 0 7 ∧ u.1 0 8 = v 0 8)
def sp_dancer (v : Nat → Nat → Nat) (c : Nat → Nat → Int32) (u : (Nat → Nat → Nat) × (Nat → Nat → Int32)) (x y r : Int32) : Prop :=
  ((¬ ∃ k q, k < 3 ∧ 1 ≤ q ∧ q ≤ 9 ∧ x = nI k ∧ y = nI q) ∧ r = -2 ∧ u.1 3 = v 3 ∧ u.1 11 = v 11 ∧ u.1 12 = v 12 ∧ u.1 13 = v 13 ∧ u.1 14 = v 14 ∧ u.1 15 = v 15 ∧ u.1 16 = v 16 ∧ u.1 17 = v 17 ∧ u.1 23 = v 23 ∧ u.1 24 = v 24 ∧ u.2 2 = c 2 ∧ u.2 4 = c 4 ∧ u.2 0 7 = c 0 7 ∧ u.1 0 8 = v 0 8) ∨ ∃ k q, k < 3 ∧ 1 ≤ q ∧ q ≤ 9 ∧ x = nI k ∧ y = nI q ∧ ((v 11 1 = 0 ∧ r = -3 ∧ u.1 3 = v 3 ∧ u.1 11 = v 11 ∧ u.1 12 = v 12 ∧ u.1 13 = v 13 ∧ u.1 14 = v 14 ∧ u.1 15 = v 15 ∧ u.1 16 = v 16 ∧ u.1 17 = v 17 ∧ u.1 23 = v 23 ∧ u.1 24 = v 24 ∧ u.2 2 = c 2 ∧ u.2 4 = c 4 ∧ u.2 0 7 = c 0 7 ∧ u.1 0 8 = v 0 8) ∨ (0 < v 11 1 ∧ 4 ≤ v 15 0 ∧ r = -4 ∧ u.1 3 = v 3 ∧ u.1 11 = v 11 ∧ u.1 12 = v 12 ∧ u.1 13 = v 13 ∧ u.1 14 = v 14 ∧ u.1 15 = v 15 ∧ u.1 16 = v 16 ∧ u.1 17 = v 17 ∧ u.1 23 = v 23 ∧ u.1 24 = v 24 ∧ u.2 2 = c 2 ∧ u.2 4 = c 4 ∧ u.2 0 7 = c 0 7 ∧ u.1 0 8 = v 0 8) ∨ (0 < v 11 1 ∧ v 15 0 < 4 ∧ r = nI (v 15 0) ∧ u.1 15 0 = v 15 0 + 1 ∧ u.1 16 = va_up (v 16) (v 15 0) k ∧ u.1 17 = va_up (v 17) (v 15 0) q ∧ u.1 3 = v 3 ∧ u.1 11 = v 11 ∧ u.1 12 = v 12 ∧ u.1 13 = v 13 ∧ u.1 14 = v 14 ∧ u.1 23 = v 23 ∧ u.1 24 = v 24 ∧ u.2 2 = c 2 ∧ u.2 4 = c 4 ∧ u.2 0 7 = c 0 7 ∧ u.1 0 8 = v 0 8))
def sp_leave (v : Nat → Nat → Nat) (c : Nat → Nat → Int32) (u : (Nat → Nat → Nat) × (Nat → Nat → Int32)) (x r : Int32) : Prop :=
  ((¬ ∃ q, q ≤ v 15 0 ∧ x = nI q) ∧ r = -2 ∧ u.1 3 = v 3 ∧ u.1 11 = v 11 ∧ u.1 12 = v 12 ∧ u.1 13 = v 13 ∧ u.1 14 = v 14 ∧ u.1 15 = v 15 ∧ u.1 16 = v 16 ∧ u.1 17 = v 17 ∧ u.1 23 = v 23 ∧ u.1 24 = v 24 ∧ u.2 2 = c 2 ∧ u.2 4 = c 4 ∧ u.2 0 7 = c 0 7 ∧ u.1 0 8 = v 0 8) ∨ ∃ q, q ≤ v 15 0 ∧ x = nI q ∧ r = nI (v 15 0 - q) ∧ u.1 15 0 = v 15 0 - q ∧ u.1 3 = v 3 ∧ u.1 11 = v 11 ∧ u.1 12 = v 12 ∧ u.1 13 = v 13 ∧ u.1 14 = v 14 ∧ u.1 16 = v 16 ∧ u.1 17 = v 17 ∧ u.1 23 = v 23 ∧ u.1 24 = v 24 ∧ u.2 2 = c 2 ∧ u.2 4 = c 4 ∧ u.2 0 7 = c 0 7 ∧ u.1 0 8 = v 0 8
def sp_family (v : Nat → Nat → Nat) (c : Nat → Nat → Int32) (u : (Nat → Nat → Nat) × (Nat → Nat → Int32)) (x r : Int32) : Prop :=
  ((¬ ∃ q, q ≤ abr (v 13) (v 11 1) ∧ q &&& abr (v 13) (v 11 1) = q ∧ x = nI q) ∧ r = -2 ∧ u.1 3 = v 3 ∧ u.1 11 = v 11 ∧ u.1 12 = v 12 ∧ u.1 13 = v 13 ∧ u.1 14 = v 14 ∧ u.1 15 = v 15 ∧ u.1 16 = v 16 ∧ u.1 17 = v 17 ∧ u.1 23 = v 23 ∧ u.1 24 = v 24 ∧ u.2 2 = c 2 ∧ u.2 4 = c 4 ∧ u.2 0 7 = c 0 7 ∧ u.1 0 8 = v 0 8) ∨ ∃ q, q ≤ abr (v 13) (v 11 1) ∧ q &&& abr (v 13) (v 11 1) = q ∧ x = nI q ∧ ((v 11 1 = 0 ∧ r = -3 ∧ u.1 3 = v 3 ∧ u.1 11 = v 11 ∧ u.1 12 = v 12 ∧ u.1 13 = v 13 ∧ u.1 14 = v 14 ∧ u.1 15 = v 15 ∧ u.1 16 = v 16 ∧ u.1 17 = v 17 ∧ u.1 23 = v 23 ∧ u.1 24 = v 24 ∧ u.2 2 = c 2 ∧ u.2 4 = c 4 ∧ u.2 0 7 = c 0 7 ∧ u.1 0 8 = v 0 8) ∨ (0 < v 11 1 ∧ 6 ≤ v 23 0 ∧ r = -4 ∧ u.1 3 = v 3 ∧ u.1 11 = v 11 ∧ u.1 12 = v 12 ∧ u.1 13 = v 13 ∧ u.1 14 = v 14 ∧ u.1 15 = v 15 ∧ u.1 16 = v 16 ∧ u.1 17 = v 17 ∧ u.1 23 = v 23 ∧ u.1 24 = v 24 ∧ u.2 2 = c 2 ∧ u.2 4 = c 4 ∧ u.2 0 7 = c 0 7 ∧ u.1 0 8 = v 0 8) ∨ (0 < v 11 1 ∧ v 23 0 < 6 ∧ r = nI (v 23 0) ∧ u.1 23 0 = v 23 0 + 1 ∧ u.1 24 = va_up (v 24) (v 23 0) q ∧ u.1 3 = v 3 ∧ u.1 11 = v 11 ∧ u.1 12 = v 12 ∧ u.1 13 = v 13 ∧ u.1 14 = v 14 ∧ u.1 15 = v 15 ∧ u.1 16 = v 16 ∧ u.1 17 = v 17 ∧ u.2 2 = c 2 ∧ u.2 4 = c 4 ∧ u.2 0 7 = c 0 7 ∧ u.1 0 8 = v 0 8))
def sp_sheet (v : Nat → Nat → Nat) (c : Nat → Nat → Int32) (u : (Nat → Nat → Nat) × (Nat → Nat → Int32)) (x y z r : Int32) : Prop :=
  (nR x 4 ∧ r = -1 ∧ u.1 0 8 = 0 ∧ u.1 3 = v 3 ∧ u.1 11 = v 11 ∧ u.1 12 = v 12 ∧ u.1 13 = v 13 ∧ u.1 14 = v 14 ∧ u.1 15 = v 15 ∧ u.1 16 = v 16 ∧ u.1 17 = v 17 ∧ u.1 23 = v 23 ∧ u.1 24 = v 24 ∧ u.2 2 = c 2 ∧ u.2 4 = c 4 ∧ u.2 0 7 = c 0 7) ∨ ∃ k, k < 4 ∧ x = nI k ∧ (((nR y 3 ∨ 80 < z.toInt) ∧ r = -2 ∧ u.1 0 8 = 0 ∧ u.1 3 = v 3 ∧ u.1 11 = v 11 ∧ u.1 12 = v 12 ∧ u.1 13 = v 13 ∧ u.1 14 = v 14 ∧ u.1 15 = v 15 ∧ u.1 16 = v 16 ∧ u.1 17 = v 17 ∧ u.1 23 = v 23 ∧ u.1 24 = v 24 ∧ u.2 2 = c 2 ∧ u.2 4 = c 4 ∧ u.2 0 7 = c 0 7) ∨ ∃ s1, s1 < 3 ∧ y = nI s1 ∧ ((z.toInt < 0 ∧ r = -14 ∧ u.1 0 8 = 4 ∧ u.1 3 = v 3 ∧ u.1 11 = v 11 ∧ u.1 12 = v 12 ∧ u.1 13 = v 13 ∧ u.1 14 = v 14 ∧ u.1 15 = v 15 ∧ u.1 16 = v 16 ∧ u.1 17 = v 17 ∧ u.1 23 = v 23 ∧ u.1 24 = v 24 ∧ u.2 2 = c 2 ∧ u.2 4 = c 4 ∧ u.2 0 7 = c 0 7) ∨ ∃ n, n ≤ 80 ∧ z = nI n ∧ r = nI 1 ∧ u.1 0 8 = 0 ∧ u.2 2 = va_up (c 2) k y ∧ u.1 3 = va_up (v 3) k n ∧ u.2 4 = flf (c 4) (k * 80) (k * 80 + n) 0 ∧ u.1 11 = v 11 ∧ u.1 12 = v 12 ∧ u.1 13 = v 13 ∧ u.1 14 = v 14 ∧ u.1 15 = v 15 ∧ u.1 16 = v 16 ∧ u.1 17 = v 17 ∧ u.1 23 = v 23 ∧ u.1 24 = v 24 ∧ u.2 0 7 = c 0 7))
def sp_lose (v : Nat → Nat → Nat) (c : Nat → Nat → Int32) (u : (Nat → Nat → Nat) × (Nat → Nat → Int32)) (x r : Int32) : Prop :=
  (nR x 4 ∧ r = -1 ∧ u.1 3 = v 3 ∧ u.1 11 = v 11 ∧ u.1 12 = v 12 ∧ u.1 13 = v 13 ∧ u.1 14 = v 14 ∧ u.1 15 = v 15 ∧ u.1 16 = v 16 ∧ u.1 17 = v 17 ∧ u.1 23 = v 23 ∧ u.1 24 = v 24 ∧ u.2 2 = c 2 ∧ u.2 4 = c 4 ∧ u.2 0 7 = c 0 7 ∧ u.1 0 8 = v 0 8) ∨ ∃ k, k < 4 ∧ x = nI k ∧ ((c 2 k = -1 ∧ r = nI 0) ∨ (c 2 k ≠ -1 ∧ r = nI 1)) ∧ u.2 2 = va_up (c 2) k (-1) ∧ u.1 3 = va_up (v 3) k 0 ∧ u.1 11 = v 11 ∧ u.1 12 = v 12 ∧ u.1 13 = v 13 ∧ u.1 14 = v 14 ∧ u.1 15 = v 15 ∧ u.1 16 = v 16 ∧ u.1 17 = v 17 ∧ u.1 23 = v 23 ∧ u.1 24 = v 24 ∧ u.2 4 = c 4 ∧ u.2 0 7 = c 0 7 ∧ u.1 0 8 = v 0 8
def sp_put (v : Nat → Nat → Nat) (c : Nat → Nat → Int32) (u : (Nat → Nat → Nat) × (Nat → Nat → Int32)) (x y z r : Int32) : Prop :=
  (nR x 4 ∧ r = -1 ∧ u.1 0 8 = 0 ∧ u.1 3 = v 3 ∧ u.1 11 = v 11 ∧ u.1 12 = v 12 ∧ u.1 13 = v 13 ∧ u.1 14 = v 14 ∧ u.1 15 = v 15 ∧ u.1 16 = v 16 ∧ u.1 17 = v 17 ∧ u.1 23 = v 23 ∧ u.1 24 = v 24 ∧ u.2 2 = c 2 ∧ u.2 4 = c 4 ∧ u.2 0 7 = c 0 7) ∨ ∃ k, k < 4 ∧ x = nI k ∧ ((c 2 k = -1 ∧ r = -11 ∧ u.1 0 8 = 1 ∧ u.1 3 = v 3 ∧ u.1 11 = v 11 ∧ u.1 12 = v 12 ∧ u.1 13 = v 13 ∧ u.1 14 = v 14 ∧ u.1 15 = v 15 ∧ u.1 16 = v 16 ∧ u.1 17 = v 17 ∧ u.1 23 = v 23 ∧ u.1 24 = v 24 ∧ u.2 2 = c 2 ∧ u.2 4 = c 4 ∧ u.2 0 7 = c 0 7) ∨ (c 2 k ≠ -1 ∧ nR y (v 3 k) ∧ r = -13 ∧ u.1 0 8 = 3 ∧ u.1 3 = v 3 ∧ u.1 11 = v 11 ∧ u.1 12 = v 12 ∧ u.1 13 = v 13 ∧ u.1 14 = v 14 ∧ u.1 15 = v 15 ∧ u.1 16 = v 16 ∧ u.1 17 = v 17 ∧ u.1 23 = v 23 ∧ u.1 24 = v 24 ∧ u.2 2 = c 2 ∧ u.2 4 = c 4 ∧ u.2 0 7 = c 0 7) ∨ ∃ q, q < v 3 k ∧ y = nI q ∧ c 2 k ≠ -1 ∧ r = nI 1 ∧ u.1 0 8 = 0 ∧ u.2 4 = va_up (c 4) (k * 80 + q) (cutf z (c 2 k)) ∧ u.1 3 = v 3 ∧ u.1 11 = v 11 ∧ u.1 12 = v 12 ∧ u.1 13 = v 13 ∧ u.1 14 = v 14 ∧ u.1 15 = v 15 ∧ u.1 16 = v 16 ∧ u.1 17 = v 17 ∧ u.1 23 = v 23 ∧ u.1 24 = v 24 ∧ u.2 2 = c 2 ∧ u.2 0 7 = c 0 7)
def sp_copy (v : Nat → Nat → Nat) (c : Nat → Nat → Int32) (u : (Nat → Nat → Nat) × (Nat → Nat → Int32)) (x i y j q r : Int32) : Prop :=
  ((nR x 4 ∨ nR y 4) ∧ r = -1 ∧ u.1 0 8 = 0 ∧ u.1 3 = v 3 ∧ u.1 11 = v 11 ∧ u.1 12 = v 12 ∧ u.1 13 = v 13 ∧ u.1 14 = v 14 ∧ u.1 15 = v 15 ∧ u.1 16 = v 16 ∧ u.1 17 = v 17 ∧ u.1 23 = v 23 ∧ u.1 24 = v 24 ∧ u.2 2 = c 2 ∧ u.2 4 = c 4 ∧ u.2 0 7 = c 0 7) ∨ ∃ k o, k < 4 ∧ o < 4 ∧ x = nI k ∧ y = nI o ∧ (((c 2 k = -1 ∨ c 2 o = -1) ∧ r = -11 ∧ u.1 0 8 = 1 ∧ u.1 3 = v 3 ∧ u.1 11 = v 11 ∧ u.1 12 = v 12 ∧ u.1 13 = v 13 ∧ u.1 14 = v 14 ∧ u.1 15 = v 15 ∧ u.1 16 = v 16 ∧ u.1 17 = v 17 ∧ u.1 23 = v 23 ∧ u.1 24 = v 24 ∧ u.2 2 = c 2 ∧ u.2 4 = c 4 ∧ u.2 0 7 = c 0 7) ∨ (c 2 k ≠ -1 ∧ c 2 o ≠ -1 ∧ c 2 k ≠ c 2 o ∧ r = -12 ∧ u.1 0 8 = 2 ∧ u.1 3 = v 3 ∧ u.1 11 = v 11 ∧ u.1 12 = v 12 ∧ u.1 13 = v 13 ∧ u.1 14 = v 14 ∧ u.1 15 = v 15 ∧ u.1 16 = v 16 ∧ u.1 17 = v 17 ∧ u.1 23 = v 23 ∧ u.1 24 = v 24 ∧ u.2 2 = c 2 ∧ u.2 4 = c 4 ∧ u.2 0 7 = c 0 7) ∨ (c 2 k ≠ -1 ∧ c 2 o ≠ -1 ∧ c 2 k = c 2 o ∧ (¬ ∃ a b n, i = nI a ∧ j = nI b ∧ q = nI n ∧ a + n ≤ v 3 k ∧ b + n ≤ v 3 o) ∧ r = -13 ∧ u.1 0 8 = 3 ∧ u.1 3 = v 3 ∧ u.1 11 = v 11 ∧ u.1 12 = v 12 ∧ u.1 13 = v 13 ∧ u.1 14 = v 14 ∧ u.1 15 = v 15 ∧ u.1 16 = v 16 ∧ u.1 17 = v 17 ∧ u.1 23 = v 23 ∧ u.1 24 = v 24 ∧ u.2 2 = c 2 ∧ u.2 4 = c 4 ∧ u.2 0 7 = c 0 7) ∨ ∃ a b n, i = nI a ∧ j = nI b ∧ q = nI n ∧ a + n ≤ v 3 k ∧ b + n ≤ v 3 o ∧ c 2 k ≠ -1 ∧ c 2 o ≠ -1 ∧ c 2 k = c 2 o ∧ r = q ∧ u.1 0 8 = 0 ∧ u.2 4 = va_cpy (c 4) (c 4) (k * 80 + a) (o * 80 + b) n ∧ u.1 3 = v 3 ∧ u.1 11 = v 11 ∧ u.1 12 = v 12 ∧ u.1 13 = v 13 ∧ u.1 14 = v 14 ∧ u.1 15 = v 15 ∧ u.1 16 = v 16 ∧ u.1 17 = v 17 ∧ u.1 23 = v 23 ∧ u.1 24 = v 24 ∧ u.2 2 = c 2 ∧ u.2 0 7 = c 0 7)
def sp_tell (v : Nat → Nat → Nat) (c : Nat → Nat → Int32) (u : (Nat → Nat → Nat) × (Nat → Nat → Int32)) (x r : Int32) : Prop :=
  (nR x (v 15 0) ∧ r = -1 ∧ u.1 3 = v 3 ∧ u.1 11 = v 11 ∧ u.1 12 = v 12 ∧ u.1 13 = v 13 ∧ u.1 14 = v 14 ∧ u.1 15 = v 15 ∧ u.1 16 = v 16 ∧ u.1 17 = v 17 ∧ u.1 23 = v 23 ∧ u.1 24 = v 24 ∧ u.2 2 = c 2 ∧ u.2 4 = c 4 ∧ u.2 0 7 = c 0 7 ∧ u.1 0 8 = v 0 8) ∨ ∃ d, d < v 15 0 ∧ x = nI d ∧ ((v 16 d = 0 ∧ r = nI (v 17 d) ∧ u.2 0 7 = (nI (31)) * (c 0 7) + (nI (1))) ∨ (v 16 d = 1 ∧ r = nI (v 17 d + 100) ∧ u.2 0 7 = (nI (31)) * ((nI (31)) * (c 0 7) + (nI (2))) + (nI (1))) ∨ (v 16 d = 2 ∧ r = nI (v 17 d + 100 + v 17 d) ∧ u.2 0 7 = (nI (31)) * ((nI (31)) * ((nI (31)) * ((nI (31)) * (c 0 7) + (nI (3))) + (nI (2))) + (nI (1))) + (nI (1)))) ∧ u.1 3 = v 3 ∧ u.1 11 = v 11 ∧ u.1 12 = v 12 ∧ u.1 13 = v 13 ∧ u.1 14 = v 14 ∧ u.1 15 = v 15 ∧ u.1 16 = v 16 ∧ u.1 17 = v 17 ∧ u.1 23 = v 23 ∧ u.1 24 = v 24 ∧ u.2 2 = c 2 ∧ u.2 4 = c 4 ∧ u.1 0 8 = v 0 8
def sp_lead (v : Nat → Nat → Nat) (c : Nat → Nat → Int32) (u : (Nat → Nat → Nat) × (Nat → Nat → Int32)) (x r : Int32) : Prop :=
  (nR x (v 15 0) ∧ r = -1 ∧ u.1 3 = v 3 ∧ u.1 11 = v 11 ∧ u.1 12 = v 12 ∧ u.1 13 = v 13 ∧ u.1 14 = v 14 ∧ u.1 15 = v 15 ∧ u.1 16 = v 16 ∧ u.1 17 = v 17 ∧ u.1 23 = v 23 ∧ u.1 24 = v 24 ∧ u.2 2 = c 2 ∧ u.2 4 = c 4 ∧ u.2 0 7 = c 0 7 ∧ u.1 0 8 = v 0 8) ∨ ∃ d, d < v 15 0 ∧ x = nI d ∧ ((v 16 d = 2 ∧ r = nI 60 ∧ u.2 0 7 = (nI (31)) * (c 0 7) + (nI (5))) ∨ (v 16 d ≠ 2 ∧ r = x ∧ u.2 0 7 = (nI (31)) * (c 0 7) + (nI (4)))) ∧ u.1 3 = v 3 ∧ u.1 11 = v 11 ∧ u.1 12 = v 12 ∧ u.1 13 = v 13 ∧ u.1 14 = v 14 ∧ u.1 15 = v 15 ∧ u.1 16 = v 16 ∧ u.1 17 = v 17 ∧ u.1 23 = v 23 ∧ u.1 24 = v 24 ∧ u.2 2 = c 2 ∧ u.2 4 = c 4 ∧ u.1 0 8 = v 0 8
def sp_lock (v : Nat → Nat → Nat) (c : Nat → Nat → Int32) (u : (Nat → Nat → Nat) × (Nat → Nat → Int32)) (sh so i q r : Int32) : Prop :=
  (∃ F, tkB (xNo c) (xHas c) (v 3) sh so False i q r F ∧ u.1 0 8 = F ∧ u.1 3 = v 3 ∧ u.1 11 = v 11 ∧ u.1 12 = v 12 ∧ u.1 13 = v 13 ∧ u.1 14 = v 14 ∧ u.1 15 = v 15 ∧ u.1 16 = v 16 ∧ u.1 17 = v 17 ∧ u.1 23 = v 23 ∧ u.1 24 = v 24 ∧ u.2 2 = c 2 ∧ u.2 4 = c 4 ∧ u.2 0 7 = c 0 7) ∨
  ∃ k s1 j n, tkY (xHas c) (v 3) sh so False i q k s1 j n ∧ u.1 0 8 = 0 ∧ ∃ f : Nat → Int32, (∀ e, e < n → f e = c 4 (k * 80 + (j + e))) ∧ ((∃ p, FLT f n p ∧ r = -100 - nI p ∧ u.1 3 = v 3 ∧ u.1 11 = v 11 ∧ u.1 12 = v 12 ∧ u.1 13 = v 13 ∧ u.1 14 = v 14 ∧ u.1 15 = v 15 ∧ u.1 16 = v 16 ∧ u.1 17 = v 17 ∧ u.1 23 = v 23 ∧ u.1 24 = v 24 ∧ u.2 2 = c 2 ∧ u.2 4 = c 4 ∧ u.2 0 7 = c 0 7) ∨ (∃ S, TKN f n (u.1 11 0) (u.1 12) S ∧ AGR S (u.1 11 1) (u.1 13) (u.1 14) ∧ r = nI (u.1 11 1) ∧ u.1 15 0 = 0 ∧ u.1 23 0 = 0 ∧ u.1 3 = v 3 ∧ u.2 2 = c 2 ∧ u.2 4 = c 4 ∧ u.2 0 7 = c 0 7))
theorem in_ex {x : Int32} {a b : Nat} (hb : b < 1000) (h1 : (a : Int) ≤ x.toInt) (h2 : x.toInt ≤ b) : ∃ q, a ≤ q ∧ q ≤ b ∧ x = nI q := by
  obtain ⟨q, hq, rfl⟩ := r_nat (x := x) (by omega)
  rw [n_tI hq] at h1 h2
  exact ⟨q, by omega, by omega, rfl⟩
theorem in_lt {x : Int32} {n : Nat} (h1 : 0 ≤ x.toInt) (h2 : x.toInt < n) : ∃ q, q < n ∧ x = nI q := by
  obtain ⟨q, hq, rfl⟩ := r_nat (x := x) (by omega)
  rw [n_tI hq] at h1 h2
  exact ⟨q, by omega, rfl⟩
theorem in_ge {x : Int32} (h1 : 0 ≤ x.toInt) : ∃ q : Nat, q < 2147483648 ∧ x = nI q := r_nat h1
theorem k3_cases {k : Nat} (h : k ≤ 2) : k = 0 ∨ k = 1 ∨ k = 2 := by omega
theorem mv_no {i j q : Int32} {lk lo : Nat} (hk : lk ≤ 80) (ho : lo ≤ 80) (h : q.toInt < 0 ∨ i.toInt < 0 ∨ j.toInt < 0 ∨ (lk : Int) < i.toInt + q.toInt ∨ (lo : Int) < j.toInt + q.toInt) : ¬ ∃ a b n, i = nI a ∧ j = nI b ∧ q = nI n ∧ a + n ≤ lk ∧ b + n ≤ lo := by
  rintro ⟨a, b, n, rfl, rfl, rfl, h1, h2⟩
  rw [n_tI (by omega), n_tI (by omega), n_tI (by omega)] at h
  omega
theorem XI_change {v : Nat → Nat → Nat} {d j z : Nat} (h : XI v) (hd : d < v 11 1) (hj : j < v 13 d) (hz : z < 2 ^ v 11 0) : XI (va_up v 14 (va_up (v 14) (d * 6 + j) z)) := by
  obtain ⟨hnb, hnd, hbt, hfg, hne, hnc, hdk, hnf, hkn, hln, hst, hdc, hsp⟩ := h
  refine ⟨hnb, hnd, hbt, ?_, hne, hnc, hdk, hnf, hkn, hln, hst, hdc, hsp⟩
  intro d1 k1 h1 h2
  show va_up (v 14) (d * 6 + j) z (d1 * 6 + k1) < 2 ^ v 11 0
  by_cases e : d1 * 6 + k1 = d * 6 + j
  · rw [e, up_eq]; exact hz
  · rw [up_ne e]; exact hfg d1 k1 h1 h2
theorem XI_join {v : Nat → Nat → Nat} {k q : Nat} (h : XI v) (hk : k ≤ 2) (h1 : 1 ≤ q) (h2 : q ≤ 9) (h4 : v 15 0 < 4) (h0 : 0 < v 11 1) : XI (va_up (va_up (va_up v 15 (va_up (v 15) 0 (v 15 0 + 1))) 16 (va_up (v 16) (v 15 0) k)) 17 (va_up (v 17) (v 15 0) q)) := by
  obtain ⟨hnb, hnd, hbt, hfg, hne, hnc, hdk, hnf, hkn, hln, hst, hdc, hsp⟩ := h
  refine ⟨hnb, hnd, hbt, hfg, hne, h4, ?_, hnf, hkn, hln, hst, Or.inr h0, hsp⟩
  intro d hd
  have hd : d < v 15 0 + 1 := hd
  show va_up (v 16) (v 15 0) k d ≤ 2 ∧ 1 ≤ va_up (v 17) (v 15 0) q d ∧ va_up (v 17) (v 15 0) q d ≤ 9
  by_cases e : d = v 15 0
  · subst e; rw [up_eq, up_eq]; exact ⟨hk, h1, h2⟩
  · rw [up_ne e, up_ne e]; exact hdk d (by omega)
theorem XI_leave {v : Nat → Nat → Nat} {q : Nat} (h : XI v) : XI (va_up v 15 (va_up (v 15) 0 (v 15 0 - q))) := by
  obtain ⟨hnb, hnd, hbt, hfg, hne, hnc, hdk, hnf, hkn, hln, hst, hdc, hsp⟩ := h
  refine ⟨hnb, hnd, hbt, hfg, hne, Nat.le_trans (Nat.sub_le _ _) hnc, fun d hd => hdk d (Nat.lt_of_lt_of_le hd (Nat.sub_le _ _)), hnf, hkn, hln, hst, hdc.imp (fun e => ?_) id, hsp⟩
  show v 15 0 - q = 0
  omega
theorem XI_fam {v : Nat → Nat → Nat} {q : Nat} (h : XI v) (hq : q < 16777216) (h6 : v 23 0 < 6) : XI (va_up (va_up v 23 (va_up (v 23) 0 (v 23 0 + 1))) 24 (va_up (v 24) (v 23 0) q)) := by
  obtain ⟨hnb, hnd, hbt, hfg, hne, hnc, hdk, hnf, hkn, hln, hst, hdc, hsp⟩ := h
  refine ⟨hnb, hnd, hbt, hfg, hne, hnc, hdk, h6, ?_, hln, hst, hdc, hsp⟩
  intro f hf
  have hf : f < v 23 0 + 1 := hf
  show va_up (v 24) (v 23 0) q f < 16777216
  by_cases e : f = v 23 0
  · subst e; rw [up_eq]; exact hq
  · rw [up_ne e]; exact hkn f (by omega)
theorem XI_sheet {v : Nat → Nat → Nat} {k n : Nat} (h : XI v) (hn : n ≤ 80) : XI (va_up v 3 (va_up (v 3) k n)) := by
  obtain ⟨hnb, hnd, hbt, hfg, hne, hnc, hdk, hnf, hkn, hln, hst, hdc, hsp⟩ := h
  refine ⟨hnb, hnd, hbt, hfg, hne, hnc, hdk, hnf, hkn, ?_, hst, hdc, hsp⟩
  intro e he
  show va_up (v 3) k n e ≤ 80
  by_cases h1 : e = k
  · subst h1; rw [up_eq]; exact hn
  · rw [up_ne h1]; exact hln e he
theorem FLT_le {cs : Nat → Int32} {n q : Nat} (h : FLT cs n q) (hn : n ≤ 80) : q ≤ 100 := by
  rcases h with h | h | ⟨nb, h1, b, h2, h3, -⟩ | ⟨nb, h1, -, k, S, h2, -, h3⟩
  · omega
  · omega
  · have := h1.2.2.2.1; omega
  · rcases h3 with h3 | h3 <;> omega
theorem cp0 {g f : Nat → Nat} {n e : Nat} (h : e < n) : va_cpy g f 0 0 n e = g e := by
  show (if _ then _ else _) = _
  rw [if_pos ⟨Nat.zero_le _, by omega⟩, Nat.zero_add, Nat.sub_zero]
theorem TKN_cpy {cs : Nat → Int32} {n nb : Nat} {need f : Nat → Nat} {S : pS} (h : TKN cs n nb need S) : TKN cs n nb (va_cpy need f 0 0 7) S :=
  ⟨h.1, fun e he => by rw [cp0 (by have := h.1.2.2.2.1; omega)]; exact h.2.1 e he, h.2.2⟩
theorem AGR_cpy {S : pS} {nb nd : Nat} {bt fg f1 f2 : Nat → Nat} (hD : DIb nb nd bt fg) (h : AGR S nd bt fg) : AGR S nd (va_cpy bt f1 0 0 4) (va_cpy fg f2 0 0 24) := by
  refine ⟨h.1, fun d hd => ?_, fun d k hd hk => ?_⟩
  · have := hD.1
    rw [cp0 (by omega)]; exact h.2.1 d hd
  · have h4 := hD.1
    rw [cp0 (by omega)] at hk
    have h6 := hD.2.1 d hd
    rw [cp0 (by omega)]; exact h.2.2 d k hd hk
theorem XI_lock {v : Nat → Nat → Nat} {cs : Nat → Int32} {n nb nd : Nat} {g7 g8 g9 : Nat → Nat} {S : pS} {u : Nat → Nat → Nat} (h : XI v) (h1 : TKN cs n nb g7 S) (h2 : AGR S nd g8 g9) (h3 : DIb nb nd g8 g9)
    (e0 : u 11 0 = nb ∧ u 11 1 = nd) (e12 : u 12 = va_cpy g7 (v 12) 0 0 7) (e13 : u 13 = va_cpy g8 (v 13) 0 0 4) (e14 : u 14 = va_cpy g9 (v 14) 0 0 24) (e15 : u 15 0 = 0) (e23 : u 23 0 = 0) (e3 : u 3 = v 3) (e18 : u 18 = v 18) : XI u := by
  obtain ⟨hnb, hnd, hbt, hfg, hne, hnc, hdk, hnf, hkn, hln, hst, hdc, hsp⟩ := h
  obtain ⟨q1, q2, q3⟩ := h3
  obtain ⟨p1, p2, -⟩ := h1
  have p3 := p1.2.2.1
  have p4 := p1.2.2.2.1
  unfold XI
  rw [e0.1, e0.2, e12, e13, e14, e15, e23, e3, e18]
  refine ⟨p4, q1, fun d hd => by rw [cp0 (by omega)]; exact q2 d hd, fun d k hd hk => ?_, fun b hb => by rw [cp0 (by omega)]; exact ⟨(p2 b hb).2.1, (p2 b hb).2.2.1⟩, Nat.zero_le _, fun d hd => absurd hd (Nat.not_lt_zero _), Nat.zero_le _, fun f hf => absurd hf (Nat.not_lt_zero _), hln, Or.inr p3, Or.inl rfl, hsp⟩
  rw [cp0 (by omega)] at hk
  have h6 := q2 d hd
  rw [cp0 (by omega)]; exact q3 d k hd hk
set_option maxHeartbeats 4000000 in
set_option maxRecDepth 100000 in
theorem t_dancer (l : Launch) (D : va_G) (a : Nat → Nat) (cI cJ cZ : ClassId) (A : Nat → Prop) (v : Nat → Nat → Nat) (c : Nat → Nat → Int32) (x : Int32) (y : Int32) (hI : XI v) :
    mI l yX6_dancer wsX6_dancer 2 42 [.ref (a 0), .int x, .int y] D (xT cI cJ cZ) A (xW a cI cJ cZ v c) (fun u : ((Nat → Nat → Nat) × (Nat → Nat → Int32)) => xW a cI cJ cZ u.1 u.2)
    (fun (r : Int32) (u : ((Nat → Nat → Nat) × (Nat → Nat → Int32))) => XI u.1 ∧ sp_dancer v c u x y r) := by
  refine w_bI cX6_dancer 3 .int (by decide) rfl (Nat.le_of_ble_eq_true rfl) (Or.inl rfl) ?_
  intro p e s m args below meth c0 ls Q hx hb hml hts hown hK hN hA hret hP hD hS hl
  have hl : lv_has ls 3 [(0, .ref (a 0)), (1, .int x), (2, .int y)] := hl
  have hinX6 : ∀ w ∈ wsX60, w ∈ wsX6_dancer := fun w h => List.mem_cons_of_mem _ (List.mem_append_left _ (List.mem_append_left _ (List.mem_append_right _ h)))
  obtain ⟨hnb, hnd, hbt, hfg, hne, hnc, hdk, hnf, hkn, hln, hst, hdc, hsp⟩ := id hI
  have t1 : (nI 1).toInt = 1 := rfl
  have t3 : (nI 3).toInt = 3 := rfl
  have t9 : (nI 9).toInt = 9 := rfl
  refine lv_iload_n hx hb dX6_dancer_0 rfl (lv_at hl 1 rfl) ?_
  refine r_if_lt hx hb dX6_dancer_1 (tgt := 20) (by decide) (fun c1 => ?_) (fun c1 => ?_)
  · skip
    refine lv_bipush (v := -2) hx hb dX6_dancer_20 (by decide) ?_
    exact hret ((-2)) (v, c) _ _ 22 _ dX6_dancer_22 rfl (by exact ⟨hI, Or.inl ⟨fun ⟨k1, q1, z1, z2, z3, z4, z5⟩ => by first | (rw [z4, n_tI (k := k1) (by omega)] at c1; omega) | (have e := (n_inj (by omega) (by omega)).mp z4; omega) | (rw [z5, n_tI (k := q1) (by omega)] at c11; omega) | (rw [z5, n_tI (k := q1) (by omega)] at c17; omega), rfl, rfl, rfl, rfl, rfl, rfl, rfl, rfl, rfl, rfl, rfl, rfl, rfl, rfl, rfl⟩⟩) hP hD hS
  · skip
    obtain ⟨x', x'B, rfl⟩ := r_nat c1
    have x'T := n_tI x'B
    refine lv_iload_n hx hb dX6_dancer_4 rfl (lv_at hl 1 rfl) ?_
    refine lv_iconst (v := nI (3)) hx hb dX6_dancer_5 (by decide) ?_
    refine w_icmp_ge (x := x') (y := 3) hx hb dX6_dancer_6 (tgt := 20) (by decide) (by omega) (by omega) (fun c6 => ?_) (fun c6 => ?_)
    · skip
      refine lv_bipush (v := -2) hx hb dX6_dancer_20 (by decide) ?_
      exact hret ((-2)) (v, c) _ _ 22 _ dX6_dancer_22 rfl (by exact ⟨hI, Or.inl ⟨fun ⟨k1, q1, z1, z2, z3, z4, z5⟩ => by first | (rw [z4, n_tI (k := k1) (by omega)] at c1; omega) | (have e := (n_inj (by omega) (by omega)).mp z4; omega) | (rw [z5, n_tI (k := q1) (by omega)] at c11; omega) | (rw [z5, n_tI (k := q1) (by omega)] at c17; omega), rfl, rfl, rfl, rfl, rfl, rfl, rfl, rfl, rfl, rfl, rfl, rfl, rfl, rfl, rfl⟩⟩) hP hD hS
    · skip
      refine lv_iload_n hx hb dX6_dancer_9 rfl (lv_at hl 2 rfl) ?_
      refine lv_iconst (v := nI (1)) hx hb dX6_dancer_10 (by decide) ?_
      refine r_icmp_lt (x := y) (y := nI (1)) hx hb dX6_dancer_11 (tgt := 20) (by decide) (fun c11 => ?_) (fun c11 => ?_)
      · skip
        refine lv_bipush (v := -2) hx hb dX6_dancer_20 (by decide) ?_
        exact hret ((-2)) (v, c) _ _ 22 _ dX6_dancer_22 rfl (by exact ⟨hI, Or.inl ⟨fun ⟨k1, q1, z1, z2, z3, z4, z5⟩ => by first | (rw [z4, n_tI (k := k1) (by omega)] at c1; omega) | (have e := (n_inj (by omega) (by omega)).mp z4; omega) | (rw [z5, n_tI (k := q1) (by omega)] at c11; omega) | (rw [z5, n_tI (k := q1) (by omega)] at c17; omega), rfl, rfl, rfl, rfl, rfl, rfl, rfl, rfl, rfl, rfl, rfl, rfl, rfl, rfl, rfl⟩⟩) hP hD hS
      · skip
        refine lv_iload_n hx hb dX6_dancer_14 rfl (lv_at hl 2 rfl) ?_
        refine lv_bipush (v := nI (9)) hx hb dX6_dancer_15 (by decide) ?_
        refine r_icmp_le (x := y) (y := nI (9)) hx hb dX6_dancer_17 (tgt := 23) (by decide) (fun c17 => ?_) (fun c17 => ?_)
        · skip
          obtain ⟨yy, hy1, hy9, rfl⟩ := in_ex (x := y) (a := 1) (b := 9) (by decide) (by omega) (by omega)
          refine lv_aload_n hx hb dX6_dancer_23 rfl (lv_at hl 0 rfl) ?_
          refine va_get (D := D) (ci := 6) (v := .ref (a 11)) (C := RX6) (T := TX6) (N := 9) hx hb hts hinX6 hown hK hP 0 rfl rfl 3 (by decide) (hts (.fieldLink RX6 36 "DancedLock" "floor" "LDancedLock$Floor;") (List.mem_of_getElem? (i := 1) rfl)) (fun _ h9 => h9) rfl dX6_dancer_24 ?_
          refine w_cVi (rest := []) hx hb hml hown hts (k_stands l D a cI cJ cZ A v c   (by first | assumption | omega)) 0 gX6_dancer_X2_stands rfl hdX2_stands ⟨Nat.le_of_ble_eq_true rfl, Nat.le_of_ble_eq_true rfl⟩ hK hN hP hD hS hA 11 2 rfl rfl rfl rfl hl.1 rfl (Nat.le_of_ble_eq_true rfl) dX6_dancer_27 ⟨Nat.le_of_ble_eq_true rfl, Nat.le_of_ble_eq_true rfl⟩ (fun r u H locs hq hP hD hS => ?_)
          rcases hq with ⟨rfl, h_27⟩ | ⟨rfl, h_27⟩
          · skip
            have hP : va_P D vwCl (xW a cI cJ cZ v c) H := hP
            have hD : va_D A (xW a cI cJ cZ v c) := hD
            refine w_if_ne (x := 1) hx hb dX6_dancer_30 (tgt := 36) (by decide) (by decide) (fun _ => ?_) (fun h => absurd h (by decide))
            refine lv_aload_n hx hb dX6_dancer_36 rfl (lv_at hl 0 rfl) ?_
            refine va_get (D := D) (ci := 6) (v := .ref (a 15)) (C := RX6) (T := TX6) (N := 9) hx hb hts hinX6 hown hK hP 0 rfl rfl 4 (by decide) (hts (.fieldLink RX6 41 "DancedLock" "troupe" "LDancedLock$Troupe;") (List.mem_of_getElem? (i := 2) rfl)) (fun _ h9 => h9) rfl dX6_dancer_37 ?_
            refine w_cVi (rest := []) hx hb hml hown hts (k_tfull l D a cI cJ cZ A v c   (by first | assumption | omega)) 0 gX6_dancer_X5_isFull rfl hdX5_isFull ⟨Nat.le_of_ble_eq_true rfl, Nat.le_of_ble_eq_true rfl⟩ hK hN hP hD hS hA 15 5 rfl rfl rfl rfl hl.1 rfl (Nat.le_of_ble_eq_true rfl) dX6_dancer_40 ⟨Nat.le_of_ble_eq_true rfl, Nat.le_of_ble_eq_true rfl⟩ (fun r u H locs hq hP hD hS => ?_)
            rcases hq with ⟨rfl, h_40⟩ | ⟨rfl, h_40⟩
            · skip
              have hP : va_P D vwCl (xW a cI cJ cZ v c) H := hP
              have hD : va_D A (xW a cI cJ cZ v c) := hD
              refine w_if_eq (x := 1) hx hb dX6_dancer_43 (tgt := 51) (by decide) (by decide) (fun h => absurd h (by decide)) (fun _ => ?_)
              refine lv_bipush (v := -4) hx hb dX6_dancer_46 (by decide) ?_
              refine lv_goto (tgt := 60) hx hb dX6_dancer_48 (by decide) ?_
              exact hret ((-4)) (v, c) _ _ 60 _ dX6_dancer_60 rfl (by exact ⟨hI, Or.inr ⟨x', yy, c6, hy1, hy9, rfl, rfl, Or.inr (Or.inl ⟨h_27, h_40, rfl, rfl, rfl, rfl, rfl, rfl, rfl, rfl, rfl, rfl, rfl, rfl, rfl, rfl, rfl⟩)⟩⟩) hP hD hS
            · skip
              have hP : va_P D vwCl (xW a cI cJ cZ v c) H := hP
              have hD : va_D A (xW a cI cJ cZ v c) := hD
              refine w_if_eq (x := 0) hx hb dX6_dancer_43 (tgt := 51) (by decide) (by decide) (fun _ => ?_) (fun h => absurd h (by decide))
              refine lv_aload_n hx hb dX6_dancer_51 rfl (lv_at hl 0 rfl) ?_
              refine va_get (D := D) (ci := 6) (v := .ref (a 15)) (C := RX6) (T := TX6) (N := 9) hx hb hts hinX6 hown hK hP 0 rfl rfl 4 (by decide) (hts (.fieldLink RX6 41 "DancedLock" "troupe" "LDancedLock$Troupe;") (List.mem_of_getElem? (i := 2) rfl)) (fun _ h9 => h9) rfl dX6_dancer_52 ?_
              refine lv_iload_n hx hb dX6_dancer_55 rfl (lv_at hl 1 rfl) ?_
              refine lv_iload_n hx hb dX6_dancer_56 rfl (lv_at hl 2 rfl) ?_
              refine w_cVi (rest := []) hx hb hml hown hts (k_join l D a cI cJ cZ A v c x' yy  (by first | assumption | omega)) 2 gX6_dancer_X5_join rfl hdX5_join ⟨Nat.le_of_ble_eq_true rfl, Nat.le_of_ble_eq_true rfl⟩ hK hN hP hD hS hA 15 5 rfl rfl rfl rfl hl.1 rfl (Nat.le_of_ble_eq_true rfl) dX6_dancer_57 ⟨Nat.le_of_ble_eq_true rfl, Nat.le_of_ble_eq_true rfl⟩ (fun r u H locs hq hP hD hS => ?_)
              obtain ⟨rfl, rfl⟩ := hq
              have hP : va_P D vwCl (xW a cI cJ cZ (va_up (va_up (va_up v 15 (va_up (v 15) 0 ((v 15 0) + 1))) 16 (va_up ((v 16)) ((v 15 0)) x')) 17 (va_up ((v 17)) ((v 15 0)) yy)) c) H := hP
              have hD : va_D A (xW a cI cJ cZ (va_up (va_up (va_up v 15 (va_up (v 15) 0 ((v 15 0) + 1))) 16 (va_up ((v 16)) ((v 15 0)) x')) 17 (va_up ((v 17)) ((v 15 0)) yy)) c) := hD
              exact hret (nI ((v 15 0))) (va_up (va_up (va_up v 15 (va_up (v 15) 0 ((v 15 0) + 1))) 16 (va_up ((v 16)) ((v 15 0)) x')) 17 (va_up ((v 17)) ((v 15 0)) yy), c) _ _ 60 _ dX6_dancer_60 rfl (by exact ⟨XI_join hI (by omega) hy1 hy9 h_40 h_27, Or.inr ⟨x', yy, c6, hy1, hy9, rfl, rfl, Or.inr (Or.inr ⟨h_27, h_40, rfl, rfl, rfl, rfl, rfl, rfl, rfl, rfl, rfl, rfl, rfl, rfl, rfl, rfl, rfl⟩)⟩⟩) hP hD hS
          · skip
            have hP : va_P D vwCl (xW a cI cJ cZ v c) H := hP
            have hD : va_D A (xW a cI cJ cZ v c) := hD
            refine w_if_ne (x := 0) hx hb dX6_dancer_30 (tgt := 36) (by decide) (by decide) (fun h => absurd h (by decide)) (fun _ => ?_)
            refine lv_bipush (v := -3) hx hb dX6_dancer_33 (by decide) ?_
            exact hret ((-3)) (v, c) _ _ 35 _ dX6_dancer_35 rfl (by exact ⟨hI, Or.inr ⟨x', yy, c6, hy1, hy9, rfl, rfl, Or.inl ⟨h_27, rfl, rfl, rfl, rfl, rfl, rfl, rfl, rfl, rfl, rfl, rfl, rfl, rfl, rfl, rfl⟩⟩⟩) hP hD hS
        · skip
          refine lv_bipush (v := -2) hx hb dX6_dancer_20 (by decide) ?_
          exact hret ((-2)) (v, c) _ _ 22 _ dX6_dancer_22 rfl (by exact ⟨hI, Or.inl ⟨fun ⟨k1, q1, z1, z2, z3, z4, z5⟩ => by first | (rw [z4, n_tI (k := k1) (by omega)] at c1; omega) | (have e := (n_inj (by omega) (by omega)).mp z4; omega) | (rw [z5, n_tI (k := q1) (by omega)] at c11; omega) | (rw [z5, n_tI (k := q1) (by omega)] at c17; omega), rfl, rfl, rfl, rfl, rfl, rfl, rfl, rfl, rfl, rfl, rfl, rfl, rfl, rfl, rfl⟩⟩) hP hD hS

set_option maxHeartbeats 4000000 in
set_option maxRecDepth 100000 in
theorem t_sheet (l : Launch) (D : va_G) (a : Nat → Nat) (cI cJ cZ : ClassId) (A : Nat → Prop) (v : Nat → Nat → Nat) (c : Nat → Nat → Int32) (x : Int32) (y : Int32) (z : Int32) (hI : XI v) :
    mI l yX6_sheet wsX6_sheet 3 69 [.ref (a 0), .int x, .int y, .int z] D (xT cI cJ cZ) A (xW a cI cJ cZ v c) (fun u : ((Nat → Nat → Nat) × (Nat → Nat → Int32)) => xW a cI cJ cZ u.1 u.2)
    (fun (r : Int32) (u : ((Nat → Nat → Nat) × (Nat → Nat → Int32))) => XI u.1 ∧ sp_sheet v c u x y z r) := by
  refine w_bI cX6_sheet 4 .int (by decide) rfl (Nat.le_of_ble_eq_true rfl) (Or.inl rfl) ?_
  intro p e s m args below meth c0 ls Q hx hb hml hts hown hK hN hA hret hP hD hS hl
  have hl : lv_has ls 4 [(0, .ref (a 0)), (1, .int x), (2, .int y), (3, .int z)] := hl
  have hinX6 : ∀ w ∈ wsX60, w ∈ wsX6_sheet := fun w h => List.mem_cons_of_mem _ (List.mem_append_left _ (List.mem_append_right _ h))
  obtain ⟨hnb, hnd, hbt, hfg, hne, hnc, hdk, hnf, hkn, hln, hst, hdc, hsp⟩ := id hI
  have t3 : (nI 3).toInt = 3 := rfl
  have t80 : (nI 80).toInt = 80 := rfl
  refine lv_aload_n hx hb dX6_sheet_0 rfl (lv_at hl 0 rfl) ?_
  refine lv_iconst (v := nI (0)) hx hb dX6_sheet_1 (by decide) ?_
  refine va_put (D := D) (ci := 6) (v := .int (nI (0))) (ty := .int) (C := RX6) (T := TX6) (N := 9) hx hb hts hinX6 tyX6 tyX6_ok nmX6 hown hK hP hD hS 0 rfl rfl 8 (by decide) (hts (.fieldLink RX6 147 "DancedLock" "latestFault" "I") (List.mem_of_getElem? (i := 1) rfl)) (fun _ h9 => h9) rfl (by decide +kernel) rfl (rfl) (Nat.le_of_ble_eq_true rfl) dX6_sheet_2 (fun H locs hP hD hS => ?_)
  have hP : va_P D vwCl (xW a cI cJ cZ (va_up v 0 (va_up (v 0) 8 (0))) c) H := hP
  have hD : va_D A (xW a cI cJ cZ (va_up v 0 (va_up (v 0) 8 (0))) c) := hD
  refine lv_aload_n hx hb dX6_sheet_5 rfl (lv_at hl 0 rfl) ?_
  refine va_get (D := D) (ci := 6) (v := .ref (a 1)) (C := RX6) (T := TX6) (N := 9) hx hb hts hinX6 hown hK hP 0 rfl rfl 0 (by decide) (hts (.fieldLink RX6 12 "DancedLock" "sheets" "LDancedLock$Sheets;") (List.mem_of_getElem? (i := 2) rfl)) (fun _ h9 => h9) rfl dX6_sheet_6 ?_
  refine lv_iload_n hx hb dX6_sheet_9 rfl (lv_at hl 1 rfl) ?_
  refine w_cVi (rest := []) hx hb hml hown hts (k_sincl_R l D a cI cJ cZ A (va_up v 0 (va_up (v 0) 8 (0))) c x  ) 1 gX6_sheet_X3_includes rfl hdX3_includes ⟨Nat.le_of_ble_eq_true rfl, Nat.le_of_ble_eq_true rfl⟩ hK hN hP hD hS hA 1 3 rfl rfl rfl rfl hl.1 rfl (Nat.le_of_ble_eq_true rfl) dX6_sheet_10 ⟨Nat.le_of_ble_eq_true rfl, Nat.le_of_ble_eq_true rfl⟩ (fun r u H locs hq hP hD hS => ?_)
  rcases hq with ⟨j_10, rfl, h_10, hs_x_10⟩ | ⟨rfl, h_10⟩
  · skip
    have hP : va_P D vwCl (xW a cI cJ cZ (va_up v 0 (va_up (v 0) 8 (0))) c) H := hP
    have hD : va_D A (xW a cI cJ cZ (va_up v 0 (va_up (v 0) 8 (0))) c) := hD
    subst hs_x_10
    have j_10T := n_tI (k := j_10) (by omega)
    refine w_if_ne (x := 1) hx hb dX6_sheet_13 (tgt := 18) (by decide) (by decide) (fun _ => ?_) (fun h => absurd h (by decide))
    refine lv_iload_n hx hb dX6_sheet_18 rfl (lv_at hl 2 rfl) ?_
    refine r_if_lt hx hb dX6_sheet_19 (tgt := 33) (by decide) (fun c19 => ?_) (fun c19 => ?_)
    · skip
      refine lv_bipush (v := -2) hx hb dX6_sheet_33 (by decide) ?_
      exact hret ((-2)) (va_up v 0 (va_up (v 0) 8 (0)), c) _ _ 35 _ dX6_sheet_35 rfl (by first | exact ⟨hI, Or.inr ⟨j_10, h_10, rfl, Or.inl ⟨Or.inl (nR_of (by decide) (by omega)), rfl, rfl, rfl, rfl, rfl, rfl, rfl, rfl, rfl, rfl, rfl, rfl, rfl, rfl, rfl⟩⟩⟩ | exact ⟨hI, Or.inr ⟨j_10, h_10, rfl, Or.inl ⟨Or.inr (by omega), rfl, rfl, rfl, rfl, rfl, rfl, rfl, rfl, rfl, rfl, rfl, rfl, rfl, rfl, rfl⟩⟩⟩) hP hD hS
    · skip
      obtain ⟨y', y'B, rfl⟩ := r_nat c19
      have y'T := n_tI y'B
      refine lv_iload_n hx hb dX6_sheet_22 rfl (lv_at hl 2 rfl) ?_
      refine lv_iconst (v := nI (3)) hx hb dX6_sheet_23 (by decide) ?_
      refine w_icmp_ge (x := y') (y := 3) hx hb dX6_sheet_24 (tgt := 33) (by decide) (by omega) (by omega) (fun c24 => ?_) (fun c24 => ?_)
      · skip
        refine lv_bipush (v := -2) hx hb dX6_sheet_33 (by decide) ?_
        exact hret ((-2)) (va_up v 0 (va_up (v 0) 8 (0)), c) _ _ 35 _ dX6_sheet_35 rfl (by first | exact ⟨hI, Or.inr ⟨j_10, h_10, rfl, Or.inl ⟨Or.inl (nR_of (by decide) (by omega)), rfl, rfl, rfl, rfl, rfl, rfl, rfl, rfl, rfl, rfl, rfl, rfl, rfl, rfl, rfl⟩⟩⟩ | exact ⟨hI, Or.inr ⟨j_10, h_10, rfl, Or.inl ⟨Or.inr (by omega), rfl, rfl, rfl, rfl, rfl, rfl, rfl, rfl, rfl, rfl, rfl, rfl, rfl, rfl, rfl⟩⟩⟩) hP hD hS
      · skip
        refine lv_iload_n hx hb dX6_sheet_27 rfl (lv_at hl 3 rfl) ?_
        refine lv_bipush (v := nI (80)) hx hb dX6_sheet_28 (by decide) ?_
        refine r_icmp_le (x := z) (y := nI (80)) hx hb dX6_sheet_30 (tgt := 36) (by decide) (fun c30 => ?_) (fun c30 => ?_)
        · skip
          refine lv_iload_n hx hb dX6_sheet_36 rfl (lv_at hl 3 rfl) ?_
          refine r_if_ge hx hb dX6_sheet_37 (tgt := 46) (by decide) (fun c37 => ?_) (fun c37 => ?_)
          · skip
            obtain ⟨z', z'B, rfl⟩ := r_nat c37
            have z'T := n_tI z'B
            refine lv_aload_n hx hb dX6_sheet_46 rfl (lv_at hl 0 rfl) ?_
            refine va_get (D := D) (ci := 6) (v := .ref (a 1)) (C := RX6) (T := TX6) (N := 9) hx hb hts hinX6 hown hK hP 0 rfl rfl 0 (by decide) (hts (.fieldLink RX6 12 "DancedLock" "sheets" "LDancedLock$Sheets;") (List.mem_of_getElem? (i := 2) rfl)) (fun _ h9 => h9) rfl dX6_sheet_47 ?_
            refine lv_iload_n hx hb dX6_sheet_50 rfl (lv_at hl 1 rfl) ?_
            refine lv_iload_n hx hb dX6_sheet_51 rfl (lv_at hl 2 rfl) ?_
            refine lv_iload_n hx hb dX6_sheet_52 rfl (lv_at hl 3 rfl) ?_
            refine w_cVv (rest := []) hx hb hml hown hts (k_renew l D a cI cJ cZ A (va_up v 0 (va_up (v 0) 8 (0))) c j_10 (nI (y')) z'  (by first | assumption | omega) (by first | assumption | omega)) 3 gX6_sheet_X3_renew rfl hdX3_renew ⟨Nat.le_of_ble_eq_true rfl, Nat.le_of_ble_eq_true rfl⟩ hK hN hP hD hS hA 1 3 rfl rfl rfl rfl hl.1 rfl (Nat.le_of_ble_eq_true rfl) dX6_sheet_53 ⟨Nat.le_of_ble_eq_true rfl, Nat.le_of_ble_eq_true rfl⟩ (fun u H locs hq hP hD hS => ?_)
            obtain rfl := hq
            have hP : va_P D vwCl (xW a cI cJ cZ (va_up (va_up v 0 (va_up (v 0) 8 (0))) 3 (va_up ((v 3)) j_10 z')) (va_up (va_up c 2 (va_up ((c 2)) j_10 (nI (y')))) 4 (flf ((c 4)) (j_10 * 80) (j_10 * 80 + z') 0))) H := hP
            have hD : va_D A (xW a cI cJ cZ (va_up (va_up v 0 (va_up (v 0) 8 (0))) 3 (va_up ((v 3)) j_10 z')) (va_up (va_up c 2 (va_up ((c 2)) j_10 (nI (y')))) 4 (flf ((c 4)) (j_10 * 80) (j_10 * 80 + z') 0))) := hD
            refine lv_iconst (v := nI (1)) hx hb dX6_sheet_56 (by decide) ?_
            exact hret (nI (1)) (va_up (va_up v 0 (va_up (v 0) 8 (0))) 3 (va_up ((v 3)) j_10 z'), va_up (va_up c 2 (va_up ((c 2)) j_10 (nI (y')))) 4 (flf ((c 4)) (j_10 * 80) (j_10 * 80 + z') 0)) _ _ 57 _ dX6_sheet_57 rfl (by exact ⟨XI_sheet hI (by omega), Or.inr ⟨j_10, h_10, rfl, Or.inr ⟨y', c24, rfl, Or.inr ⟨z', by omega, rfl, rfl, rfl, rfl, rfl, rfl, rfl, rfl, rfl, rfl, rfl, rfl, rfl, rfl, rfl, rfl⟩⟩⟩⟩) hP hD hS
          · skip
            refine lv_aload_n hx hb dX6_sheet_40 rfl (lv_at hl 0 rfl) ?_
            refine lv_iconst (v := nI (4)) hx hb dX6_sheet_41 (by decide) ?_
            refine w_cVi (rest := []) hx hb hml hown hts (k_faulted l D a cI cJ cZ A (va_up v 0 (va_up (v 0) 8 (0))) c 4  ) 1 gX6_sheet_X6_faulted rfl hdX6_faulted ⟨Nat.le_of_ble_eq_true rfl, Nat.le_of_ble_eq_true rfl⟩ hK hN hP hD hS hA 0 6 rfl rfl rfl rfl hl.1 rfl (Nat.le_of_ble_eq_true rfl) dX6_sheet_42 ⟨Nat.le_of_ble_eq_true rfl, Nat.le_of_ble_eq_true rfl⟩ (fun r u H locs hq hP hD hS => ?_)
            obtain ⟨rfl, rfl⟩ := hq
            have hP : va_P D vwCl (xW a cI cJ cZ (va_up v 0 (va_up (v 0) 8 (4))) c) H := hP
            have hD : va_D A (xW a cI cJ cZ (va_up v 0 (va_up (v 0) 8 (4))) c) := hD
            exact hret ((-10) - (nI (4))) (va_up v 0 (va_up (v 0) 8 (4)), c) _ _ 45 _ dX6_sheet_45 rfl (by exact ⟨hI, Or.inr ⟨j_10, h_10, rfl, Or.inr ⟨y', c24, rfl, Or.inl ⟨c37, by decide, rfl, rfl, rfl, rfl, rfl, rfl, rfl, rfl, rfl, rfl, rfl, rfl, rfl, rfl⟩⟩⟩⟩) hP hD hS
        · skip
          refine lv_bipush (v := -2) hx hb dX6_sheet_33 (by decide) ?_
          exact hret ((-2)) (va_up v 0 (va_up (v 0) 8 (0)), c) _ _ 35 _ dX6_sheet_35 rfl (by first | exact ⟨hI, Or.inr ⟨j_10, h_10, rfl, Or.inl ⟨Or.inl (nR_of (by decide) (by omega)), rfl, rfl, rfl, rfl, rfl, rfl, rfl, rfl, rfl, rfl, rfl, rfl, rfl, rfl, rfl⟩⟩⟩ | exact ⟨hI, Or.inr ⟨j_10, h_10, rfl, Or.inl ⟨Or.inr (by omega), rfl, rfl, rfl, rfl, rfl, rfl, rfl, rfl, rfl, rfl, rfl, rfl, rfl, rfl, rfl⟩⟩⟩) hP hD hS
  · skip
    have hP : va_P D vwCl (xW a cI cJ cZ (va_up v 0 (va_up (v 0) 8 (0))) c) H := hP
    have hD : va_D A (xW a cI cJ cZ (va_up v 0 (va_up (v 0) 8 (0))) c) := hD
    refine w_if_ne (x := 0) hx hb dX6_sheet_13 (tgt := 18) (by decide) (by decide) (fun h => absurd h (by decide)) (fun _ => ?_)
    refine lv_iconst (v := -1) hx hb dX6_sheet_16 (by decide) ?_
    exact hret ((-1)) (va_up v 0 (va_up (v 0) 8 (0)), c) _ _ 17 _ dX6_sheet_17 rfl (by exact ⟨hI, Or.inl ⟨nR_of (by decide) (by omega), rfl, rfl, rfl, rfl, rfl, rfl, rfl, rfl, rfl, rfl, rfl, rfl, rfl, rfl, rfl⟩⟩) hP hD hS

set_option maxHeartbeats 4000000 in
set_option maxRecDepth 100000 in
theorem t_put (l : Launch) (D : va_G) (a : Nat → Nat) (cI cJ cZ : ClassId) (A : Nat → Prop) (v : Nat → Nat → Nat) (c : Nat → Nat → Int32) (x : Int32) (y : Int32) (z : Int32) (hI : XI v) :
    mI l yX6_put wsX6_put 4 89 [.ref (a 0), .int x, .int y, .int z] D (xT cI cJ cZ) A (xW a cI cJ cZ v c) (fun u : ((Nat → Nat → Nat) × (Nat → Nat → Int32)) => xW a cI cJ cZ u.1 u.2)
    (fun (r : Int32) (u : ((Nat → Nat → Nat) × (Nat → Nat → Int32))) => XI u.1 ∧ sp_put v c u x y z r) := by
  refine w_bI cX6_put 5 .int (by decide) rfl (Nat.le_of_ble_eq_true rfl) (Or.inl rfl) ?_
  intro p e s m args below meth c0 ls Q hx hb hml hts hown hK hN hA hret hP hD hS hl
  have hl : lv_has ls 5 [(0, .ref (a 0)), (1, .int x), (2, .int y), (3, .int z)] := hl
  have hinX6 : ∀ w ∈ wsX60, w ∈ wsX6_put := fun w h => List.mem_cons_of_mem _ (List.mem_append_left _ (List.mem_append_right _ h))
  obtain ⟨hnb, hnd, hbt, hfg, hne, hnc, hdk, hnf, hkn, hln, hst, hdc, hsp⟩ := id hI
  have t1 : (nI 1).toInt = 1 := rfl
  refine lv_aload_n hx hb dX6_put_0 rfl (lv_at hl 0 rfl) ?_
  refine lv_iconst (v := nI (0)) hx hb dX6_put_1 (by decide) ?_
  refine va_put (D := D) (ci := 6) (v := .int (nI (0))) (ty := .int) (C := RX6) (T := TX6) (N := 9) hx hb hts hinX6 tyX6 tyX6_ok nmX6 hown hK hP hD hS 0 rfl rfl 8 (by decide) (hts (.fieldLink RX6 147 "DancedLock" "latestFault" "I") (List.mem_of_getElem? (i := 1) rfl)) (fun _ h9 => h9) rfl (by decide +kernel) rfl (rfl) (Nat.le_of_ble_eq_true rfl) dX6_put_2 (fun H locs hP hD hS => ?_)
  have hP : va_P D vwCl (xW a cI cJ cZ (va_up v 0 (va_up (v 0) 8 (0))) c) H := hP
  have hD : va_D A (xW a cI cJ cZ (va_up v 0 (va_up (v 0) 8 (0))) c) := hD
  refine lv_aload_n hx hb dX6_put_5 rfl (lv_at hl 0 rfl) ?_
  refine va_get (D := D) (ci := 6) (v := .ref (a 1)) (C := RX6) (T := TX6) (N := 9) hx hb hts hinX6 hown hK hP 0 rfl rfl 0 (by decide) (hts (.fieldLink RX6 12 "DancedLock" "sheets" "LDancedLock$Sheets;") (List.mem_of_getElem? (i := 2) rfl)) (fun _ h9 => h9) rfl dX6_put_6 ?_
  refine lv_iload_n hx hb dX6_put_9 rfl (lv_at hl 1 rfl) ?_
  refine w_cVi (rest := []) hx hb hml hown hts (k_sincl_R l D a cI cJ cZ A (va_up v 0 (va_up (v 0) 8 (0))) c x  ) 1 gX6_put_X3_includes rfl hdX3_includes ⟨Nat.le_of_ble_eq_true rfl, Nat.le_of_ble_eq_true rfl⟩ hK hN hP hD hS hA 1 3 rfl rfl rfl rfl hl.1 rfl (Nat.le_of_ble_eq_true rfl) dX6_put_10 ⟨Nat.le_of_ble_eq_true rfl, Nat.le_of_ble_eq_true rfl⟩ (fun r u H locs hq hP hD hS => ?_)
  rcases hq with ⟨j_10, rfl, h_10, hs_x_10⟩ | ⟨rfl, h_10⟩
  · skip
    have hP : va_P D vwCl (xW a cI cJ cZ (va_up v 0 (va_up (v 0) 8 (0))) c) H := hP
    have hD : va_D A (xW a cI cJ cZ (va_up v 0 (va_up (v 0) 8 (0))) c) := hD
    subst hs_x_10
    have j_10T := n_tI (k := j_10) (by omega)
    refine w_if_ne (x := 1) hx hb dX6_put_13 (tgt := 18) (by decide) (by decide) (fun _ => ?_) (fun h => absurd h (by decide))
    refine lv_aload_n hx hb dX6_put_18 rfl (lv_at hl 0 rfl) ?_
    refine va_get (D := D) (ci := 6) (v := .ref (a 1)) (C := RX6) (T := TX6) (N := 9) hx hb hts hinX6 hown hK hP 0 rfl rfl 0 (by decide) (hts (.fieldLink RX6 12 "DancedLock" "sheets" "LDancedLock$Sheets;") (List.mem_of_getElem? (i := 2) rfl)) (fun _ h9 => h9) rfl dX6_put_19 ?_
    refine lv_iload_n hx hb dX6_put_22 rfl (lv_at hl 1 rfl) ?_
    refine lv_aload_n hx hb dX6_put_23 rfl (lv_at hl 0 rfl) ?_
    refine va_get (D := D) (ci := 6) (v := .ref (a 1)) (C := RX6) (T := TX6) (N := 9) hx hb hts hinX6 hown hK hP 0 rfl rfl 0 (by decide) (hts (.fieldLink RX6 12 "DancedLock" "sheets" "LDancedLock$Sheets;") (List.mem_of_getElem? (i := 2) rfl)) (fun _ h9 => h9) rfl dX6_put_24 ?_
    refine lv_iload_n hx hb dX6_put_27 rfl (lv_at hl 1 rfl) ?_
    refine w_cVi (rest := [.int (nI (j_10)), .ref (a 1)]) hx hb hml hown hts (k_sortOf l D a cI cJ cZ A (va_up v 0 (va_up (v 0) 8 (0))) c j_10  (by first | assumption | omega)) 1 gX6_put_X3_sortOf rfl hdX3_sortOf ⟨Nat.le_of_ble_eq_true rfl, Nat.le_of_ble_eq_true rfl⟩ hK hN hP hD hS hA 1 3 rfl rfl rfl rfl hl.1 rfl (Nat.le_of_ble_eq_true rfl) dX6_put_28 ⟨Nat.le_of_ble_eq_true rfl, Nat.le_of_ble_eq_true rfl⟩ (fun r u H locs hq hP hD hS => ?_)
    have hr_28 := hq
    have hr_28 : r = (c 2) j_10 := hr_28
    subst hr_28
    have hP : va_P D vwCl (xW a cI cJ cZ (va_up v 0 (va_up (v 0) 8 (0))) c) H := hP
    have hD : va_D A (xW a cI cJ cZ (va_up v 0 (va_up (v 0) 8 (0))) c) := hD
    refine lv_iload_n hx hb dX6_put_31 rfl (lv_at hl 2 rfl) ?_
    refine lv_iconst (v := nI (1)) hx hb dX6_put_32 (by decide) ?_
    refine w_cVi (rest := []) hx hb hml hown hts (k_faultOfCells l D a cI cJ cZ A (va_up v 0 (va_up (v 0) 8 (0))) c j_10 ((c 2) j_10) y (nI (1))  (by first | assumption | omega) (by show (v 3) j_10 ≤ 80; exact hln _ h_10)) 4 gX6_put_X3_faultOfCells rfl hdX3_faultOfCells ⟨Nat.le_of_ble_eq_true rfl, Nat.le_of_ble_eq_true rfl⟩ hK hN hP hD hS hA 1 3 rfl rfl rfl rfl hl.1 rfl (Nat.le_of_ble_eq_true rfl) dX6_put_33 ⟨Nat.le_of_ble_eq_true rfl, Nat.le_of_ble_eq_true rfl⟩ (fun r u H locs hq hP hD hS => ?_)
    rcases hq with ⟨rfl, h1_33⟩ | ⟨rfl, h1_33, h2_33⟩ | ⟨rfl, h1_33, h2_33, h3_33⟩ | ⟨rfl, h1_33, h2_33, h3_33, h4_33⟩ | ⟨rfl, h1_33, h2_33, h3_33, h4_33, h5_33⟩
    · skip
      have h1_33 : (c 2) j_10 = -1 := h1_33
      have hP : va_P D vwCl (xW a cI cJ cZ (va_up v 0 (va_up (v 0) 8 (0))) c) H := hP
      have hD : va_D A (xW a cI cJ cZ (va_up v 0 (va_up (v 0) 8 (0))) c) := hD
      refine lv_istore (lv' := [(4, .int (nI (1))), (0, .ref (a 0)), (1, .int (nI (j_10))), (2, .int y), (3, .int z)]) hx hb dX6_put_36 hl (by decide) rfl (fun ls hl => ?_)
      refine lv_iload hx hb dX6_put_38 (lv_at hl 0 rfl) ?_
      refine w_if_eq (x := 1) hx hb dX6_put_40 (tgt := 50) (by decide) (by decide) (fun h => absurd h (by decide)) (fun _ => ?_)
      refine lv_aload_n hx hb dX6_put_43 rfl (lv_at hl 1 rfl) ?_
      refine lv_iload hx hb dX6_put_44 (lv_at hl 0 rfl) ?_
      refine w_cVi (rest := []) hx hb hml hown hts (k_faulted l D a cI cJ cZ A (va_up v 0 (va_up (v 0) 8 (0))) c 1  ) 1 gX6_put_X6_faulted rfl hdX6_faulted ⟨Nat.le_of_ble_eq_true rfl, Nat.le_of_ble_eq_true rfl⟩ hK hN hP hD hS hA 0 6 rfl rfl rfl rfl hl.1 rfl (Nat.le_of_ble_eq_true rfl) dX6_put_46 ⟨Nat.le_of_ble_eq_true rfl, Nat.le_of_ble_eq_true rfl⟩ (fun r u H locs hq hP hD hS => ?_)
      obtain ⟨rfl, rfl⟩ := hq
      have hP : va_P D vwCl (xW a cI cJ cZ (va_up v 0 (va_up (v 0) 8 (1))) c) H := hP
      have hD : va_D A (xW a cI cJ cZ (va_up v 0 (va_up (v 0) 8 (1))) c) := hD
      exact hret ((-10) - (nI (1))) (va_up v 0 (va_up (v 0) 8 (1)), c) _ _ 49 _ dX6_put_49 rfl (by exact ⟨hI, Or.inr ⟨j_10, h_10, rfl, Or.inl ⟨h1_33, by decide, rfl, rfl, rfl, rfl, rfl, rfl, rfl, rfl, rfl, rfl, rfl, rfl, rfl, rfl⟩⟩⟩) hP hD hS
    · skip
      have h1_33 : (c 2) j_10 ≠ -1 := h1_33
      have h2_33 : (c 2) j_10 ≠ ((c 2) j_10) := h2_33
      exact absurd rfl h2_33
    · skip
      have h1_33 : (c 2) j_10 ≠ -1 := h1_33
      have h2_33 : (c 2) j_10 = ((c 2) j_10) := h2_33
      exfalso; omega
    · skip
      have h1_33 : (c 2) j_10 ≠ -1 := h1_33
      have h2_33 : (c 2) j_10 = ((c 2) j_10) := h2_33
      have h4_33 : y.toInt < 0 ∨ ((v 3) j_10 : Int) < y.toInt + (nI (1)).toInt := h4_33
      have hP : va_P D vwCl (xW a cI cJ cZ (va_up v 0 (va_up (v 0) 8 (0))) c) H := hP
      have hD : va_D A (xW a cI cJ cZ (va_up v 0 (va_up (v 0) 8 (0))) c) := hD
      refine lv_istore (lv' := [(4, .int (nI (3))), (0, .ref (a 0)), (1, .int (nI (j_10))), (2, .int y), (3, .int z)]) hx hb dX6_put_36 hl (by decide) rfl (fun ls hl => ?_)
      refine lv_iload hx hb dX6_put_38 (lv_at hl 0 rfl) ?_
      refine w_if_eq (x := 3) hx hb dX6_put_40 (tgt := 50) (by decide) (by decide) (fun h => absurd h (by decide)) (fun _ => ?_)
      refine lv_aload_n hx hb dX6_put_43 rfl (lv_at hl 1 rfl) ?_
      refine lv_iload hx hb dX6_put_44 (lv_at hl 0 rfl) ?_
      refine w_cVi (rest := []) hx hb hml hown hts (k_faulted l D a cI cJ cZ A (va_up v 0 (va_up (v 0) 8 (0))) c 3  ) 1 gX6_put_X6_faulted rfl hdX6_faulted ⟨Nat.le_of_ble_eq_true rfl, Nat.le_of_ble_eq_true rfl⟩ hK hN hP hD hS hA 0 6 rfl rfl rfl rfl hl.1 rfl (Nat.le_of_ble_eq_true rfl) dX6_put_46 ⟨Nat.le_of_ble_eq_true rfl, Nat.le_of_ble_eq_true rfl⟩ (fun r u H locs hq hP hD hS => ?_)
      obtain ⟨rfl, rfl⟩ := hq
      have hP : va_P D vwCl (xW a cI cJ cZ (va_up v 0 (va_up (v 0) 8 (3))) c) H := hP
      have hD : va_D A (xW a cI cJ cZ (va_up v 0 (va_up (v 0) 8 (3))) c) := hD
      exact hret ((-10) - (nI (3))) (va_up v 0 (va_up (v 0) 8 (3)), c) _ _ 49 _ dX6_put_49 rfl (by exact ⟨hI, Or.inr ⟨j_10, h_10, rfl, Or.inr (Or.inl ⟨h1_33, nR_of (by have h9 := hln _ h_10; omega) (by omega), by decide, rfl, rfl, rfl, rfl, rfl, rfl, rfl, rfl, rfl, rfl, rfl, rfl, rfl, rfl⟩)⟩⟩) hP hD hS
    · skip
      have h1_33 : (c 2) j_10 ≠ -1 := h1_33
      have h2_33 : (c 2) j_10 = ((c 2) j_10) := h2_33
      have h5_33 : y.toInt + (nI (1)).toInt ≤ (v 3) j_10 := h5_33
      have hP : va_P D vwCl (xW a cI cJ cZ (va_up v 0 (va_up (v 0) 8 (0))) c) H := hP
      have hD : va_D A (xW a cI cJ cZ (va_up v 0 (va_up (v 0) 8 (0))) c) := hD
      refine lv_istore (lv' := [(4, .int (nI (0))), (0, .ref (a 0)), (1, .int (nI (j_10))), (2, .int y), (3, .int z)]) hx hb dX6_put_36 hl (by decide) rfl (fun ls hl => ?_)
      refine lv_iload hx hb dX6_put_38 (lv_at hl 0 rfl) ?_
      refine w_if_eq (x := 0) hx hb dX6_put_40 (tgt := 50) (by decide) (by decide) (fun _ => ?_) (fun h => absurd h (by decide))
      obtain ⟨yy, hyy, rfl⟩ := in_lt (x := y) (n := v 3 j_10) (by omega) (by omega)
      refine lv_aload_n hx hb dX6_put_50 rfl (lv_at hl 1 rfl) ?_
      refine va_get (D := D) (ci := 6) (v := .ref (a 1)) (C := RX6) (T := TX6) (N := 9) hx hb hts hinX6 hown hK hP 0 rfl rfl 0 (by decide) (hts (.fieldLink RX6 12 "DancedLock" "sheets" "LDancedLock$Sheets;") (List.mem_of_getElem? (i := 2) rfl)) (fun _ h9 => h9) rfl dX6_put_51 ?_
      refine lv_iload_n hx hb dX6_put_54 rfl (lv_at hl 2 rfl) ?_
      refine lv_iload_n hx hb dX6_put_55 rfl (lv_at hl 3 rfl) ?_
      refine lv_iload_n hx hb dX6_put_56 rfl (lv_at hl 4 rfl) ?_
      refine w_cVv (rest := []) hx hb hml hown hts (k_write l D a cI cJ cZ A (va_up v 0 (va_up (v 0) 8 (0))) c j_10 yy z  (by first | assumption | omega) (by show (v 3) j_10 ≤ 80; exact hln _ h_10) (by show yy < (v 3) j_10; exact hyy)) 3 gX6_put_X3_write rfl hdX3_write ⟨Nat.le_of_ble_eq_true rfl, Nat.le_of_ble_eq_true rfl⟩ hK hN hP hD hS hA 1 3 rfl rfl rfl rfl hl.1 rfl (Nat.le_of_ble_eq_true rfl) dX6_put_57 ⟨Nat.le_of_ble_eq_true rfl, Nat.le_of_ble_eq_true rfl⟩ (fun u H locs hq hP hD hS => ?_)
      obtain rfl := hq
      have hP : va_P D vwCl (xW a cI cJ cZ (va_up v 0 (va_up (v 0) 8 (0))) (va_up c 4 (va_up ((c 4)) (j_10 * 80 + yy) (cutf z ((c 2) j_10))))) H := hP
      have hD : va_D A (xW a cI cJ cZ (va_up v 0 (va_up (v 0) 8 (0))) (va_up c 4 (va_up ((c 4)) (j_10 * 80 + yy) (cutf z ((c 2) j_10))))) := hD
      refine lv_iconst (v := nI (1)) hx hb dX6_put_60 (by decide) ?_
      exact hret (nI (1)) (va_up v 0 (va_up (v 0) 8 (0)), va_up c 4 (va_up ((c 4)) (j_10 * 80 + yy) (cutf z ((c 2) j_10)))) _ _ 61 _ dX6_put_61 rfl (by exact ⟨hI, Or.inr ⟨j_10, h_10, rfl, Or.inr (Or.inr ⟨yy, hyy, rfl, h1_33, rfl, rfl, rfl, rfl, rfl, rfl, rfl, rfl, rfl, rfl, rfl, rfl, rfl, rfl, rfl⟩)⟩⟩) hP hD hS
  · skip
    have hP : va_P D vwCl (xW a cI cJ cZ (va_up v 0 (va_up (v 0) 8 (0))) c) H := hP
    have hD : va_D A (xW a cI cJ cZ (va_up v 0 (va_up (v 0) 8 (0))) c) := hD
    refine w_if_ne (x := 0) hx hb dX6_put_13 (tgt := 18) (by decide) (by decide) (fun h => absurd h (by decide)) (fun _ => ?_)
    refine lv_iconst (v := -1) hx hb dX6_put_16 (by decide) ?_
    exact hret ((-1)) (va_up v 0 (va_up (v 0) 8 (0)), c) _ _ 17 _ dX6_put_17 rfl (by exact ⟨hI, Or.inl ⟨nR_of (by decide) (by omega), rfl, rfl, rfl, rfl, rfl, rfl, rfl, rfl, rfl, rfl, rfl, rfl, rfl, rfl, rfl⟩⟩) hP hD hS

set_option maxHeartbeats 4000000 in
set_option maxRecDepth 100000 in
theorem t_lock (l : Launch) (D : va_G) (a : Nat → Nat) (cI cJ cZ : ClassId) (A : Nat → Prop) (v : Nat → Nat → Nat) (c : Nat → Nat → Int32) (sh : Int32) (so : Int32) (ii : Int32) (qq : Int32) (hI : XI v) :
    mI l yX6_lock wsX6_lock 6 132 [.ref (a 0), .int sh, .int so, .int ii, .int qq] D (xT cI cJ cZ) A (xW a cI cJ cZ v c) (fun u : ((Nat → Nat → Nat) × (Nat → Nat → Int32)) => xW a cI cJ cZ u.1 u.2)
    (fun (r : Int32) (u : ((Nat → Nat → Nat) × (Nat → Nat → Int32))) => XI u.1 ∧ sp_lock v c u sh so ii qq r) := by
  refine w_bI cX6_lock 7 .int (by decide) rfl (Nat.le_of_ble_eq_true rfl) (Or.inl rfl) ?_
  intro p e s m args below meth c0 ls Q hx hb hml hts hown hK hN hA hret hP hD hS hl
  have hl : lv_has ls 7 [(0, .ref (a 0)), (1, .int sh), (2, .int so), (3, .int ii), (4, .int qq)] := hl
  have hinX1 : ∀ w ∈ wsX10, w ∈ wsX6_lock := fun w h => List.mem_cons_of_mem _ (List.mem_append_left _ (List.mem_append_left _ (List.mem_append_right _ h)))
  have hinX2 : ∀ w ∈ wsX20, w ∈ wsX6_lock := fun w h => List.mem_cons_of_mem _ (List.mem_append_left _ (List.mem_append_right _ h))
  have hinX4 : ∀ w ∈ wsX40, w ∈ wsX6_lock := fun w h => List.mem_cons_of_mem _ (List.mem_append_left _ (List.mem_append_left _ (List.mem_append_left _ (List.mem_append_left _ (List.mem_append_right _ h)))))
  have hinX5 : ∀ w ∈ wsX50, w ∈ wsX6_lock := fun w h => List.mem_cons_of_mem _ (List.mem_append_left _ (List.mem_append_left _ (List.mem_append_left _ (List.mem_append_right _ h))))
  have hinX6 : ∀ w ∈ wsX60, w ∈ wsX6_lock := fun w h => List.mem_cons_of_mem _ (List.mem_append_left _ (List.mem_append_left _ (List.mem_append_left _ (List.mem_append_left _ (List.mem_append_left _ (List.mem_append_right _ h))))))
  obtain ⟨hnb, hnd, hbt, hfg, hne, hnc, hdk, hnf, hkn, hln, hst, hdc, hsp⟩ := id hI
  refine lv_aload_n hx hb dX6_lock_0 rfl (lv_at hl 0 rfl) ?_
  refine lv_iload_n hx hb dX6_lock_1 rfl (lv_at hl 1 rfl) ?_
  refine lv_iload_n hx hb dX6_lock_2 rfl (lv_at hl 2 rfl) ?_
  refine lv_iconst (v := nI (0)) hx hb dX6_lock_3 (by decide) ?_
  refine lv_iload_n hx hb dX6_lock_4 rfl (lv_at hl 3 rfl) ?_
  refine lv_iload hx hb dX6_lock_5 (lv_at hl 4 rfl) ?_
  refine w_cVi (rest := []) hx hb hml hown hts (k_takeRow l D a cI cJ cZ A v c sh so 0 ii qq  (by first | assumption | omega) (by first | assumption | omega)) 5 gX6_lock_X6_takeRow rfl hdX6_takeRow ⟨Nat.le_of_ble_eq_true rfl, Nat.le_of_ble_eq_true rfl⟩ hK hN hP hD hS hA 0 6 rfl rfl rfl rfl hl.1 rfl (Nat.le_of_ble_eq_true rfl) dX6_lock_7 ⟨Nat.le_of_ble_eq_true rfl, Nat.le_of_ble_eq_true rfl⟩ (fun r u H locs hq hP hD hS => ?_)
  rcases hq with ⟨rfl, rfl, h_7⟩ | ⟨k_7, rfl, rfl, h1_7, hs_sh_7, h_7⟩ | ⟨k_7, s1_7, rfl, rfl, h1_7, hs_sh_7, h2_7, hs_so_7, h3_7, h4_7⟩ | ⟨k_7, s1_7, rfl, rfl, h1_7, hs_sh_7, h2_7, hs_so_7, h3_7, h4_7, h5_7⟩ | ⟨k_7, s1_7, rfl, rfl, h1_7, hs_sh_7, h2_7, hs_so_7, h3_7, h5_7, h6_7⟩ | ⟨k_7, s1_7, rfl, rfl, h1_7, hs_sh_7, h2_7, hs_so_7, h3_7, h5_7, h6_7, h7_7⟩ | ⟨k_7, s1_7, j_7, n1_7, rfl, rfl, h1_7, hs_sh_7, h2_7, hs_so_7, h3_7, h5_7, hl_7, h6_7, hs_i_7, hs_q_7⟩
  · skip
    have hP : va_P D vwCl (xW a cI cJ cZ (va_up v 0 (va_up (v 0) 8 (0))) c) H := hP
    have hD : va_D A (xW a cI cJ cZ (va_up v 0 (va_up (v 0) 8 (0))) c) := hD
    refine lv_istore (lv' := [(5, .int (-1)), (0, .ref (a 0)), (1, .int sh), (2, .int so), (3, .int ii), (4, .int qq)]) hx hb dX6_lock_10 hl (by decide) rfl (fun ls hl => ?_)
    refine lv_iload hx hb dX6_lock_12 (lv_at hl 0 rfl) ?_
    refine lv_if_eq hx hb dX6_lock_14 (tgt := 20) (by decide) (fun c14 => absurd c14 (by first | assumption | decide)) (fun c14 => ?_)
    refine lv_iload hx hb dX6_lock_17 (lv_at hl 0 rfl) ?_
    exact hret (-1) (va_up v 0 (va_up (v 0) 8 (0)), c) _ _ 19 _ dX6_lock_19 rfl (by exact ⟨hI, Or.inl ⟨_, tb_0 (by omega), rfl, rfl, rfl, rfl, rfl, rfl, rfl, rfl, rfl, rfl, rfl, rfl, rfl, rfl⟩⟩) hP hD hS
  · skip
    have hP : va_P D vwCl (xW a cI cJ cZ (va_up v 0 (va_up (v 0) 8 (0))) c) H := hP
    have hD : va_D A (xW a cI cJ cZ (va_up v 0 (va_up (v 0) 8 (0))) c) := hD
    subst hs_sh_7
    have k_7T := n_tI (k := k_7) (by omega)
    refine lv_istore (lv' := [(5, .int (-2)), (0, .ref (a 0)), (1, .int (nI (k_7))), (2, .int so), (3, .int ii), (4, .int qq)]) hx hb dX6_lock_10 hl (by decide) rfl (fun ls hl => ?_)
    refine lv_iload hx hb dX6_lock_12 (lv_at hl 0 rfl) ?_
    refine lv_if_eq hx hb dX6_lock_14 (tgt := 20) (by decide) (fun c14 => absurd c14 (by first | assumption | decide)) (fun c14 => ?_)
    refine lv_iload hx hb dX6_lock_17 (lv_at hl 0 rfl) ?_
    exact hret (-2) (va_up v 0 (va_up (v 0) 8 (0)), c) _ _ 19 _ dX6_lock_19 rfl (by exact ⟨hI, Or.inl ⟨_, tb_1 h1_7 (by omega), rfl, rfl, rfl, rfl, rfl, rfl, rfl, rfl, rfl, rfl, rfl, rfl, rfl, rfl⟩⟩) hP hD hS
  · skip
    have hP : va_P D vwCl (xW a cI cJ cZ (va_up v 0 (va_up (v 0) 8 (1))) c) H := hP
    have hD : va_D A (xW a cI cJ cZ (va_up v 0 (va_up (v 0) 8 (1))) c) := hD
    subst hs_sh_7
    have k_7T := n_tI (k := k_7) (by omega)
    subst hs_so_7
    have s1_7T := n_tI (k := s1_7) (by omega)
    refine lv_istore (lv' := [(5, .int ((-10) - (nI (1)))), (0, .ref (a 0)), (1, .int (nI (k_7))), (2, .int (nI (s1_7))), (3, .int ii), (4, .int qq)]) hx hb dX6_lock_10 hl (by decide) rfl (fun ls hl => ?_)
    refine lv_iload hx hb dX6_lock_12 (lv_at hl 0 rfl) ?_
    refine lv_if_eq hx hb dX6_lock_14 (tgt := 20) (by decide) (fun c14 => absurd c14 (by first | assumption | decide)) (fun c14 => ?_)
    refine lv_iload hx hb dX6_lock_17 (lv_at hl 0 rfl) ?_
    exact hret ((-10) - (nI (1))) (va_up v 0 (va_up (v 0) 8 (1)), c) _ _ 19 _ dX6_lock_19 rfl (by exact ⟨hI, Or.inl ⟨_, tbo_2 id h1_7 h2_7 h4_7, rfl, rfl, rfl, rfl, rfl, rfl, rfl, rfl, rfl, rfl, rfl, rfl, rfl, rfl⟩⟩) hP hD hS
  · skip
    have hP : va_P D vwCl (xW a cI cJ cZ (va_up v 0 (va_up (v 0) 8 (2))) c) H := hP
    have hD : va_D A (xW a cI cJ cZ (va_up v 0 (va_up (v 0) 8 (2))) c) := hD
    subst hs_sh_7
    have k_7T := n_tI (k := k_7) (by omega)
    subst hs_so_7
    have s1_7T := n_tI (k := s1_7) (by omega)
    refine lv_istore (lv' := [(5, .int ((-10) - (nI (2)))), (0, .ref (a 0)), (1, .int (nI (k_7))), (2, .int (nI (s1_7))), (3, .int ii), (4, .int qq)]) hx hb dX6_lock_10 hl (by decide) rfl (fun ls hl => ?_)
    refine lv_iload hx hb dX6_lock_12 (lv_at hl 0 rfl) ?_
    refine lv_if_eq hx hb dX6_lock_14 (tgt := 20) (by decide) (fun c14 => absurd c14 (by first | assumption | decide)) (fun c14 => ?_)
    refine lv_iload hx hb dX6_lock_17 (lv_at hl 0 rfl) ?_
    exact hret ((-10) - (nI (2))) (va_up v 0 (va_up (v 0) 8 (2)), c) _ _ 19 _ dX6_lock_19 rfl (by exact ⟨hI, Or.inl ⟨_, tbo_3 id h1_7 h2_7 h4_7 h5_7, rfl, rfl, rfl, rfl, rfl, rfl, rfl, rfl, rfl, rfl, rfl, rfl, rfl, rfl⟩⟩) hP hD hS
  · skip
    have hP : va_P D vwCl (xW a cI cJ cZ (va_up v 0 (va_up (v 0) 8 (4))) c) H := hP
    have hD : va_D A (xW a cI cJ cZ (va_up v 0 (va_up (v 0) 8 (4))) c) := hD
    subst hs_sh_7
    have k_7T := n_tI (k := k_7) (by omega)
    subst hs_so_7
    have s1_7T := n_tI (k := s1_7) (by omega)
    refine lv_istore (lv' := [(5, .int ((-10) - (nI (4)))), (0, .ref (a 0)), (1, .int (nI (k_7))), (2, .int (nI (s1_7))), (3, .int ii), (4, .int qq)]) hx hb dX6_lock_10 hl (by decide) rfl (fun ls hl => ?_)
    refine lv_iload hx hb dX6_lock_12 (lv_at hl 0 rfl) ?_
    refine lv_if_eq hx hb dX6_lock_14 (tgt := 20) (by decide) (fun c14 => absurd c14 (by first | assumption | decide)) (fun c14 => ?_)
    refine lv_iload hx hb dX6_lock_17 (lv_at hl 0 rfl) ?_
    exact hret ((-10) - (nI (4))) (va_up v 0 (va_up (v 0) 8 (4)), c) _ _ 19 _ dX6_lock_19 rfl (by exact ⟨hI, Or.inl ⟨_, tbo_4 id h1_7 h2_7 h5_7 h6_7, rfl, rfl, rfl, rfl, rfl, rfl, rfl, rfl, rfl, rfl, rfl, rfl, rfl, rfl⟩⟩) hP hD hS
  · skip
    have hP : va_P D vwCl (xW a cI cJ cZ (va_up v 0 (va_up (v 0) 8 (3))) c) H := hP
    have hD : va_D A (xW a cI cJ cZ (va_up v 0 (va_up (v 0) 8 (3))) c) := hD
    subst hs_sh_7
    have k_7T := n_tI (k := k_7) (by omega)
    subst hs_so_7
    have s1_7T := n_tI (k := s1_7) (by omega)
    refine lv_istore (lv' := [(5, .int ((-10) - (nI (3)))), (0, .ref (a 0)), (1, .int (nI (k_7))), (2, .int (nI (s1_7))), (3, .int ii), (4, .int qq)]) hx hb dX6_lock_10 hl (by decide) rfl (fun ls hl => ?_)
    refine lv_iload hx hb dX6_lock_12 (lv_at hl 0 rfl) ?_
    refine lv_if_eq hx hb dX6_lock_14 (tgt := 20) (by decide) (fun c14 => absurd c14 (by first | assumption | decide)) (fun c14 => ?_)
    refine lv_iload hx hb dX6_lock_17 (lv_at hl 0 rfl) ?_
    exact hret ((-10) - (nI (3))) (va_up v 0 (va_up (v 0) 8 (3)), c) _ _ 19 _ dX6_lock_19 rfl (by exact ⟨hI, Or.inl ⟨_, tbo_5 id h1_7 h2_7 h5_7 h6_7 h7_7, rfl, rfl, rfl, rfl, rfl, rfl, rfl, rfl, rfl, rfl, rfl, rfl, rfl, rfl⟩⟩) hP hD hS
  · skip
    have hP : va_P D vwCl (xW a cI cJ cZ (va_up v 0 (va_up (v 0) 8 (0))) (va_up c 25 (va_cpy ((c 4)) ((c 25)) (k_7 * 80 + j_7) 0 n1_7))) H := hP
    have hD : va_D A (xW a cI cJ cZ (va_up v 0 (va_up (v 0) 8 (0))) (va_up c 25 (va_cpy ((c 4)) ((c 25)) (k_7 * 80 + j_7) 0 n1_7))) := hD
    subst hs_sh_7
    have k_7T := n_tI (k := k_7) (by omega)
    subst hs_so_7
    have s1_7T := n_tI (k := s1_7) (by omega)
    subst hs_i_7
    have j_7T := n_tI (k := j_7) (by omega)
    subst hs_q_7
    have n1_7T := n_tI (k := n1_7) (by omega)
    refine lv_istore (lv' := [(5, .int (nI (0))), (0, .ref (a 0)), (1, .int (nI (k_7))), (2, .int (nI (s1_7))), (3, .int (nI (j_7))), (4, .int (nI (n1_7)))]) hx hb dX6_lock_10 hl (by decide) rfl (fun ls hl => ?_)
    refine lv_iload hx hb dX6_lock_12 (lv_at hl 0 rfl) ?_
    refine w_if_eq (x := 0) hx hb dX6_lock_14 (tgt := 20) (by decide) (by decide) (fun _ => ?_) (fun h => absurd h (by decide))
    refine lv_aload_n hx hb dX6_lock_20 rfl (lv_at hl 1 rfl) ?_
    refine va_get (D := D) (ci := 6) (v := .ref (a 5)) (C := RX6) (T := TX6) (N := 9) hx hb hts hinX6 hown hK hP 0 rfl rfl 1 (by decide) (hts (.fieldLink RX6 21 "DancedLock" "text" "LDancedLock$Text;") (List.mem_of_getElem? (i := 1) rfl)) (fun _ h9 => h9) rfl dX6_lock_21 ?_
    refine lv_aload_n hx hb dX6_lock_24 rfl (lv_at hl 1 rfl) ?_
    refine va_get (D := D) (ci := 6) (v := .ref (a 25)) (C := RX6) (T := TX6) (N := 9) hx hb hts hinX6 hown hK hP 0 rfl rfl 6 (by decide) (hts (.fieldLink RX6 49 "DancedLock" "row" "[I") (List.mem_of_getElem? (i := 2) rfl)) (fun _ h9 => h9) rfl dX6_lock_25 ?_
    refine lv_iload hx hb dX6_lock_28 (lv_at hl 5 rfl) ?_
    refine w_cVi (rest := []) hx hb hml hown hts (k_firstFault l D a cI cJ cZ A (va_up v 0 (va_up (v 0) 8 (0))) (va_up c 25 (va_cpy ((c 4)) ((c 25)) (k_7 * 80 + j_7) 0 n1_7)) n1_7  (by omega)) 2 gX6_lock_X4_firstFault rfl hdX4_firstFault ⟨Nat.le_of_ble_eq_true rfl, Nat.le_of_ble_eq_true rfl⟩ hK hN hP hD hS hA 5 4 rfl rfl rfl rfl hl.1 rfl (Nat.le_of_ble_eq_true rfl) dX6_lock_30 ⟨Nat.le_of_ble_eq_true rfl, Nat.le_of_ble_eq_true rfl⟩ (fun r u H locs hq hP hD hS => ?_)
    rcases hq with ⟨q_30, nb6_30, nd6_30, g7_30, g8_30, g9_30, rfl, rfl, h_30⟩ | ⟨nb6_30, nd6_30, g7_30, g8_30, g9_30, S_30, rfl, rfl, h1_30, h2_30, h3_30⟩
    · skip
      have h_30 : FLT ((va_cpy ((c 4)) ((c 25)) (k_7 * 80 + j_7) 0 n1_7)) n1_7 q_30 := h_30
      have hP : va_P D vwCl (xW a cI cJ cZ (va_up (va_up (va_up (va_up (va_up v 0 (va_up (v 0) 8 (0))) 6 (va_up (va_up (v 6) 0 (nb6_30)) 1 (nd6_30))) 7 (g7_30)) 8 (g8_30)) 9 (g9_30)) (va_up c 25 (va_cpy ((c 4)) ((c 25)) (k_7 * 80 + j_7) 0 n1_7))) H := hP
      have hD : va_D A (xW a cI cJ cZ (va_up (va_up (va_up (va_up (va_up v 0 (va_up (v 0) 8 (0))) 6 (va_up (va_up (v 6) 0 (nb6_30)) 1 (nd6_30))) 7 (g7_30)) 8 (g8_30)) 9 (g9_30)) (va_up c 25 (va_cpy ((c 4)) ((c 25)) (k_7 * 80 + j_7) 0 n1_7))) := hD
      refine lv_istore (lv' := [(6, .int (nI (q_30))), (5, .int (nI (0))), (0, .ref (a 0)), (1, .int (nI (k_7))), (2, .int (nI (s1_7))), (3, .int (nI (j_7))), (4, .int (nI (n1_7)))]) hx hb dX6_lock_33 hl (by decide) rfl (fun ls hl => ?_)
      refine lv_iload hx hb dX6_lock_35 (lv_at hl 0 rfl) ?_
      refine lv_iconst (v := -1) hx hb dX6_lock_37 (by decide) ?_
      refine lv_icmp_eq hx hb dX6_lock_38 (tgt := 47) (by decide) (fun h => absurd h (n_neg (by have h9 := FLT_le h_30; omega) (by decide))) (fun _ => ?_)
      refine lv_bipush (v := -100) hx hb dX6_lock_41 (by decide) ?_
      refine lv_iload hx hb dX6_lock_43 (lv_at hl 0 rfl) ?_
      refine lv_isub hx hb dX6_lock_45 ?_
      exact hret ((-100) - (nI (q_30))) (va_up (va_up (va_up (va_up (va_up v 0 (va_up (v 0) 8 (0))) 6 (va_up (va_up (v 6) 0 (nb6_30)) 1 (nd6_30))) 7 (g7_30)) 8 (g8_30)) 9 (g9_30), va_up c 25 (va_cpy ((c 4)) ((c 25)) (k_7 * 80 + j_7) 0 n1_7)) _ _ 46 _ dX6_lock_46 rfl (by exact ⟨hI, Or.inr ⟨_, _, _, _, tky_o id h1_7 h2_7 h5_7 h6_7 rfl, rfl, _, fun e he => by rw [cpy_at he, Nat.add_assoc], Or.inl ⟨_, h_30, rfl, rfl, rfl, rfl, rfl, rfl, rfl, rfl, rfl, rfl, rfl, rfl, rfl, rfl⟩⟩⟩) hP hD hS
    · skip
      have h1_30 : TKN ((va_cpy ((c 4)) ((c 25)) (k_7 * 80 + j_7) 0 n1_7)) n1_7 nb6_30 g7_30 S_30 := h1_30
      have hP : va_P D vwCl (xW a cI cJ cZ (va_up (va_up (va_up (va_up (va_up v 0 (va_up (v 0) 8 (0))) 6 (va_up (va_up (v 6) 0 (nb6_30)) 1 (nd6_30))) 7 (g7_30)) 8 (g8_30)) 9 (g9_30)) (va_up c 25 (va_cpy ((c 4)) ((c 25)) (k_7 * 80 + j_7) 0 n1_7))) H := hP
      have hD : va_D A (xW a cI cJ cZ (va_up (va_up (va_up (va_up (va_up v 0 (va_up (v 0) 8 (0))) 6 (va_up (va_up (v 6) 0 (nb6_30)) 1 (nd6_30))) 7 (g7_30)) 8 (g8_30)) 9 (g9_30)) (va_up c 25 (va_cpy ((c 4)) ((c 25)) (k_7 * 80 + j_7) 0 n1_7))) := hD
      refine lv_istore (lv' := [(6, .int (-1)), (5, .int (nI (0))), (0, .ref (a 0)), (1, .int (nI (k_7))), (2, .int (nI (s1_7))), (3, .int (nI (j_7))), (4, .int (nI (n1_7)))]) hx hb dX6_lock_33 hl (by decide) rfl (fun ls hl => ?_)
      refine lv_iload hx hb dX6_lock_35 (lv_at hl 0 rfl) ?_
      refine lv_iconst (v := -1) hx hb dX6_lock_37 (by decide) ?_
      refine lv_icmp_eq hx hb dX6_lock_38 (tgt := 47) (by decide) (fun _ => ?_) (fun h => absurd h (by decide))
      refine lv_aload_n hx hb dX6_lock_47 rfl (lv_at hl 2 rfl) ?_
      refine va_get (D := D) (ci := 6) (v := .ref (a 11)) (C := RX6) (T := TX6) (N := 9) hx hb hts hinX6 hown hK hP 0 rfl rfl 3 (by decide) (hts (.fieldLink RX6 36 "DancedLock" "floor" "LDancedLock$Floor;") (List.mem_of_getElem? (i := 3) rfl)) (fun _ h9 => h9) rfl dX6_lock_48 ?_
      refine lv_aload_n hx hb dX6_lock_51 rfl (lv_at hl 2 rfl) ?_
      refine va_get (D := D) (ci := 6) (v := .ref (a 5)) (C := RX6) (T := TX6) (N := 9) hx hb hts hinX6 hown hK hP 0 rfl rfl 1 (by decide) (hts (.fieldLink RX6 21 "DancedLock" "text" "LDancedLock$Text;") (List.mem_of_getElem? (i := 1) rfl)) (fun _ h9 => h9) rfl dX6_lock_52 ?_
      refine va_getN (D := D) (ci := 4) (v := .ref (a 6)) (C := RX4) (T := TX4) (N := 1) hx hb hts hinX4 hown hK hP 5 rfl rfl 0 (by decide) (va_Nw.use rfl (hN (.fieldLinkNest RX6 61 "DancedLock$Text" "draft" "LDancedLock$Floor;" "DancedLock") (List.mem_of_getElem? (i := 5) rfl))) (fun _ h9 => h9) rfl dX6_lock_55 ?_
      refine w_cVv (rest := []) hx hb hml hown hts (k_becomeLike l D a cI cJ cZ A (va_up (va_up (va_up (va_up (va_up v 0 (va_up (v 0) 8 (0))) 6 (va_up (va_up (v 6) 0 (nb6_30)) 1 (nd6_30))) 7 (g7_30)) 8 (g8_30)) 9 (g9_30)) (va_up c 25 (va_cpy ((c 4)) ((c 25)) (k_7 * 80 + j_7) 0 n1_7))   ) 1 gX6_lock_X2_becomeLike rfl hdX2_becomeLike ⟨Nat.le_of_ble_eq_true rfl, Nat.le_of_ble_eq_true rfl⟩ hK hN hP hD hS hA 11 2 rfl rfl rfl rfl hl.1 rfl (Nat.le_of_ble_eq_true rfl) dX6_lock_58 ⟨Nat.le_of_ble_eq_true rfl, Nat.le_of_ble_eq_true rfl⟩ (fun u H locs hq hP hD hS => ?_)
      obtain rfl := hq
      have hP : va_P D vwCl (xW a cI cJ cZ (va_up (va_up (va_up (va_up (va_up (va_up (va_up (va_up (va_up v 0 (va_up (v 0) 8 (0))) 6 (va_up (va_up (v 6) 0 (nb6_30)) 1 (nd6_30))) 7 (g7_30)) 8 (g8_30)) 9 (g9_30)) 11 (va_up (va_up (v 11) 0 (nb6_30)) 1 (nd6_30))) 12 (va_cpy (g7_30) ((v 12)) 0 0 7)) 13 (va_cpy (g8_30) ((v 13)) 0 0 4)) 14 (va_cpy (g9_30) ((v 14)) 0 0 24)) (va_up c 25 (va_cpy ((c 4)) ((c 25)) (k_7 * 80 + j_7) 0 n1_7))) H := hP
      have hD : va_D A (xW a cI cJ cZ (va_up (va_up (va_up (va_up (va_up (va_up (va_up (va_up (va_up v 0 (va_up (v 0) 8 (0))) 6 (va_up (va_up (v 6) 0 (nb6_30)) 1 (nd6_30))) 7 (g7_30)) 8 (g8_30)) 9 (g9_30)) 11 (va_up (va_up (v 11) 0 (nb6_30)) 1 (nd6_30))) 12 (va_cpy (g7_30) ((v 12)) 0 0 7)) 13 (va_cpy (g8_30) ((v 13)) 0 0 4)) 14 (va_cpy (g9_30) ((v 14)) 0 0 24)) (va_up c 25 (va_cpy ((c 4)) ((c 25)) (k_7 * 80 + j_7) 0 n1_7))) := hD
      refine lv_aload_n hx hb dX6_lock_61 rfl (lv_at hl 2 rfl) ?_
      refine va_get (D := D) (ci := 6) (v := .ref (a 15)) (C := RX6) (T := TX6) (N := 9) hx hb hts hinX6 hown hK hP 0 rfl rfl 4 (by decide) (hts (.fieldLink RX6 41 "DancedLock" "troupe" "LDancedLock$Troupe;") (List.mem_of_getElem? (i := 4) rfl)) (fun _ h9 => h9) rfl dX6_lock_62 ?_
      refine lv_iconst (v := nI (0)) hx hb dX6_lock_65 (by decide) ?_
      refine va_putN (D := D) (ci := 5) (v := .int (nI (0))) (ty := .int) (C := RX5) (T := TX5) (N := 3) hx hb hts hinX5 tyX5 tyX5_ok nmX5 hown hK hP hD hS 15 rfl rfl 0 (by decide) (va_Nw.use rfl (hN (.fieldLinkNest RX6 70 "DancedLock$Troupe" "count" "I" "DancedLock") (List.mem_of_getElem? (i := 7) rfl))) (fun _ h9 => h9) rfl (by decide +kernel) rfl (rfl) (Nat.le_of_ble_eq_true rfl) dX6_lock_66 (fun H locs hP hD hS => ?_)
      have hP : va_P D vwCl (xW a cI cJ cZ (va_up (va_up (va_up (va_up (va_up (va_up (va_up (va_up (va_up (va_up v 0 (va_up (v 0) 8 (0))) 6 (va_up (va_up (v 6) 0 (nb6_30)) 1 (nd6_30))) 7 (g7_30)) 8 (g8_30)) 9 (g9_30)) 11 (va_up (va_up (v 11) 0 (nb6_30)) 1 (nd6_30))) 12 (va_cpy (g7_30) ((v 12)) 0 0 7)) 13 (va_cpy (g8_30) ((v 13)) 0 0 4)) 14 (va_cpy (g9_30) ((v 14)) 0 0 24)) 15 (va_up (v 15) 0 (0))) (va_up c 25 (va_cpy ((c 4)) ((c 25)) (k_7 * 80 + j_7) 0 n1_7))) H := hP
      have hD : va_D A (xW a cI cJ cZ (va_up (va_up (va_up (va_up (va_up (va_up (va_up (va_up (va_up (va_up v 0 (va_up (v 0) 8 (0))) 6 (va_up (va_up (v 6) 0 (nb6_30)) 1 (nd6_30))) 7 (g7_30)) 8 (g8_30)) 9 (g9_30)) 11 (va_up (va_up (v 11) 0 (nb6_30)) 1 (nd6_30))) 12 (va_cpy (g7_30) ((v 12)) 0 0 7)) 13 (va_cpy (g8_30) ((v 13)) 0 0 4)) 14 (va_cpy (g9_30) ((v 14)) 0 0 24)) 15 (va_up (v 15) 0 (0))) (va_up c 25 (va_cpy ((c 4)) ((c 25)) (k_7 * 80 + j_7) 0 n1_7))) := hD
      refine lv_aload_n hx hb dX6_lock_69 rfl (lv_at hl 2 rfl) ?_
      refine va_get (D := D) (ci := 6) (v := .ref (a 23)) (C := RX6) (T := TX6) (N := 9) hx hb hts hinX6 hown hK hP 0 rfl rfl 5 (by decide) (hts (.fieldLink RX6 45 "DancedLock" "families" "LDancedLock$Families;") (List.mem_of_getElem? (i := 5) rfl)) (fun _ h9 => h9) rfl dX6_lock_70 ?_
      refine lv_iconst (v := nI (0)) hx hb dX6_lock_73 (by decide) ?_
      refine va_putN (D := D) (ci := 1) (v := .int (nI (0))) (ty := .int) (C := RX1) (T := TX1) (N := 2) hx hb hts hinX1 tyX1 tyX1_ok nmX1 hown hK hP hD hS 23 rfl rfl 0 (by decide) (va_Nw.use rfl (hN (.fieldLinkNest RX6 76 "DancedLock$Families" "count" "I" "DancedLock") (List.mem_of_getElem? (i := 10) rfl))) (fun _ h9 => h9) rfl (by decide +kernel) rfl (rfl) (Nat.le_of_ble_eq_true rfl) dX6_lock_74 (fun H locs hP hD hS => ?_)
      have hP : va_P D vwCl (xW a cI cJ cZ (va_up (va_up (va_up (va_up (va_up (va_up (va_up (va_up (va_up (va_up (va_up v 0 (va_up (v 0) 8 (0))) 6 (va_up (va_up (v 6) 0 (nb6_30)) 1 (nd6_30))) 7 (g7_30)) 8 (g8_30)) 9 (g9_30)) 11 (va_up (va_up (v 11) 0 (nb6_30)) 1 (nd6_30))) 12 (va_cpy (g7_30) ((v 12)) 0 0 7)) 13 (va_cpy (g8_30) ((v 13)) 0 0 4)) 14 (va_cpy (g9_30) ((v 14)) 0 0 24)) 15 (va_up (v 15) 0 (0))) 23 (va_up (v 23) 0 (0))) (va_up c 25 (va_cpy ((c 4)) ((c 25)) (k_7 * 80 + j_7) 0 n1_7))) H := hP
      have hD : va_D A (xW a cI cJ cZ (va_up (va_up (va_up (va_up (va_up (va_up (va_up (va_up (va_up (va_up (va_up v 0 (va_up (v 0) 8 (0))) 6 (va_up (va_up (v 6) 0 (nb6_30)) 1 (nd6_30))) 7 (g7_30)) 8 (g8_30)) 9 (g9_30)) 11 (va_up (va_up (v 11) 0 (nb6_30)) 1 (nd6_30))) 12 (va_cpy (g7_30) ((v 12)) 0 0 7)) 13 (va_cpy (g8_30) ((v 13)) 0 0 4)) 14 (va_cpy (g9_30) ((v 14)) 0 0 24)) 15 (va_up (v 15) 0 (0))) 23 (va_up (v 23) 0 (0))) (va_up c 25 (va_cpy ((c 4)) ((c 25)) (k_7 * 80 + j_7) 0 n1_7))) := hD
      refine lv_aload_n hx hb dX6_lock_77 rfl (lv_at hl 2 rfl) ?_
      refine va_get (D := D) (ci := 6) (v := .ref (a 11)) (C := RX6) (T := TX6) (N := 9) hx hb hts hinX6 hown hK hP 0 rfl rfl 3 (by decide) (hts (.fieldLink RX6 36 "DancedLock" "floor" "LDancedLock$Floor;") (List.mem_of_getElem? (i := 3) rfl)) (fun _ h9 => h9) rfl dX6_lock_78 ?_
      refine va_getN (D := D) (ci := 2) (v := .int (nI (nd6_30))) (C := RX2) (T := TX2) (N := 5) hx hb hts hinX2 hown hK hP 11 rfl rfl 1 (by decide) (va_Nw.use rfl (hN (.fieldLinkNest RX6 77 "DancedLock$Floor" "doors" "I" "DancedLock") (List.mem_of_getElem? (i := 1) rfl))) (fun _ h9 => h9) rfl dX6_lock_81 ?_
      exact hret (nI (nd6_30)) (va_up (va_up (va_up (va_up (va_up (va_up (va_up (va_up (va_up (va_up (va_up v 0 (va_up (v 0) 8 (0))) 6 (va_up (va_up (v 6) 0 (nb6_30)) 1 (nd6_30))) 7 (g7_30)) 8 (g8_30)) 9 (g9_30)) 11 (va_up (va_up (v 11) 0 (nb6_30)) 1 (nd6_30))) 12 (va_cpy (g7_30) ((v 12)) 0 0 7)) 13 (va_cpy (g8_30) ((v 13)) 0 0 4)) 14 (va_cpy (g9_30) ((v 14)) 0 0 24)) 15 (va_up (v 15) 0 (0))) 23 (va_up (v 23) 0 (0)), va_up c 25 (va_cpy ((c 4)) ((c 25)) (k_7 * 80 + j_7) 0 n1_7)) _ _ 84 _ dX6_lock_84 rfl (by exact ⟨XI_lock hI h1_30 h2_30 h3_30 ⟨rfl, rfl⟩ rfl rfl rfl rfl rfl rfl rfl, Or.inr ⟨_, _, _, _, tky_o id h1_7 h2_7 h5_7 h6_7 rfl, rfl, _, fun e he => by rw [cpy_at he, Nat.add_assoc], Or.inr ⟨_, TKN_cpy h1_30, AGR_cpy h3_30 h2_30, rfl, rfl, rfl, rfl, rfl, rfl, rfl⟩⟩⟩) hP hD hS
