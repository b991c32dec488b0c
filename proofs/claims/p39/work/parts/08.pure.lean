/-! ===== pure rows ===== -/
theorem pow_le_128 {n : Nat} (h : n ≤ 7) : 2 ^ n ≤ 128 := Nat.pow_le_pow_right (by decide) h
theorem pow_le_64 {n : Nat} (h : n ≤ 6) : 2 ^ n ≤ 64 := Nat.pow_le_pow_right (by decide) h
theorem pow_le_m18 {d : Nat} (h : d ≤ 3) : 2 ^ (d * 6) ≤ 262144 := Nat.pow_le_pow_right (n := 2) (by decide) (show d * 6 ≤ 18 by omega)
theorem bars_lt {n d : Nat} (h : n ≤ 6) (hd : d ≤ 3) : (2 ^ n - 1) * 2 ^ (d * 6) < 16777216 := by
  have h1 := pow_le_64 h
  have h2 := pow_le_m18 hd
  have h3 : (2 ^ n - 1) * 2 ^ (d * 6) ≤ 63 * 262144 := Nat.mul_le_mul (by omega) h2
  omega
theorem and1_lt (x : Nat) : x &&& 1 < 2147483648 := Nat.lt_of_le_of_lt Nat.and_le_right (by decide)
theorem and1_mod (x : Nat) : x &&& 1 = x % 2 := Nat.and_one_is_mod x
/-- a set without another -/
theorem i_andn (X K : Int32) : X &&& (K ^^^ -1) = X - (X &&& K) := by
  apply Int32.toBitVec_inj.1
  show X.toBitVec &&& (K.toBitVec ^^^ BitVec.allOnes 32) = X.toBitVec - (X.toBitVec &&& K.toBitVec)
  generalize X.toBitVec = x
  generalize K.toBitVec = k
  have h0 : (x &&& k) &&& (x &&& (k ^^^ BitVec.allOnes 32)) = 0#32 := by
    apply BitVec.eq_of_getLsbD_eq
    intro i hi
    simp only [BitVec.getLsbD_and, BitVec.getLsbD_xor, BitVec.getLsbD_allOnes, BitVec.getLsbD_zero, hi, decide_true]
    cases x.getLsbD i <;> cases k.getLsbD i <;> rfl
  have h : (x &&& k) + (x &&& (k ^^^ BitVec.allOnes 32)) = x := by
    rw [BitVec.add_eq_or_of_and_eq_zero _ _ h0]
    apply BitVec.eq_of_getLsbD_eq
    intro i hi
    simp only [BitVec.getLsbD_and, BitVec.getLsbD_or, BitVec.getLsbD_xor, BitVec.getLsbD_allOnes, hi, decide_true]
    cases x.getLsbD i <;> cases k.getLsbD i <;> rfl
  generalize hb : x &&& (k ^^^ BitVec.allOnes 32) = b at h ⊢
  rw [BitVec.add_comm] at h
  have h2 := BitVec.add_sub_cancel b (x &&& k)
  rw [h] at h2
  exact h2.symm
theorem n_andn {x k : Nat} : nI x &&& (nI k ^^^ -1) = nI (x - (x &&& k)) := by
  rw [i_andn, nx_and, pk_sub Nat.and_le_left]
/-- how many bits -/
def pcf : Nat → Nat → Nat
  | 0, _ => 0
  | n + 1, x => x % 2 + pcf n (x / 2)
def pc (x : Nat) : Nat := pcf 24 x
/-- the bit trick -/
def bct (x0 : Int32) : Int32 :=
  let x1 := x0 - ((x0.toUInt32 >>> ((nI 1).toUInt32 &&& Int32.toUInt32 31)).toInt32 &&& 1431655765)
  let x2 := (x1 &&& 858993459) + ((x1.toUInt32 >>> ((nI 2).toUInt32 &&& Int32.toUInt32 31)).toInt32 &&& 858993459)
  let x3 := (x2 + (x2.toUInt32 >>> ((nI 4).toUInt32 &&& Int32.toUInt32 31)).toInt32) &&& 252645135
  let x4 := x3 + (x3.toUInt32 >>> ((nI 8).toUInt32 &&& Int32.toUInt32 31)).toInt32
  let x5 := x4 + (x4.toUInt32 >>> ((nI 16).toUInt32 &&& Int32.toUInt32 31)).toInt32
  x5 &&& nI 63
theorem bct_small : ∀ x, x < 128 → bct (nI x) = nI (pc x) := by decide +kernel
theorem bct_win : ∀ d, d < 4 → ∀ x, x < 64 → bct (nI (x * 2 ^ (d * 6))) = nI (pc (x * 2 ^ (d * 6))) := by decide +kernel
theorem pcf_le (n : Nat) : ∀ x, pcf n x ≤ n := by
  induction n with
  | zero => intro x; exact Nat.le_refl _
  | succ n ih => intro x; have h1 := ih (x / 2); have h2 : x % 2 < 2 := Nat.mod_lt _ (by decide); show x % 2 + pcf n (x / 2) ≤ n + 1; omega
theorem pc_le (x : Nat) : pc x ≤ 24 := pcf_le 24 x
/-- a row filled from a place to a place -/
def flf {α : Type} (f : Nat → α) (i j : Nat) (x : α) : Nat → α := fun q => if i ≤ q ∧ q < j then x else f q
theorem flf_0 {α : Type} (f : Nat → α) (i : Nat) (x : α) : flf f i i x = f := by
  funext q
  have : ¬ (i ≤ q ∧ q < i) := by omega
  simp only [flf, if_neg this]
theorem flf_s {α : Type} (f : Nat → α) {i j : Nat} (h : i ≤ j) (x : α) : va_up (flf f i j x) j x = flf f i (j + 1) x := by
  funext q
  by_cases hq : q = j
  · subst hq
    have h1 : i ≤ q ∧ q < q + 1 := by omega
    simp only [va_up, flf, if_pos h1, if_true]
  · by_cases h1 : i ≤ q ∧ q < j
    · have h2 : i ≤ q ∧ q < j + 1 := by omega
      simp only [va_up, flf, if_pos h1, if_pos h2, if_neg hq]
    · have h2 : ¬ (i ≤ q ∧ q < j + 1) := by omega
      simp only [va_up, flf, if_neg h1, if_neg h2, if_neg hq]
/-- what a set of families knows together -/
def kn (f : Nat → Nat) (z : Nat) : Nat → Nat
  | 0 => 0
  | n + 1 => kn f z n ||| (if z / 2 ^ n % 2 = 1 then f n else 0)
theorem kn_y {f : Nat → Nat} {z n : Nat} (h : z / 2 ^ n % 2 = 1) : kn f z (n + 1) = kn f z n ||| f n := by show _ ||| _ = _; rw [if_pos h]
theorem kn_n {f : Nat → Nat} {z n : Nat} (h : ¬ z / 2 ^ n % 2 = 1) : kn f z (n + 1) = kn f z n := by show _ ||| _ = _; rw [if_neg h, Nat.or_zero]
/-- how many do not know a bar -/
def ig (f : Nat → Nat) (b : Nat) : Nat → Nat
  | 0 => 0
  | n + 1 => ig f b n + (if f n / 2 ^ b % 2 = 0 then 1 else 0)
theorem ig_le (f : Nat → Nat) (b n : Nat) : ig f b n ≤ n := by
  induction n with
  | zero => exact Nat.le_refl _
  | succ n ih => show ig f b n + _ ≤ _; split <;> omega
def mst (f : Nat → Nat) (nf z : Nat) : Nat → Nat
  | 0 => 0
  | b + 1 => if z / 2 ^ b % 2 = 1 then max (mst f nf z b) (ig f b nf) else mst f nf z b
theorem mst_le (f : Nat → Nat) (nf z b : Nat) : mst f nf z b ≤ nf := by
  induction b with
  | zero => exact Nat.zero_le _
  | succ b ih =>
    show (if _ then _ else _) ≤ nf
    split
    · exact Nat.max_le.mpr ⟨ih, ig_le _ _ _⟩
    · exact ih
/-- the fewest families: how many (7: none yet), which -/
def fw (f : Nat → Nat) (nf z : Nat) : Nat → Nat × Nat
  | 0 => (7, 0)
  | n + 1 => if z &&& kn f n nf = z ∧ pc n < (fw f nf z n).1 then (pc n, n) else fw f nf z n
def fwr (q : Nat × Nat) : Int32 := if q.1 = 7 then -9 else nI q.2
/-- the most that any family lacks -/
def lrn (f : Nat → Nat) (s : Nat) : Nat → Nat
  | 0 => 0
  | n + 1 => max (lrn f s n) (pc (s - (s &&& f n)))
theorem lrn_le (f : Nat → Nat) (s n : Nat) : lrn f s n ≤ 24 := by
  induction n with
  | zero => exact Nat.zero_le _
  | succ n ih => have := pc_le (s - (s &&& f n)); show max _ _ ≤ 24; omega
theorem kn_lt {f : Nat → Nat} {z : Nat} (k : Nat) : ∀ n, (∀ j, j < n → f j < 2 ^ k) → kn f z n < 2 ^ k := by
  intro n
  induction n with
  | zero => intro _; exact Nat.two_pow_pos k
  | succ n ih =>
    intro h
    refine Nat.or_lt_two_pow (ih (fun j hj => h j (by omega))) ?_
    split
    · exact h n (by omega)
    · exact Nat.two_pow_pos k
theorem or_lt31 {a b : Nat} (ha : a < 2 ^ 24) (hb : b < 2 ^ 24) : a ||| b < 2 ^ 24 := Nat.or_lt_two_pow ha hb
/-- six bits of a door -/
def win (d x : Nat) : Prop := ∃ w, w < 64 ∧ x = w * 2 ^ (d * 6)
theorem win_and {d x z : Nat} (h : win d z) : win d (x &&& z) := by
  obtain ⟨w, hw, rfl⟩ := h
  refine ⟨(x / 2 ^ (d * 6)) &&& w, Nat.lt_of_le_of_lt Nat.and_le_right hw, ?_⟩
  apply Nat.eq_of_testBit_eq; intro i
  rw [Nat.testBit_and, Nat.testBit_mul_two_pow, Nat.testBit_mul_two_pow, Nat.testBit_and, Nat.testBit_div_two_pow]
  by_cases hi : d * 6 ≤ i
  · rw [show i - d * 6 + d * 6 = i by omega]
    cases x.testBit i <;> simp [hi]
  · simp [hi]
theorem win_sub {d x y : Nat} (hx : win d x) (hy : win d y) : win d (x - y) := by
  obtain ⟨w, hw, rfl⟩ := hx
  obtain ⟨u, hu, rfl⟩ := hy
  exact ⟨w - u, by omega, (Nat.sub_mul _ _ _).symm⟩
theorem win_lt {d x : Nat} (h : win d x) (hd : d < 4) : x < 16777216 := by
  obtain ⟨w, hw, rfl⟩ := h
  have h2 := pow_le_m18 (show d ≤ 3 by omega)
  have h3 : w * 2 ^ (d * 6) ≤ 63 * 262144 := Nat.mul_le_mul (by omega) h2
  omega
theorem win_bct {d x : Nat} (h : win d x) (hd : d < 4) : bct (nI x) = nI (pc x) := by
  obtain ⟨w, hw, rfl⟩ := h
  exact bct_win d hd w hw
theorem win_lack {d x k : Nat} (h : win d x) : win d (x - (x &&& k)) := win_sub h (by rw [Nat.and_comm]; exact win_and h)
theorem win_bars {n d : Nat} (h : n ≤ 6) : win d ((2 ^ n - 1) * 2 ^ (d * 6)) := ⟨2 ^ n - 1, by have := pow_le_64 h; have := Nat.two_pow_pos n; omega, rfl⟩
theorem pc64 : ∀ x, x < 64 → pc x ≤ 6 := by decide +kernel
/-- what always holds of the class's numbers -/
def XI (v : Nat → Nat → Nat) : Prop := v 11 0 ≤ 7 ∧ v 11 1 ≤ 4 ∧ (∀ d, d < v 11 1 → 1 ≤ v 13 d ∧ v 13 d ≤ 6) ∧ (∀ d k, d < v 11 1 → k < v 13 d → v 14 (d * 6 + k) < 2 ^ v 11 0) ∧ (∀ b, b < v 11 0 → 1 ≤ v 12 b ∧ v 12 b ≤ 9) ∧ v 15 0 ≤ 4 ∧ (∀ d, d < v 15 0 → v 16 d ≤ 2 ∧ 1 ≤ v 17 d ∧ v 17 d ≤ 9) ∧ v 23 0 ≤ 6 ∧ (∀ f, f < v 23 0 → v 24 f < 16777216) ∧ (∀ k, k < 4 → v 3 k ≤ 80) ∧ (v 11 1 = 0 ∨ 2 ≤ v 11 0) ∧ (v 15 0 = 0 ∨ 0 < v 11 1) ∧ (∀ q, q < 24 → v 18 q < 8)
def cutf (x s : Int32) : Int32 := if s = 0 then x.toInt8.toInt32 else if s = 1 then x.toInt16.toInt32 else x
