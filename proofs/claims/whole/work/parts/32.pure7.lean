/-! ===== any of so many, sheets copied: pure rows of the model ===== -/
theorem sm_left (g : Nat → Nat) : ∀ n, sm g (n + 1) = g 0 + sm (fun i => g (i + 1)) n := by
  intro n
  induction n with
  | zero => show 0 + g 0 = g 0 + 0; omega
  | succ n ih => rw [sm_s, ih, sm_s]; omega
theorem sm_more {g : Nat → Nat} {n : Nat} (h : ∀ i, n ≤ i → g i = 0) : ∀ m, sm g (n + m) = sm g n := by
  intro m
  induction m with
  | zero => rfl
  | succ m ih => rw [← Nat.add_assoc, sm_s, ih, h (n + m) (by omega), Nat.add_zero]
theorem pcf_sm : ∀ m x, pcf m x = sm (fun i => x / 2 ^ i % 2) m := by
  intro m
  induction m with
  | zero => intro x; rfl
  | succ m ih =>
    intro x
    rw [sm_left]
    show x % 2 + pcf m (x / 2) = x / 2 ^ 0 % 2 + _
    rw [ih (x / 2), Nat.pow_zero, Nat.div_one]
    congr 1
    refine sm_congr (fun i _ => ?_)
    show x / 2 / 2 ^ i % 2 = x / 2 ^ (i + 1) % 2
    rw [Nat.div_div_eq_div_mul, Nat.pow_succ, Nat.mul_comm 2]
theorem pc_sm {x n : Nat} (hn : n ≤ 24) (hx : x < 2 ^ n) : pc x = sm (fun i => x / 2 ^ i % 2) n := by
  show pcf 24 x = _
  rw [pcf_sm]
  have := sm_more (g := fun i => x / 2 ^ i % 2) (n := n) (fun i hi => by
    show x / 2 ^ i % 2 = 0
    rw [Nat.div_eq_of_lt (Nat.lt_of_lt_of_le hx (Nat.pow_le_pow_right (by decide) hi))]) (24 - n)
  rw [show n + (24 - n) = 24 by omega] at this
  exact this
theorem ig_sm {f : Nat → Nat} {b : Nat} : ∀ n, ig f b n = sm (fun i => if f i / 2 ^ b % 2 = 0 then 1 else 0) n := by
  intro n
  induction n with
  | zero => rfl
  | succ n ih => show ig f b n + _ = sm _ n + _; rw [ih]
theorem bit_iff {x b : Nat} : x.testBit b = true ↔ x / 2 ^ b % 2 = 1 := by
  rw [Nat.testBit_eq_decide_div_mod_eq]; exact decide_eq_true_iff
theorem kn_bit {f : Nat → Nat} {z b : Nat} : ∀ n, (kn f z n / 2 ^ b % 2 = 1 ↔ ∃ i, i < n ∧ z / 2 ^ i % 2 = 1 ∧ f i / 2 ^ b % 2 = 1) := by
  intro n
  induction n with
  | zero =>
    constructor
    · intro h
      exfalso
      have h : 0 / 2 ^ b % 2 = 1 := h
      rw [Nat.zero_div] at h
      omega
    · rintro ⟨i, hi, -⟩; exact absurd hi (Nat.not_lt_zero _)
  | succ n ih =>
    by_cases hz : z / 2 ^ n % 2 = 1
    · rw [kn_y hz, ← bit_iff, Nat.testBit_or, Bool.or_eq_true, bit_iff, bit_iff, ih]
      constructor
      · rintro (⟨i, h1, h2, h3⟩ | h)
        · exact ⟨i, by omega, h2, h3⟩
        · exact ⟨n, by omega, hz, h⟩
      · rintro ⟨i, h1, h2, h3⟩
        by_cases e : i = n
        · subst e; exact Or.inr h3
        · exact Or.inl ⟨i, by omega, h2, h3⟩
    · rw [kn_n hz, ih]
      constructor
      · rintro ⟨i, h1, h2, h3⟩; exact ⟨i, by omega, h2, h3⟩
      · rintro ⟨i, h1, h2, h3⟩
        by_cases e : i = n
        · subst e; exact absurd h2 hz
        · exact ⟨i, by omega, h2, h3⟩
theorem sub_bit {k z : Nat} : k &&& z = z ↔ ∀ b, z / 2 ^ b % 2 = 1 → k / 2 ^ b % 2 = 1 := by
  constructor
  · intro h b hb
    rw [← bit_iff] at hb ⊢
    rw [← h, Nat.testBit_and, Bool.and_eq_true] at hb
    exact hb.1
  · intro h
    apply Nat.eq_of_testBit_eq; intro b
    rw [Nat.testBit_and]
    cases hz : z.testBit b with
    | false => exact Bool.and_false _
    | true => rw [bit_iff.mpr (h b (bit_iff.mp hz)), Bool.and_true]
theorem bit_lt {z b n : Nat} (hz : z < 2 ^ n) (hb : z / 2 ^ b % 2 = 1) : b < n := by
  refine Classical.byContradiction (fun h => ?_)
  rw [Nat.div_eq_of_lt (Nat.lt_of_lt_of_le hz (Nat.pow_le_pow_right (by decide) (by omega)))] at hb
  omega
theorem mst_ge {f : Nat → Nat} {nf z : Nat} : ∀ n b, b < n → z / 2 ^ b % 2 = 1 → ig f b nf ≤ mst f nf z n := by
  intro n
  induction n with
  | zero => intro b hb; exact absurd hb (Nat.not_lt_zero _)
  | succ n ih =>
    intro b hb hz
    show _ ≤ (if _ then _ else _)
    by_cases e : b = n
    · subst e; rw [if_pos hz]; exact Nat.le_max_right _ _
    · have h1 := ih b (by omega) hz
      split
      · exact Nat.le_trans h1 (Nat.le_max_left _ _)
      · exact h1
theorem mst_y {f : Nat → Nat} {nf z n : Nat} (h : z / 2 ^ n % 2 = 1) : mst f nf z (n + 1) = max (mst f nf z n) (ig f n nf) := if_pos h
theorem mst_n {f : Nat → Nat} {nf z n : Nat} (h : ¬ z / 2 ^ n % 2 = 1) : mst f nf z (n + 1) = mst f nf z n := if_neg h
theorem mst_at {f : Nat → Nat} {nf z : Nat} : ∀ n, mst f nf z n = 0 ∨ ∃ b, b < n ∧ z / 2 ^ b % 2 = 1 ∧ mst f nf z n = ig f b nf := by
  intro n
  induction n with
  | zero => exact Or.inl rfl
  | succ n ih =>
    by_cases hz : z / 2 ^ n % 2 = 1
    · rw [mst_y hz]
      rcases Nat.le_total (ig f n nf) (mst f nf z n) with h | h
      · rw [Nat.max_eq_left h]
        rcases ih with h1 | ⟨b, h1, h2, h3⟩
        · exact Or.inl h1
        · exact Or.inr ⟨b, by omega, h2, h3⟩
      · rw [Nat.max_eq_right h]; exact Or.inr ⟨n, by omega, hz, rfl⟩
    · rw [mst_n hz]
      rcases ih with h1 | ⟨b, h1, h2, h3⟩
      · exact Or.inl h1
      · exact Or.inr ⟨b, by omega, h2, h3⟩
/-- the families who do not know a bar, as a set -/
def isn (f : Nat → Nat) (b : Nat) : Nat → Nat
  | 0 => 0
  | n + 1 => isn f b n + (if f n / 2 ^ b % 2 = 0 then 2 ^ n else 0)
theorem isn_lt {f : Nat → Nat} {b : Nat} : ∀ n, isn f b n < 2 ^ n := by
  intro n
  induction n with
  | zero => exact Nat.one_pos
  | succ n ih => show isn f b n + _ < _; rw [Nat.pow_succ]; split <;> omega
theorem top_bit {x n i : Nat} (hx : x < 2 ^ n) : (x + 2 ^ n) / 2 ^ i % 2 = if i = n then 1 else x / 2 ^ i % 2 := by
  by_cases h : i = n
  · subst h
    rw [if_pos rfl, Nat.add_div_right _ (Nat.two_pow_pos _), Nat.div_eq_of_lt hx]
  · rw [if_neg h]
    rcases Nat.lt_or_ge i n with h1 | h1
    · obtain ⟨m, rfl⟩ : ∃ m, n = i + 1 + m := ⟨n - i - 1, by omega⟩
      rw [show 2 ^ (i + 1 + m) = 2 ^ i * (2 * 2 ^ m) by rw [Nat.pow_add, Nat.pow_succ, Nat.mul_assoc], Nat.add_mul_div_left _ _ (Nat.two_pow_pos _)]
      omega
    · have h2 : (2 : Nat) ^ n * 2 ≤ 2 ^ i := by rw [← Nat.pow_succ]; exact Nat.pow_le_pow_right (by decide) (by omega)
      rw [Nat.div_eq_of_lt (by omega), Nat.div_eq_of_lt (by omega)]
theorem isn_bit {f : Nat → Nat} {b : Nat} : ∀ n i, i < n → isn f b n / 2 ^ i % 2 = if f i / 2 ^ b % 2 = 0 then 1 else 0 := by
  intro n
  induction n with
  | zero => intro i hi; exact absurd hi (Nat.not_lt_zero _)
  | succ n ih =>
    intro i hi
    show (isn f b n + _) / 2 ^ i % 2 = _
    by_cases h : f n / 2 ^ b % 2 = 0
    · rw [if_pos h, top_bit (isn_lt n)]
      by_cases e : i = n
      · subst e; rw [if_pos rfl, if_pos h]
      · rw [if_neg e]; exact ih i (by omega)
    · rw [if_neg h, Nat.add_zero]
      by_cases e : i = n
      · subst e; rw [if_neg h, Nat.div_eq_of_lt (isn_lt _)]
      · exact ih i (by omega)
/-- the model's search -/
def am (f : Nat → Nat) (nf z : Nat) : Nat → Nat
  | 0 => 0
  | n + 1 => @ite Nat (¬ kn f n nf &&& z = z ∧ am f nf z n ≤ pc n) inferInstance (pc n + 1) (am f nf z n)
theorem am_y {f : Nat → Nat} {nf z n : Nat} (h : ¬ kn f n nf &&& z = z) (h2 : am f nf z n ≤ pc n) : am f nf z (n + 1) = pc n + 1 := if_pos ⟨h, h2⟩
theorem am_n {f : Nat → Nat} {nf z n : Nat} (h : ¬ (¬ kn f n nf &&& z = z ∧ am f nf z n ≤ pc n)) : am f nf z (n + 1) = am f nf z n := if_neg h
theorem am_le {f : Nat → Nat} {nf z : Nat} : ∀ n, am f nf z n ≤ 25 := by
  intro n
  induction n with
  | zero => exact Nat.zero_le _
  | succ n ih =>
    have h1 := pc_le n
    by_cases h2 : ¬ kn f n nf &&& z = z ∧ am f nf z n ≤ pc n
    · rw [am_y h2.1 h2.2]; omega
    · rw [am_n h2]; exact ih
theorem am_ge {f : Nat → Nat} {nf z : Nat} : ∀ n q, q < n → ¬ kn f q nf &&& z = z → pc q + 1 ≤ am f nf z n := by
  intro n
  induction n with
  | zero => intro q hq; exact absurd hq (Nat.not_lt_zero _)
  | succ n ih =>
    intro q hq h
    by_cases e : q = n
    · subst e
      by_cases h2 : am f nf z q ≤ pc q
      · rw [am_y h h2]; omega
      · rw [am_n (fun y => h2 y.2)]; omega
    · have h1 := ih q (by omega) h
      by_cases h2 : ¬ kn f n nf &&& z = z ∧ am f nf z n ≤ pc n
      · rw [am_y h2.1 h2.2]; omega
      · rw [am_n h2]; exact h1
theorem am_at {f : Nat → Nat} {nf z : Nat} : ∀ n, am f nf z n = 0 ∨ ∃ q, q < n ∧ ¬ kn f q nf &&& z = z ∧ am f nf z n = pc q + 1 := by
  intro n
  induction n with
  | zero => exact Or.inl rfl
  | succ n ih =>
    by_cases h2 : ¬ kn f n nf &&& z = z ∧ am f nf z n ≤ pc n
    · rw [am_y h2.1 h2.2]; exact Or.inr ⟨n, by omega, h2.1, rfl⟩
    · rw [am_n h2]
      rcases ih with h1 | ⟨q, h1, h3, h4⟩
      · exact Or.inl h1
      · exact Or.inr ⟨q, by omega, h3, h4⟩
theorem am_eq {f : Nat → Nat} {nf z : Nat} (hnf : nf ≤ 6) (hz : z < 16777216) (h0 : z ≠ 0) : am f nf z (2 ^ nf) = mst f nf z 24 + 1 := by
  have hz : z < 2 ^ 24 := hz
  apply Nat.le_antisymm
  · rcases am_at (f := f) (nf := nf) (z := z) (2 ^ nf) with h | ⟨q, h1, h2, h3⟩
    · omega
    · rw [h3]
      have : pc q ≤ mst f nf z 24 := by
        have hb : ∃ b, z / 2 ^ b % 2 = 1 ∧ ¬ kn f q nf / 2 ^ b % 2 = 1 := by
          refine Classical.byContradiction (fun y => h2 (sub_bit.mpr (fun b hb => ?_)))
          exact Classical.byContradiction (fun y2 => y ⟨b, hb, y2⟩)
        obtain ⟨b, hb1, hb2⟩ := hb
        refine Nat.le_trans ?_ (mst_ge 24 b (bit_lt hz hb1) hb1)
        rw [pc_sm (by omega) h1, ig_sm]
        refine sm_mono (fun i hi => ?_)
        by_cases h4 : q / 2 ^ i % 2 = 1
        · have h5 : ¬ f i / 2 ^ b % 2 = 1 := fun y => hb2 ((kn_bit nf).mpr ⟨i, hi, h4, y⟩)
          rw [if_pos (by omega)]; omega
        · omega
      omega
  · have hex : ∃ b, b < 24 ∧ z / 2 ^ b % 2 = 1 ∧ mst f nf z 24 = ig f b nf := by
      have hb0 : ∃ b, z / 2 ^ b % 2 = 1 := by
        refine Classical.byContradiction (fun y => h0 ?_)
        apply Nat.eq_of_testBit_eq; intro b
        rw [Nat.zero_testBit]
        cases h : z.testBit b with
        | false => rfl
        | true => exact absurd ⟨b, bit_iff.mp h⟩ y
      rcases mst_at (f := f) (nf := nf) (z := z) 24 with h | h
      · obtain ⟨b, hb⟩ := hb0
        have h1 := mst_ge (f := f) (nf := nf) 24 b (bit_lt hz hb) hb
        exact ⟨b, bit_lt hz hb, hb, by omega⟩
      · exact h
    obtain ⟨b, hb1, hb2, hb3⟩ := hex
    have h1 := isn_lt (f := f) (b := b) nf
    have h2 : ¬ kn f (isn f b nf) nf &&& z = z := by
      intro y
      obtain ⟨i, hi, h3, h4⟩ := (kn_bit nf).mp (sub_bit.mp y b hb2)
      rw [isn_bit nf i hi] at h3
      split at h3 <;> omega
    have h3 := am_ge (f := f) (nf := nf) (z := z) (2 ^ nf) _ h1 h2
    have h4 : pc (isn f b nf) = ig f b nf := by
      rw [pc_sm (by omega) h1, ig_sm]
      exact sm_congr (fun i hi => isn_bit nf i hi)
    omega
/-- cells gone over from the last on -/
def cpd (f : Nat → Int32) (sp dp n q : Nat) : Nat → Int32 := fun k => if dp + (n - q) ≤ k ∧ k < dp + n then f (sp + (k - dp)) else f k
def cpb (w : Nat) (f : Nat → Int32) (sp dp n q : Nat) : Nat → Int32 := if w = 1 then cpd f sp dp n q else va_cpy f f sp dp q
theorem cpb_0 {w : Nat} {f : Nat → Int32} {sp dp n : Nat} : f = cpb w f sp dp n 0 := by
  funext k
  unfold cpb
  split
  · unfold cpd; rw [if_neg (by omega)]
  · unfold va_cpy; rw [if_neg (by omega)]
theorem cpb_all {w : Nat} {f : Nat → Int32} {sp dp n : Nat} : cpb w f sp dp n n = va_cpy f f sp dp n := by
  unfold cpb
  split
  · funext k; unfold cpd va_cpy; rw [Nat.sub_self, Nat.add_zero]
  · rfl
theorem cpb_s1 {f : Nat → Int32} {sp dp n q : Nat} (hq : q < n) (h : dp + (n - q) ≤ sp + (n - 1 - q) → dp + n ≤ sp + (n - 1 - q)) : va_up (cpb 1 f sp dp n q) (dp + (n - 1 - q)) (cpb 1 f sp dp n q (sp + (n - 1 - q))) = cpb 1 f sp dp n (q + 1) := by
  show va_up (cpd f sp dp n q) _ (cpd f sp dp n q _) = cpd f sp dp n (q + 1)
  have h1 : cpd f sp dp n q (sp + (n - 1 - q)) = f (sp + (n - 1 - q)) := by unfold cpd; rw [if_neg (by omega)]
  rw [h1]
  funext k
  unfold va_up cpd
  by_cases e : k = dp + (n - 1 - q)
  · subst e; rw [if_pos rfl, if_pos (by omega)]; congr 1; omega
  · rw [if_neg e]
    by_cases h2 : dp + (n - q) ≤ k ∧ k < dp + n
    · rw [if_pos h2, if_pos (by omega)]
    · rw [if_neg h2, if_neg (by omega)]
theorem cpb_s0 {f : Nat → Int32} {sp dp n q : Nat} (h : dp ≤ sp + q → dp + q ≤ sp + q) : va_up (cpb 0 f sp dp n q) (dp + q) (cpb 0 f sp dp n q (sp + q)) = cpb 0 f sp dp n (q + 1) := by
  show va_up (va_cpy f f sp dp q) _ (va_cpy f f sp dp q _) = va_cpy f f sp dp (q + 1)
  have h1 : va_cpy f f sp dp q (sp + q) = f (sp + q) := by unfold va_cpy; rw [if_neg (by omega)]
  rw [h1]
  funext k
  unfold va_up va_cpy
  by_cases e : k = dp + q
  · subst e; rw [if_pos rfl, if_pos (by omega)]; congr 1; omega
  · rw [if_neg e]
    by_cases h2 : dp ≤ k ∧ k < dp + q
    · rw [if_pos h2, if_pos (by omega)]
    · rw [if_neg h2, if_neg (by omega)]
