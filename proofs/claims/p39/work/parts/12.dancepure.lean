/-! ===== dances: sums, what is felt ===== -/
def sm (g : Nat → Nat) : Nat → Nat
  | 0 => 0
  | n + 1 => sm g n + g n
theorem sm_s (g : Nat → Nat) (n : Nat) : sm g (n + 1) = sm g n + g n := rfl
theorem sm_congr {f g : Nat → Nat} {n : Nat} (h : ∀ d, d < n → f d = g d) : sm f n = sm g n := by
  induction n with
  | zero => rfl
  | succ n ih => rw [sm_s, sm_s, ih (fun d hd => h d (by omega)), h n (by omega)]
theorem sm_le {f : Nat → Nat} {c n : Nat} (h : ∀ d, d < n → f d ≤ c) : sm f n ≤ c * n := by
  induction n with
  | zero => exact Nat.zero_le _
  | succ n ih => rw [sm_s, Nat.mul_succ]; have := ih (fun d hd => h d (by omega)); have := h n (by omega); omega
theorem sm_mono {f g : Nat → Nat} {n : Nat} (h : ∀ d, d < n → f d ≤ g d) : sm f n ≤ sm g n := by
  induction n with
  | zero => exact Nat.le_refl _
  | succ n ih => rw [sm_s, sm_s]; have := ih (fun d hd => h d (by omega)); have := h n (by omega); omega
theorem sm_zero {f : Nat → Nat} {n : Nat} (h : ∀ d, d < n → f d = 0) : sm f n = 0 := by
  have := sm_le (c := 0) (fun d hd => Nat.le_of_eq (h d hd)); omega
theorem sm_add (f g : Nat → Nat) (n : Nat) : sm (fun d => f d + g d) n = sm f n + sm g n := by
  induction n with
  | zero => rfl
  | succ n ih => rw [sm_s, sm_s, sm_s, ih]; omega
/-- where a dancer treads in a beat -/
def tr (li st : Nat → Nat) (k d : Nat) : Nat := if k % 2 = 1 ∧ li d ≠ 0 then st ((k - 1) * 4 + d) else st (k * 4 + d)
/-- what a dancer lays upon a board, where those below kn, and who are bound, are known -/
def ldt (p li st : Nat → Nat) (k kn b d : Nat) : Nat := if ((k % 2 = 1 ∧ li d ≠ 0) ∨ d < kn) ∧ tr li st k d = b then p d else 0
def LD (p li st : Nat → Nat) (k kn nc b : Nat) : Nat := sm (ldt p li st k kn b) nc
theorem ldt_b {p li st : Nat → Nat} {k kn b d : Nat} (h : k % 2 = 1) (h2 : li d ≠ 0) : ldt p li st k kn b d = if st ((k - 1) * 4 + d) = b then p d else 0 := by
  unfold ldt tr
  rw [if_pos (show k % 2 = 1 ∧ li d ≠ 0 from ⟨h, h2⟩)]
  by_cases e : st ((k - 1) * 4 + d) = b
  · rw [if_pos ⟨Or.inl ⟨h, h2⟩, e⟩, if_pos e]
  · rw [if_neg (fun z => e z.2), if_neg e]
theorem ldt_f {p li st : Nat → Nat} {k kn b d : Nat} (h : ¬ (k % 2 = 1 ∧ li d ≠ 0)) (h2 : d < kn) : ldt p li st k kn b d = if st (k * 4 + d) = b then p d else 0 := by
  unfold ldt tr
  rw [if_neg h]
  by_cases e : st (k * 4 + d) = b
  · rw [if_pos ⟨Or.inr h2, e⟩, if_pos e]
  · rw [if_neg (fun z => e z.2), if_neg e]
theorem ldt_n {p li st : Nat → Nat} {k kn b d : Nat} (h : ¬ (k % 2 = 1 ∧ li d ≠ 0)) (h2 : kn ≤ d) : ldt p li st k kn b d = 0 := by
  unfold ldt
  rw [if_neg]
  rintro ⟨h3 | h3, -⟩
  · exact h h3
  · omega
theorem up_add (g : Nat → Nat) (t x b : Nat) : va_up g t (g t + x) b = g b + if t = b then x else 0 := by
  by_cases h : b = t
  · subst h; simp [va_up]
  · rw [if_neg (fun e => h e.symm)]; simp [va_up, h]
theorem LD_le {p li st : Nat → Nat} {k kn nc b : Nat} (hp : ∀ d, d < nc → p d ≤ 9) : LD p li st k kn nc b ≤ 9 * nc :=
  sm_le (fun d hd => by unfold ldt; split; exact hp d hd; exact Nat.zero_le _)
/-- the boards felt, as a set -/
def fe (L need : Nat → Nat) : Nat → Nat
  | 0 => 0
  | b + 1 => fe L need b ||| (if need b ≤ L b then 2 ^ b else 0)
theorem fe_y {L need : Nat → Nat} {b : Nat} (h : need b ≤ L b) : fe L need (b + 1) = fe L need b ||| 2 ^ b := by show _ ||| _ = _; rw [if_pos h]
theorem fe_n {L need : Nat → Nat} {b : Nat} (h : L b < need b) : fe L need (b + 1) = fe L need b := by show _ ||| _ = _; rw [if_neg (by omega), Nat.or_zero]
theorem fe_lt (L need : Nat → Nat) : ∀ n, fe L need n < 2 ^ n := by
  intro n
  induction n with
  | zero => exact Nat.one_pos
  | succ n ih =>
    have h1 : (2 : Nat) ^ n < 2 ^ (n + 1) := Nat.pow_lt_pow_right (by decide) (by omega)
    refine Nat.or_lt_two_pow (Nat.lt_trans ih h1) ?_
    split
    · exact h1
    · exact Nat.two_pow_pos _
theorem fe_congr {L L' need need' : Nat → Nat} : ∀ n, (∀ b, b < n → L b = L' b ∧ need b = need' b) → fe L need n = fe L' need' n := by
  intro n
  induction n with
  | zero => intro _; rfl
  | succ n ih =>
    intro h
    have h1 := h n (by omega)
    show _ ||| _ = _ ||| _
    rw [ih (fun b hb => h b (by omega)), h1.1, h1.2]
theorem fe_bit (L need : Nat → Nat) : ∀ n b, (fe L need n).testBit b = (decide (b < n) && decide (need b ≤ L b)) := by
  intro n
  induction n with
  | zero => intro b; simp [fe]
  | succ n ih =>
    intro b
    show (fe L need n ||| _).testBit b = _
    rw [Nat.testBit_or, ih]
    by_cases hbn : b = n
    · subst hbn
      by_cases h : need b ≤ L b
      · simp [h, Nat.testBit_two_pow_self]
      · simp [h]
    · have hne : (if need n ≤ L n then 2 ^ n else 0).testBit b = false := by
        split
        · exact Nat.testBit_two_pow_of_ne (fun e => hbn e.symm)
        · exact Nat.zero_testBit _
      rw [hne, Bool.or_false]
      have : decide (b < n) = decide (b < n + 1) := by simp only [decide_eq_decide]; omega
      rw [this]
/-- dancers as they are: who limps, what it weighs -/
def lA (kd : Nat → Nat) (d : Nat) : Nat := if 1 ≤ kd d then 1 else 0
def pA (kd wt : Nat → Nat) (d : Nat) : Nat := if kd d = 2 then wt d / 2 else wt d
/-- what is felt in a beat of a plan -/
def FE (nb : Nat) (need : Nat → Nat) (nc : Nat) (li p st : Nat → Nat) (k : Nat) : Nat := fe (fun b => sm (fun d => if tr li st k d = b then p d else 0) nc) need nb
theorem LD_all {p li st p' li' : Nat → Nat} {k nc b : Nat} (hp : ∀ d, d < nc → p d = p' d ∧ li d = li' d) : LD p li st k nc nc b = sm (fun d => if tr li' st k d = b then p' d else 0) nc := by
  refine sm_congr (fun d hd => ?_)
  have h1 := hp d hd
  have h2 : tr li st k d = tr li' st k d := by unfold tr; rw [h1.2]
  unfold ldt
  rw [h2, h1.1]
  by_cases e : tr li' st k d = b
  · rw [if_pos ⟨Or.inr hd, e⟩, if_pos e]
  · rw [if_neg (fun z => e z.2), if_neg e]
theorem FE_lt (nb : Nat) (need : Nat → Nat) (nc : Nat) (li p st : Nat → Nat) (k : Nat) : FE nb need nc li p st k < 2 ^ nb := fe_lt _ _ _
/-- the row of the limpers' boards -/
def lrow (li st : Nat → Nat) (k : Nat) : Nat → Nat
  | 0 => 0
  | n + 1 => 7 * lrow li st k n + (if li n ≠ 0 then st (k * 4 + n) else 0)
theorem lrow_lt {li st : Nat → Nat} {k : Nat} : ∀ n, (∀ d, d < n → st (k * 4 + d) < 7) → lrow li st k n < 7 ^ n := by
  intro n
  induction n with
  | zero => intro _; exact Nat.one_pos
  | succ n ih =>
    intro h
    have h1 := ih (fun d hd => h d (by omega))
    have h2 := h n (by omega)
    show 7 * _ + _ < _
    rw [Nat.pow_succ]
    split <;> omega
/-- whether those who are to come can do it -/
def wtc (li p : Nat → Nat) (k d nc : Nat) : Nat := sm (fun e => if d ≤ e ∧ ¬ (k % 2 = 1 ∧ li e ≠ 0) then p e else 0) nc
def lak (need L : Nat → Nat) (f : Nat) : Nat → Nat := sm (fun b => if f / 2 ^ b % 2 = 1 then need b - L b else 0)
def opn (nb : Nat) (need : Nat → Nat) (nc : Nat) (li p st : Nat → Nat) (f k d : Nat) : Prop :=
  (∀ b, b < nb → f / 2 ^ b % 2 = 0 → LD p li st k d nc b < need b) ∧ lak need (LD p li st k d nc) f nb ≤ wtc li p k d nc
theorem lak_le {need L : Nat → Nat} {f : Nat} : ∀ n, (∀ b, b < n → need b ≤ 9) → lak need L f n ≤ 9 * n := by
  intro n h
  refine sm_le (fun b hb => ?_)
  have := h b hb
  show (if _ then _ else _) ≤ 9
  split
  · exact Nat.le_trans (Nat.sub_le _ _) this
  · exact Nat.zero_le _
theorem wtc_le {li p : Nat → Nat} {k d : Nat} : ∀ n, (∀ e, e < n → p e ≤ 9) → wtc li p k d n ≤ 9 * n := by
  intro n h
  refine sm_le (fun b hb => ?_)
  have := h b hb
  show (if _ then _ else _) ≤ 9
  split <;> omega
theorem wtc_0 {li p : Nat → Nat} {k d : Nat} : wtc li p k d d = 0 := sm_zero (fun e he => by show (if _ then _ else _) = 0; rw [if_neg (fun z => by omega)])
theorem pA_le {kd wt : Nat → Nat} {d : Nat} (h : wt d ≤ 9) : pA kd wt d ≤ 9 := by unfold pA; split <;> omega
theorem lA_le {kd : Nat → Nat} {d : Nat} : lA kd d ≤ 1 := by unfold lA; split <;> omega
theorem up2_s {f g p l : Nat → Nat} {i x y : Nat} (h : ∀ d, d < i → f d = p d ∧ g d = l d) (hx : x = p i) (hy : y = l i) : ∀ d, d < i + 1 → va_up f i x d = p d ∧ va_up g i y d = l d := by
  intro d hd
  by_cases e : d = i
  · subst e; simp [va_up, hx, hy]
  · have := h d (by omega); simp [va_up, e, this]
theorem n_neg {k : Nat} {x : Int32} (h : k < 2147483648) (hx : x.toInt < 0) : ¬ nI k = x := fun e => by rw [← e, n_tI h] at hx; omega
theorem wtc_y {li p : Nat → Nat} {k d i : Nat} (h : d ≤ i) (h2 : ¬ (k % 2 = 1 ∧ li i ≠ 0)) : wtc li p k d (i + 1) = wtc li p k d i + p i := by show _ + (if _ then _ else _) = _; rw [if_pos ⟨h, h2⟩]; rfl
theorem wtc_n {li p : Nat → Nat} {k d i : Nat} (h2 : k % 2 = 1 ∧ li i ≠ 0) : wtc li p k d (i + 1) = wtc li p k d i := by show _ + (if _ then _ else _) = _; rw [if_neg (fun z => z.2 h2)]; rfl
theorem lak_y {need L : Nat → Nat} {f i : Nat} (h : f / 2 ^ i % 2 = 1) : lak need L f (i + 1) = lak need L f i + (need i - L i) := by show _ + (if _ then _ else _) = _; rw [if_pos h]; rfl
theorem lak_n {need L : Nat → Nat} {f i : Nat} (h : ¬ f / 2 ^ i % 2 = 1) : lak need L f (i + 1) = lak need L f i := by show _ + (if _ then _ else _) = _; rw [if_neg h]; rfl
theorem lrow_s (li st : Nat → Nat) (k n : Nat) : lrow li st k (n + 1) = 7 * lrow li st k n + (if li n ≠ 0 then st (k * 4 + n) else 0) := rfl
theorem lrow_le {li st : Nat → Nat} {k n : Nat} (hn : n ≤ 4) (h : ∀ d, d < n → st (k * 4 + d) < 7) : lrow li st k n < 2401 := by
  have h1 := lrow_lt (li := li) n h
  have h2 : (7 : Nat) ^ n ≤ 7 ^ 4 := Nat.pow_le_pow_right (by decide) hn
  omega
