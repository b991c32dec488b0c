/-! ===== doors ===== -/
theorem part_y {P : Nat → Prop} {A : Nat → Prop} {y i j w x : Nat} (h : (y = dset P i ||| 2 ^ i ∧ ∃ fr, fr < j ∧ fr + x ≤ w ∧ A fr) ∨ (y = dset P i ∧ ¬ ∃ fr, fr < j ∧ fr + x ≤ w ∧ A fr)) (hj : j + x ≤ w) (ha : A j) {e : Nat} (he : e = 2 ^ i) : (y ||| e = dset P i ||| 2 ^ i ∧ ∃ fr, fr < j + 1 ∧ fr + x ≤ w ∧ A fr) ∨ (y ||| e = dset P i ∧ ¬ ∃ fr, fr < j + 1 ∧ fr + x ≤ w ∧ A fr) := by
  refine Or.inl ⟨?_, j, by omega, hj, ha⟩
  rw [he]
  rcases h with h | h
  · rw [h.1, or_idem]
  · rw [h.1]
theorem part_n {P : Nat → Prop} {A : Nat → Prop} {y i j w x : Nat} (h : (y = dset P i ||| 2 ^ i ∧ ∃ fr, fr < j ∧ fr + x ≤ w ∧ A fr) ∨ (y = dset P i ∧ ¬ ∃ fr, fr < j ∧ fr + x ≤ w ∧ A fr)) (ha : ¬ A j) : (y = dset P i ||| 2 ^ i ∧ ∃ fr, fr < j + 1 ∧ fr + x ≤ w ∧ A fr) ∨ (y = dset P i ∧ ¬ ∃ fr, fr < j + 1 ∧ fr + x ≤ w ∧ A fr) := by
  rcases h with ⟨h1, fr, g1, g2⟩ | ⟨h1, h2⟩
  · exact Or.inl ⟨h1, fr, by omega, g2⟩
  · refine Or.inr ⟨h1, fun z => ?_⟩
    obtain ⟨fr, g1, g2, g3⟩ := z
    by_cases e : fr = j
    · subst e; exact ha g3
    · exact h2 ⟨fr, by omega, g2, g3⟩
theorem two_s {n i : Nat} {B : Nat → Nat → Prop} (h : ∀ a b, a < i → b < n → a ≠ b → ¬ B a b) (hi : ∀ b, b < n → i ≠ b → ¬ B i b) : ∀ a b, a < i + 1 → b < n → a ≠ b → ¬ B a b := by
  intro a b ha hb
  by_cases e : a = i
  · subst e; exact hi b hb
  · exact h a b (by omega) hb