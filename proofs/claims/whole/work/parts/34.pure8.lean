/-! ===== the model's dances: who limps, who weighs what ===== -/
def mL (aw : Nat) (kd : Nat → Nat) (d : Nat) : Nat := if aw = 0 then lA kd d else 0
def mP (aw : Nat) (kd wt : Nat → Nat) (d : Nat) : Nat := if aw = 0 then pA kd wt d else wt d
theorem mL_0 {kd : Nat → Nat} : mL 0 kd = lA kd := rfl
theorem mP_0 {kd wt : Nat → Nat} : mP 0 kd wt = pA kd wt := rfl
theorem mL_1 {kd : Nat → Nat} : mL 1 kd = fun _ => 0 := rfl
theorem mP_1 {kd wt : Nat → Nat} : mP 1 kd wt = wt := rfl
theorem mL_z {aw d : Nat} {kd : Nat → Nat} (h : aw ≠ 0) : mL aw kd d = 0 := if_neg h
theorem mL_k {aw d : Nat} {kd : Nat → Nat} (h : kd d = 0) : mL aw kd d = 0 := by
  unfold mL lA
  rw [h]
  split <;> rfl
theorem mL_p {aw d : Nat} {kd : Nat → Nat} (h : aw = 0) (hk : 0 < kd d) : mL aw kd d ≠ 0 := by
  unfold mL lA
  rw [if_pos h, if_pos (show 1 ≤ kd d from hk)]; decide
theorem mL_le {aw d : Nat} {kd : Nat → Nat} : mL aw kd d ≤ 1 := by
  unfold mL lA
  split
  · split <;> decide
  · decide
theorem mP_w {aw d : Nat} {kd wt : Nat → Nat} (h : aw ≠ 0) : mP aw kd wt d = wt d := if_neg h
theorem mP_a {aw d : Nat} {kd wt : Nat → Nat} (h : aw = 0) : mP aw kd wt d = pA kd wt d := if_pos h
theorem tr_y {li st : Nat → Nat} {k d : Nat} (h1 : k % 2 = 1) (h2 : li d ≠ 0) : tr li st k d = st (4 * (k - 1) + d) := by
  unfold tr; rw [if_pos ⟨h1, h2⟩, Nat.mul_comm]
theorem tr_n {li st : Nat → Nat} {k d : Nat} (h : ¬ (k % 2 = 1 ∧ li d ≠ 0)) : tr li st k d = st (4 * k + d) := by
  unfold tr; rw [if_neg h, Nat.mul_comm]
theorem ft_y {li p st : Nat → Nat} {k i j x y w : Nat} (h : y = sm (fun d => if tr li st k d = i then p d else 0) j) (ht : tr li st k j = x) (hx : x = i) (hp : p j = w) : y + w = sm (fun d => if tr li st k d = i then p d else 0) (j + 1) := by
  rw [sm_s, ← h, if_pos (ht.trans hx), hp]
theorem ft_n {li p st : Nat → Nat} {k i j x y : Nat} (h : y = sm (fun d => if tr li st k d = i then p d else 0) j) (ht : tr li st k j = x) (hx : ¬ x = i) : y = sm (fun d => if tr li st k d = i then p d else 0) (j + 1) := by
  rw [sm_s, ← h, if_neg (fun z => hx (ht.symm.trans z)), Nat.add_zero]
section
variable {noS : Nat → Prop} {hasS : Nat → Nat → Prop} {len : Nat → Nat} {cell : Nat → Nat → Int32} {nb nd nc k : Nat} {x sh so i : Int32} {ok : Nat → Prop} {fin : Nat → (Nat → Nat) → Int32 → Prop}
theorem bt_sh (h : nR sh 4) : sp_bt noS hasS len cell nb nd nc x ok sh so i fin (-1) 0 := by
  by_cases e : ∃ bt, 1 ≤ bt ∧ bt ≤ 6 ∧ x = nI bt ∧ ok bt
  · obtain ⟨bt, h1, h2, h3, h4⟩ := e
    exact Or.inl ⟨bt, h1, h2, h3, h4, Or.inl (Or.inl ⟨h, rfl, rfl⟩)⟩
  · exact Or.inr ⟨e, rfl, Or.inl ⟨h, rfl⟩⟩
theorem bt_so (hk : k < 4) (h : nR so 3) : sp_bt noS hasS len cell nb nd nc x ok (nI k) so i fin (-2) 0 := by
  by_cases e : ∃ bt, 1 ≤ bt ∧ bt ≤ 6 ∧ x = nI bt ∧ ok bt
  · obtain ⟨bt, h1, h2, h3, h4⟩ := e
    exact Or.inl ⟨bt, h1, h2, h3, h4, Or.inl (Or.inr (Or.inl ⟨k, hk, rfl, Or.inl h, rfl, rfl⟩))⟩
  · exact Or.inr ⟨e, rfl, Or.inr ⟨⟨k, hk, rfl⟩, rfl⟩⟩
end
theorem part_iff {fg : Nat → Nat} {g : Nat → Int32} {nb B d n : Nat} (hf : ∀ k, k < B → fg (d * 6 + k) < 2 ^ nb) :
    (∃ fr, fr + n ≤ B ∧ ∀ e, e < n → nI (fg (d * 6 + (fr + e)) &&& (2 ^ nb - 1)) = g e) ↔ ∃ fr, fr + n ≤ B ∧ ∀ e, e < n → nI (fg (d * 6 + (fr + e))) = g e := by
  refine exists_congr (fun fr => and_congr_right (fun h => forall_congr' (fun e => forall_congr' (fun he => ?_))))
  rw [and_mask.mpr (hf (fr + e) (by omega))]
