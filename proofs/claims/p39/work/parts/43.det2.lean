/-! ===== one answer: the calls that take cells ===== -/
def rSh (l : Nat → Nat) (s x : Nat → Int32) (l' : Nat → Nat) (s' x' : Nat → Int32) : Prop := ∀ k, k < 4 → s k = s' k ∧ (s k ≠ -1 → l k = l' k ∧ ∀ j, j < l k → x (k * 80 + j) = x' (k * 80 + j))
theorem q_x {x : Int32} {n j : Nat} {P : Prop} (h : nR x n) (hj : j < n) (e : x = nI j) : P := (nR_hit h hj e).elim
section
variable {l l' : Nat → Nat} {s x s' x' : Nat → Int32} {sh so i q r r' : Int32} {o o' : Prop} {F F' : Nat}
theorem tk_one (hs : rSh l s x l' s' x') (ho : o ↔ o') (h : tkB (fun k => s k = -1) (fun k q => s k = nI q) l sh so o i q r F) (h' : tkB (fun k => s' k = -1) (fun k q => s' k = nI q) l' sh so o' i q r' F') : r = r' ∧ F = F' := by
  rcases h with ⟨a1, a2, a3⟩ | ⟨k, a1, a2, a3, a4, a5⟩ | ⟨k, s1, a1, a2, a3, a4, a5, a6⟩ <;> rcases h' with ⟨b1, b2, b3⟩ | ⟨k', b1, b2, b3, b4, b5⟩ | ⟨k', s1', b1, b2, b3, b4, b5, b6⟩
  · exact ⟨a2.trans b2.symm, a3.trans b3.symm⟩
  · exact q_x a1 b1 b2
  · exact q_x a1 b1 b3
  · exact q_x b1 a1 a2
  · exact ⟨a4.trans b4.symm, a5.trans b5.symm⟩
  · rcases a3 with a3 | a3
    · exact q_x a3 b2 b4
    · exact absurd (ho.mp a3) b5
  · exact q_x b1 a1 a3
  · rcases b3 with b3 | b3
    · exact q_x b3 a2 a4
    · exact absurd (ho.mpr b3) a5
  · have := x_one (by decide) (by decide) a1 b1 a3 b3
    subst this
    have := x_one (by decide) (by decide) a2 b2 a4 b4
    subst this
    have e1 := (hs k a1).1
    have hm : s k = nI s1 → ¬ s k = -1 := fun z z2 => nI_m1 a2 (z.symm.trans z2)
    have hl : s k = nI s1 → l k = l' k := fun z => ((hs k a1).2 (hm z)).1
    simp only [← e1] at b6
    rcases a6 with ⟨c1, c2, c3⟩ | ⟨c1, c2, c3, c4⟩ | ⟨c1, c2, c3, c4⟩ | ⟨c1, c2, c3, c4, c5⟩ <;> rcases b6 with ⟨d1, d2, d3⟩ | ⟨d1, d2, d3, d4⟩ | ⟨d1, d2, d3, d4⟩ | ⟨d1, d2, d3, d4, d5⟩
    · exact ⟨c2.trans d2.symm, c3.trans d3.symm⟩
    · exact absurd c1 d1
    · exact absurd c1 (hm d1)
    · exact absurd c1 (hm d1)
    · exact absurd d1 c1
    · exact ⟨c3.trans d3.symm, c4.trans d4.symm⟩
    · exact absurd d1 c2
    · exact absurd d1 c2
    · exact absurd d1 (hm c1)
    · exact absurd c1 d2
    · exact ⟨c3.trans d3.symm, c4.trans d4.symm⟩
    · omega
    · exact absurd d1 (hm c1)
    · exact absurd c1 d2
    · omega
    · exact ⟨c4.trans d4.symm, c5.trans d5.symm⟩
theorem tk_no {k' s1' j n : Nat} (hl : ∀ k, k < 4 → l' k ≤ 80) (hs : rSh l s x l' s' x') (ho : o ↔ o') (h : tkB (fun k => s k = -1) (fun k q => s k = nI q) l sh so o i q r F) (h' : tkY (fun k q => s' k = nI q) l' sh so o' i q k' s1' j n) : False := by
  obtain ⟨b1, b2, b3, b4, b5, b6, b7, b8, b9⟩ := h'
  rcases h with ⟨a1, a2, a3⟩ | ⟨k, a1, a2, a3, a4, a5⟩ | ⟨k, s1, a1, a2, a3, a4, a5, a6⟩
  · exact q_x a1 b1 b3
  · rcases a3 with a3 | a3
    · exact q_x a3 b2 b4
    · exact b5 (ho.mp a3)
  · have := x_one (by decide) (by decide) a1 b1 a3 b3
    subst this
    have := x_one (by decide) (by decide) a2 b2 a4 b4
    subst this
    have e1 := (hs k a1).1
    have b6 : s' k = nI s1 := b6
    have e2 : s k = nI s1 := e1.trans b6
    have hm : ¬ s k = -1 := fun z => nI_m1 a2 (e2.symm.trans z)
    have el := ((hs k a1).2 hm).1
    have h80 := hl k a1
    subst b7 b8
    rw [n_tI (k := j) (by omega), n_tI (k := n) (by omega)] at a6
    rcases a6 with ⟨c1, -⟩ | ⟨-, c2, -⟩ | ⟨-, c2, -⟩ | ⟨-, c2, c3, -⟩
    · exact hm c1
    · exact c2 e2
    · omega
    · omega
theorem tky_one {k s1 j n k' s1' j' n' : Nat} (hl : ∀ k, k < 4 → l k ≤ 80) (hl' : ∀ k, k < 4 → l' k ≤ 80) (h : tkY (fun k q => s k = nI q) l sh so o i q k s1 j n) (h' : tkY (fun k q => s' k = nI q) l' sh so o' i q k' s1' j' n') : k = k' ∧ s1 = s1' ∧ j = j' ∧ n = n' := by
  obtain ⟨a1, a2, a3, a4, a5, a6, a7, a8, a9⟩ := h
  obtain ⟨b1, b2, b3, b4, b5, b6, b7, b8, b9⟩ := h'
  have h1 := hl k a1
  have h2 := hl' k' b1
  exact ⟨x_one (by decide) (by decide) a1 b1 a3 b3, x_one (by decide) (by decide) a2 b2 a4 b4, (n_inj (by omega) (by omega)).mp (a7.symm.trans b7), (n_inj (by omega) (by omega)).mp (a8.symm.trans b8)⟩
theorem tky_sh {k s1 j n : Nat} (hs : rSh l s x l' s' x') (h : tkY (fun k q => s k = nI q) l sh so o i q k s1 j n) : s k ≠ -1 ∧ l k = l' k ∧ ∀ e, e < n → x (k * 80 + (j + e)) = x' (k * 80 + (j + e)) := by
  obtain ⟨a1, a2, a3, a4, a5, a6, a7, a8, a9⟩ := h
  have hm : ¬ s k = -1 := fun z => nI_m1 a2 (a6.symm.trans z)
  have := (hs k a1).2 hm
  exact ⟨hm, this.1, fun e he => this.2 (j + e) (by omega)⟩
theorem d_row {fin fin' : Nat → Nat → Nat → Int32 → Prop} (hl : ∀ k, k < 4 → l k ≤ 80) (hl' : ∀ k, k < 4 → l' k ≤ 80) (hs : rSh l s x l' s' x') (ho : o ↔ o')
    (hf : ∀ k j n r r', (∀ e, e < n → x (k * 80 + (j + e)) = x' (k * 80 + (j + e))) → fin k j n r → fin' k j n r' → r = r')
    (h : sp_row (fun k => s k = -1) (fun k q => s k = nI q) l sh so o i q fin r F) (h' : sp_row (fun k => s' k = -1) (fun k q => s' k = nI q) l' sh so o' i q fin' r' F') : r = r' ∧ F = F' := by
  have hs' : rSh l' s' x' l s x := fun k hk => ⟨(hs k hk).1.symm, fun z => by
    have := (hs k hk).2 (by rw [(hs k hk).1]; exact z)
    exact ⟨this.1.symm, fun j hj => (this.2 j (by rw [this.1]; exact hj)).symm⟩⟩
  rcases h with h | ⟨k, s1, j, n, a1, a2, a3⟩ <;> rcases h' with h' | ⟨k', s1', j', n', b1, b2, b3⟩
  · exact tk_one hs ho h h'
  · exact (tk_no hl' hs ho h b1).elim
  · exact (tk_no hl hs' ho.symm h' a1).elim
  · obtain ⟨rfl, rfl, rfl, rfl⟩ := tky_one hl hl' a1 b1
    exact ⟨hf _ _ _ _ _ (tky_sh hs a1).2.2 a3 b3, a2.trans b2.symm⟩
theorem cellsNP {cell : Nat → Nat → Int32} {k j nb nc bt : Nat} {st : Nat → Nat} (hN : cellsN cell k j nb (bt * nc)) (hP : cellsP cell k j nb nc bt st) : False := by
  obtain ⟨q, h1, h2⟩ := hN
  have h0 : 0 < nc := by
    rcases Nat.eq_zero_or_pos nc with z | z
    · subst z; omega
    · exact z
  have h3 := hP (q / nc) (q % nc) ((Nat.div_lt_iff_lt_mul h0).mpr h1) (Nat.mod_lt _ h0)
  rw [Nat.div_add_mod' q nc] at h3
  exact h2 ⟨_, h3.2, h3.1⟩
theorem cellsN_cg {cell cell' : Nat → Nat → Int32} {k j nb n : Nat} (e : ∀ q, q < n → cell k (j + q) = cell' k (j + q)) (h : cellsN cell k j nb n) : cellsN cell' k j nb n := by
  obtain ⟨q, h1, h2⟩ := h
  exact ⟨q, h1, by rw [← e q h1]; exact h2⟩
theorem cellsP_cg {cell cell' : Nat → Nat → Int32} {k j nb nc bt : Nat} {st : Nat → Nat} (e : ∀ q, q < bt * nc → cell k (j + q) = cell' k (j + q)) (h : cellsP cell k j nb nc bt st) : cellsP cell' k j nb nc bt st :=
  fun b d hb hd => by rw [← e _ (grid_lt hb hd)]; exact h b d hb hd
theorem cellsP_one {cell : Nat → Nat → Int32} {k j nb nc bt : Nat} {st st' : Nat → Nat} (hn : nb ≤ 1000) (h : cellsP cell k j nb nc bt st) (h' : cellsP cell k j nb nc bt st') : ∀ b e, b < bt → e < nc → st (b * 4 + e) = st' (b * 4 + e) := fun b e hb he => by
  have a := h b e hb he
  have a' := h' b e hb he
  exact (n_inj (by omega) (by omega)).mp (a.1.symm.trans a'.1)
theorem d_tp {nb nd nc mb md mc bt : Nat} {fin fin' : (Nat → Nat) → Int32 → Prop} (hl : ∀ k, k < 4 → l k ≤ 80) (hl' : ∀ k, k < 4 → l' k ≤ 80) (hs : rSh l s x l' s' x') (hn : nb ≤ 1000) (hb : bt ≤ 6) (hc : nc ≤ 4) (eb : nb = mb) (ed : nd = md) (ec : nc = mc)
    (hf : ∀ st st' r r', (∀ b e, b < bt → e < nc → st (b * 4 + e) = st' (b * 4 + e)) → fin st r → fin' st' r' → r = r')
    (h : sp_tp (fun k => s k = -1) (fun k q => s k = nI q) l (fun k q => x (k * 80 + q)) nb nd nc bt sh so i fin r F) (h' : sp_tp (fun k => s' k = -1) (fun k q => s' k = nI q) l' (fun k q => x' (k * 80 + q)) mb md mc bt sh so i fin' r' F') : r = r' ∧ F = F' := by
  subst eb ed ec
  have hs' : rSh l' s' x' l s x := fun k hk => ⟨(hs k hk).1.symm, fun z => by
    have := (hs k hk).2 (by rw [(hs k hk).1]; exact z)
    exact ⟨this.1.symm, fun j hj => (this.2 j (by rw [this.1]; exact hj)).symm⟩⟩
  rcases h with h | ⟨k, s1, j, n, a1, a2, a3⟩ <;> rcases h' with h' | ⟨k', s1', j', n', b1, b2, b3⟩
  · exact tk_one hs Iff.rfl h h'
  · exact (tk_no hl' hs Iff.rfl h b1).elim
  · exact (tk_no hl hs' Iff.rfl h' a1).elim
  · obtain ⟨rfl, rfl, rfl, rfl⟩ := tky_one hl hl' a1 b1
    have hm : bt * nc ≤ 24 := Nat.le_trans (Nat.mul_le_mul hb hc) (by decide)
    have hk80 := hl k a1.1
    have en : bt * nc = n := (n_inj (by omega) (by have := a1.2.2.2.2.2.2.2.2; omega)).mp a1.2.2.2.2.2.2.2.1
    have e := (tky_sh hs a1).2.2
    rw [← en] at e
    refine ⟨?_, a2.trans b2.symm⟩
    rcases a3 with ⟨c1, c2⟩ | ⟨c1, c2, c3⟩ | ⟨c1, st, c2, c3⟩ <;> rcases b3 with ⟨d1, d2⟩ | ⟨d1, d2, d3⟩ | ⟨d1, st', d2, d3⟩
    · exact c2.trans d2.symm
    · omega
    · omega
    · omega
    · exact c3.trans d3.symm
    · exact (cellsNP (cellsN_cg (cell' := fun k q => x' (k * 80 + q)) (fun q hq => e q hq) c2) d2).elim
    · omega
    · exact (cellsNP d2 (cellsP_cg (cell' := fun k q => x' (k * 80 + q)) (fun q hq => e q hq) c2)).elim
    · exact hf st st' _ _ (cellsP_one hn (cellsP_cg (cell' := fun k q => x' (k * 80 + q)) (fun q hq => e q hq) c2) d2) c3 d3
theorem d_bt {nb nd nc mb md mc : Nat} {xx : Int32} {ok : Nat → Prop} {fin fin' : Nat → (Nat → Nat) → Int32 → Prop} (hl : ∀ k, k < 4 → l k ≤ 80) (hl' : ∀ k, k < 4 → l' k ≤ 80) (hs : rSh l s x l' s' x') (hn : nb ≤ 1000) (hc : nc ≤ 4) (eb : nb = mb) (ed : nd = md) (ec : nc = mc)
    (hf : ∀ bt st st' r r', xx = nI bt → bt ≤ 6 → (∀ b e, b < bt → e < nc → st (b * 4 + e) = st' (b * 4 + e)) → fin bt st r → fin' bt st' r' → ok bt → r = r')
    (h : sp_bt (fun k => s k = -1) (fun k q => s k = nI q) l (fun k q => x (k * 80 + q)) nb nd nc xx ok sh so i fin r F) (h' : sp_bt (fun k => s' k = -1) (fun k q => s' k = nI q) l' (fun k q => x' (k * 80 + q)) mb md mc xx ok sh so i fin' r' F') : r = r' ∧ F = F' := by
  rcases h with ⟨bt, a1, a2, a3, a4, a5⟩ | ⟨a1, a2, a3⟩ <;> rcases h' with ⟨bt', b1, b2, b3, b4, b5⟩ | ⟨b1, b2, b3⟩
  · have : bt = bt' := (n_inj (by omega) (by omega)).mp (a3.symm.trans b3)
    subst this
    exact d_tp hl hl' hs hn a2 hc eb ed ec (fun st st' r r' he hf1 hf2 => hf bt st st' r r' a3 a2 he hf1 hf2 a4) a5 b5
  · exact absurd ⟨bt, a1, a2, a3, a4⟩ b1
  · exact absurd ⟨bt', b1, b2, b3, b4⟩ a1
  · refine ⟨?_, a2.trans b2.symm⟩
    rcases a3 with ⟨c1, c2⟩ | ⟨⟨k, c1, c3⟩, c2⟩ <;> rcases b3 with ⟨d1, d2⟩ | ⟨⟨k', d1, d3⟩, d2⟩
    · exact c2.trans d2.symm
    · exact q_x c1 d1 d3
    · exact q_x d1 c1 c3
    · exact c2.trans d2.symm
theorem d_wrong {nb nd nc mb md mc : Nat} {nbt nbt' : Nat → Nat} {xx : Int32} {fin fin' : Nat → (Nat → Nat) → Int32 → Prop} (hl : ∀ k, k < 4 → l k ≤ 80) (hl' : ∀ k, k < 4 → l' k ≤ 80) (hs : rSh l s x l' s' x') (hn : nb ≤ 1000) (hd : nd ≤ 1000) (hc : nc ≤ 4) (eb : nb = mb) (ed : nd = md) (ec : nc = mc) (e1 : ∀ d, d < nd → nbt d = nbt' d ∧ nbt d ≤ 6)
    (hf : ∀ d st st' r r', d < nd → (∀ b e, b < nbt d → e < nc → st (b * 4 + e) = st' (b * 4 + e)) → fin d st r → fin' d st' r' → r = r')
    (h : sp_wrong (fun k => s k = -1) (fun k q => s k = nI q) l (fun k q => x (k * 80 + q)) nb nd nc nbt xx sh so i fin r F) (h' : sp_wrong (fun k => s' k = -1) (fun k q => s' k = nI q) l' (fun k q => x' (k * 80 + q)) mb md mc nbt' xx sh so i fin' r' F') : r = r' ∧ F = F' := by
  subst ed
  rcases h with ⟨d, a1, a2, a3⟩ | ⟨a1, a2, a3⟩ <;> rcases h' with ⟨d', b1, b2, b3⟩ | ⟨b1, b2, b3⟩
  · have := x_one hd hd a1 b1 a2 b2
    subst this
    have e2 := e1 d a1
    rw [← e2.1] at b3
    exact d_tp hl hl' hs hn e2.2 hc eb rfl ec (fun st st' r r' he h1 h2 => hf d st st' r r' a1 he h1 h2) a3 b3
  · exact q_x b1 a1 a2
  · exact q_x a1 b1 b2
  · exact ⟨a2.trans b2.symm, a3.trans b3.symm⟩
theorem WI_cg {cell cell' : Nat → Nat → Int32} {k j n z : Nat} (e : ∀ q, q < n → cell k (j + q) = cell' k (j + q)) (h : WIb cell k j n z) : WIb cell' k j n z := fun q hq => by rw [← e q hq]; exact h q hq
theorem d_seen {cell cell' : Nat → Nat → Int32} {k j n z nd md : Nat} {nbt nbt' : Nat → Nat} {fig fig' : Nat → Nat → Nat} (ed : nd = md) (e1 : ∀ d, d < nd → nbt d = nbt' d) (ef : ∀ d k, d < nd → k < nbt d → fig d k = fig' d k) (e : ∀ q, q < n → cell k (j + q) = cell' k (j + q)) (h : sp_seen cell nd nbt fig z k j n r) (h' : sp_seen cell' md nbt' fig' z k j n r') : r = r' := by
  subst ed
  rcases h with ⟨a1, a2⟩ | ⟨a1, a2, a3⟩ | ⟨a1, a2, a3⟩ <;> rcases h' with ⟨b1, b2⟩ | ⟨b1, b2, b3⟩ | ⟨b1, b2, b3⟩
  · exact a2.trans b2.symm
  · omega
  · omega
  · omega
  · exact a3.trans b3.symm
  · exact absurd (WI_cg (fun q hq => (e q hq).symm) b2) a2
  · omega
  · exact absurd (WI_cg e a2) b2
  · rw [a3, b3]
    refine congrArg nI (dset_congr nd (fun d hd => ?_))
    rw [e1 d hd]
    refine and_congr_right (fun hn => forall_congr' (fun q => forall_congr' (fun hq => ?_)))
    rw [ef d q hd (by rw [e1 d hd]; omega), e q hq]
theorem d_part {cell cell' : Nat → Nat → Int32} {k j n nb nd mb md : Nat} {nbt nbt' : Nat → Nat} {fig fig' : Nat → Nat → Nat} (eb : nb = mb) (ed : nd = md) (e1 : ∀ d, d < nd → nbt d = nbt' d) (ef : ∀ d k, d < nd → k < nbt d → fig d k = fig' d k) (e : ∀ q, q < n → cell k (j + q) = cell' k (j + q)) (h : sp_part cell nb nd nbt fig k j n r) (h' : sp_part cell' mb md nbt' fig' k j n r') : r = r' := by
  subst eb ed
  rcases h with ⟨a1, a2⟩ | ⟨a1, a2, a3⟩ | ⟨a1, a4, a2, a3⟩ <;> rcases h' with ⟨b1, b2⟩ | ⟨b1, b2, b3⟩ | ⟨b1, b4, b2, b3⟩
  · exact a2.trans b2.symm
  · omega
  · omega
  · omega
  · exact a3.trans b3.symm
  · rcases a2 with a2 | a2
    · exact absurd a2 b4
    · exact absurd (WI_cg (fun q hq => (e q hq).symm) b2) a2
  · omega
  · rcases b2 with b2 | b2
    · exact absurd b2 a4
    · exact absurd (WI_cg e a2) b2
  · rw [a3, b3]
    refine congrArg nI (dset_congr nd (fun d hd => ?_))
    rw [e1 d hd]
    refine exists_congr (fun fr => and_congr_right (fun hn => forall_congr' (fun q => forall_congr' (fun hq => ?_))))
    rw [ef d (fr + q) hd (by rw [e1 d hd]; omega), e q hq]
theorem d_cell {ii : Int32} {r r' : Int64} (hl : ∀ k, k < 4 → l k ≤ 80) (hl' : ∀ k, k < 4 → l' k ≤ 80) (hs : rSh l s x l' s' x')
    (h : sp_cell (fun k => s k = -1) (fun k q => s k = nI q) l (fun k q => x (k * 80 + q)) sh ii so r F) (h' : sp_cell (fun k => s' k = -1) (fun k q => s' k = nI q) l' (fun k q => x' (k * 80 + q)) sh ii so r' F') : r = r' ∧ F = F' := by
  have hs' : rSh l' s' x' l s x := fun k hk => ⟨(hs k hk).1.symm, fun z => by
    have := (hs k hk).2 (by rw [(hs k hk).1]; exact z)
    exact ⟨this.1.symm, fun j hj => (this.2 j (by rw [this.1]; exact hj)).symm⟩⟩
  rcases h with ⟨⟨r0, h⟩, a0⟩ | ⟨k, s1, j, n, a1, a2, a3⟩ <;> rcases h' with ⟨⟨r0', h'⟩, b0⟩ | ⟨k', s1', j', n', b1, b2, b3⟩
  · exact ⟨a0.trans b0.symm, (tk_one hs Iff.rfl h h').2⟩
  · exact (tk_no hl' hs Iff.rfl h b1).elim
  · exact (tk_no hl hs' Iff.rfl h' a1).elim
  · obtain ⟨rfl, rfl, rfl, rfl⟩ := tky_one hl hl' a1 b1
    have hk80 := hl k a1.1
    have en : 1 = n := (n_inj (by decide) (by have := a1.2.2.2.2.2.2.2.2; omega)).mp a1.2.2.2.2.2.2.2.1
    have e := (tky_sh hs a1).2.2 0 (by omega)
    refine ⟨?_, a2.trans b2.symm⟩
    rw [a3, b3]
    exact congrArg Int32.toInt64 e
end
theorem d_as {n m : Nat} {f g : Nat → Nat} {x y r r' : Int32} {F F' : Nat} (hn : n ≤ 1000) (en : n = m) (e : ∀ b, b < n → f b = g b) (h : sp_as n f x y r F) (h' : sp_as m g x y r' F') : r = r' ∧ F = F' := by
  subst en
  rcases h with ⟨j, h1, h2, h3⟩ | ⟨h1, h2, h3⟩ <;> rcases h' with ⟨i, g1, g2, g3⟩ | ⟨g1, g2, g3⟩
  · have := x_one hn hn h1 g1 h2 g2
    subst this
    rcases h3 with ⟨a1, a2, a3⟩ | ⟨k, a1, a2, a3⟩ <;> rcases g3 with ⟨b1, b2, b3⟩ | ⟨k', b1, b2, b3⟩
    · exact ⟨a2.trans b2.symm, a3.trans b3.symm⟩
    · exact q_x a1 b1 b2
    · exact q_x b1 a1 a2
    · have := x_one (by decide) (by decide) a1 b1 a2 b2
      subst this
      rw [← e j h1] at b3
      rcases a3 with ⟨c1, c2, c3⟩ | ⟨c1, c2, c3⟩ <;> rcases b3 with ⟨d1, d2, d3⟩ | ⟨d1, d2, d3⟩
      · exact ⟨c2.trans d2.symm, c3.trans d3.symm⟩
      · omega
      · omega
      · exact ⟨c2.trans d2.symm, c3.trans d3.symm⟩
  · exact q_x g1 h1 h2
  · exact q_x h1 g1 g2
  · exact ⟨h2.trans g2.symm, h3.trans g3.symm⟩
