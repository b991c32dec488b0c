/-! ===== the law's search: rows of a beat by their numbers ===== -/
theorem dg_lt {nb n a e : Nat} (hnb : 0 < nb) : digf nb n a e < nb := Nat.mod_lt _ hnb
theorem dg_v {nb n a : Nat} (ha : a < nb ^ n) : vqx nb (frk (fun _ => 0) 0) (fun e => digf nb n a (0 * 4 + e)) 0 0 n = a := by
  have h := digf_v (li := fun _ => 0) ha n (Nat.le_refl n)
  rw [Nat.sub_self, Nat.pow_zero, Nat.div_one] at h
  exact h
theorem d04 {e : Nat} : 0 * 4 + e = e := by omega
theorem dg_ex {nb n : Nat} (hnb : 0 < nb) {x : Nat → Nat} (hx : ∀ e, e < n → x e < nb) : ∃ a, a < nb ^ n ∧ ∀ e, e < n → digf nb n a e = x e := by
  have h1 : vqx nb (frk (fun _ => 0) 0) x 0 0 n < nb ^ n := by
    have h := vqx_lt (nb := nb) (fr := frk (fun _ => 0) 0) (x := x) n (fun e he _ => hx e he)
    rwa [cnq_0] at h
  refine ⟨_, h1, fun e he => ?_⟩
  have h2 := vqx_inj n (fun e he _ => ⟨dg_lt hnb, hx e he⟩) (dg_v h1) e he frk_0
  rw [← h2, d04]
theorem dg_mono {nb n a a' : Nat} (hnb : 0 < nb) (ha : a < nb ^ n) (ha' : a' < nb ^ n) (h : ∃ e, e < n ∧ digf nb n a e < digf nb n a' e ∧ ∀ j, j < e → digf nb n a j = digf nb n a' j) : a < a' := by
  have h3 := vqx_mono (nb := nb) (fr := frk (fun _ => 0) 0) (x := fun e => digf nb n a (0 * 4 + e)) (x' := fun e => digf nb n a' (0 * 4 + e)) n (fun e he _ => ⟨dg_lt hnb, dg_lt hnb⟩) (fun e he hz => absurd hz frk_0) (by
    obtain ⟨e, h1, h2, h3⟩ := h
    exact ⟨e, h1, by rw [d04]; exact h2, fun j hj => by show digf nb n a (0 * 4 + j) = digf nb n a' (0 * 4 + j); rw [d04]; exact h3 j hj⟩)
  rw [dg_v ha, dg_v ha'] at h3
  exact h3
/-- two rows, of two beats -/
def rp (nb n a b k : Nat) : Nat → Nat := fun q => if q < (k + 1) * 4 then digf nb n a (q - k * 4) else digf nb n b (q - (k + 1) * 4)
theorem rp_a {nb n a b k e : Nat} (he : e < 4) : rp nb n a b k (k * 4 + e) = digf nb n a e := by
  unfold rp
  rw [if_pos (by omega), show k * 4 + e - k * 4 = e by omega]
theorem rp_b {nb n a b k e : Nat} : rp nb n a b k ((k + 1) * 4 + e) = digf nb n b e := by
  unfold rp
  rw [if_neg (by omega), show (k + 1) * 4 + e - (k + 1) * 4 = e by omega]
theorem tr_e {li st : Nat → Nat} {k e : Nat} (hk : k % 2 = 0) : tr li st k e = st (k * 4 + e) := by
  unfold tr; rw [if_neg (fun z => by have := z.1; omega)]
theorem tr_o {li st st' : Nat → Nat} {k e : Nat} (hk : k % 2 = 0) (h1 : li e ≠ 0 → st (k * 4 + e) = st' (k * 4 + e)) (h2 : li e = 0 → st ((k + 1) * 4 + e) = st' ((k + 1) * 4 + e)) : tr li st (k + 1) e = tr li st' (k + 1) e := by
  unfold tr
  by_cases h : li e ≠ 0
  · rw [if_pos ⟨by omega, h⟩, if_pos ⟨by omega, h⟩, Nat.add_sub_cancel]; exact h1 h
  · rw [if_neg (fun z => h z.2), if_neg (fun z => h z.2)]; exact h2 (by omega)
section SRC
variable {nb n k B : Nat} {need li p F : Nat → Nat}
/-- a row of the beat, with one behind it -/
def SRC (nb : Nat) (need : Nat → Nat) (n : Nat) (li p F : Nat → Nat) (B k a : Nat) : Prop := FE nb need n li p (rp nb n a 0 k) k = F k ∧ (k + 1 < B → ∃ b, b < nb ^ n ∧ FE nb need n li p (rp nb n a b k) (k + 1) = F (k + 1))
def SRM (nb : Nat) (need : Nat → Nat) (n : Nat) (li p F : Nat → Nat) (B k a b : Nat) : Prop := FE nb need n li p (rp nb n a 0 k) k = F k ∧ (k + 1 < B → b < nb ^ n ∧ FE nb need n li p (rp nb n a b k) (k + 1) = F (k + 1) ∧ ∀ b', b' < b → FE nb need n li p (rp nb n a b' k) (k + 1) ≠ F (k + 1))
theorem SRM_C {a b : Nat} (h : SRM nb need n li p F B k a b) : SRC nb need n li p F B k a := ⟨h.1, fun hB => ⟨b, (h.2 hB).1, (h.2 hB).2.1⟩⟩
theorem fe_e {st st' : Nat → Nat} (hk : k % 2 = 0) (h : ∀ e, e < n → st (k * 4 + e) = st' (k * 4 + e)) : FE nb need n li p st k = FE nb need n li p st' k := FE_congr (fun e he => ⟨by rw [tr_e hk, tr_e hk]; exact h e he, rfl⟩)
theorem fe_o {st st' : Nat → Nat} (hk : k % 2 = 0) (h1 : ∀ e, e < n → li e ≠ 0 → st (k * 4 + e) = st' (k * 4 + e)) (h2 : ∀ e, e < n → li e = 0 → st ((k + 1) * 4 + e) = st' ((k + 1) * 4 + e)) : FE nb need n li p st (k + 1) = FE nb need n li p st' (k + 1) :=
  FE_congr (fun e he => ⟨tr_o hk (h1 e he) (h2 e he), rfl⟩)
theorem src_of {st t : Nat → Nat} (hn : n ≤ 4) (hnb : 0 < nb) (hk : k % 2 = 0) (hc : cp nb n li k 0 st t) (hp : PPb nb need n li p F B k t) : ∃ a, a < nb ^ n ∧ (∀ e, e < n → digf nb n a e = t (k * 4 + e)) ∧ SRC nb need n li p F B k a := by
  obtain ⟨a, h1, h2⟩ := dg_ex (nb := nb) (n := n) hnb (x := fun e => t (k * 4 + e)) (fun e he => (hc.2.2 e (Nat.zero_le _) he).2 (fun z => by have := z.1; omega))
  refine ⟨a, h1, h2, ?_, fun hB => ?_⟩
  · have h3 : FE nb need n li p t k = F k := hp.1
    rw [← h3]
    exact fe_e hk (fun e he => by rw [rp_a (by omega)]; exact h2 e he)
  · obtain ⟨t', c1, c2⟩ := hp.2 hB
    obtain ⟨b, b1, b2⟩ := dg_ex (nb := nb) (n := n) hnb (x := fun e => t' ((k + 1) * 4 + e)) (fun e he => by
      have h5 := c1.2.2 e (Nat.zero_le _) he
      by_cases hl : (k + 1) % 2 = 1 ∧ li e ≠ 0
      · show t' ((k + 1) * 4 + e) < nb
        rw [h5.1 hl]; exact hnb
      · exact h5.2 hl)
    refine ⟨b, b1, ?_⟩
    have h3 : FE nb need n li p t' (k + 1) = F (k + 1) := c2
    rw [← h3]
    refine fe_o hk (fun e he hl => ?_) (fun e he hl => by rw [rp_b]; exact b2 e he)
    rw [rp_a (by omega), h2 e he]
    have h6 := c1.1 (by omega) e he
    rw [Nat.add_sub_cancel] at h6
    exact h6.symm
theorem src_no (hn : n ≤ 4) (hnb : 0 < nb) (hk : k % 2 = 0) (h : ∀ a, a < nb ^ n → ¬ SRC nb need n li p F B k a) : NFb nb need n li p F B k := by
  intro st t hc hp
  obtain ⟨a, h1, -, h2⟩ := src_of hn hnb hk hc hp
  exact h a h1 h2
theorem src_yes {w y : Nat} {st : Nat → Nat} (hn : n ≤ 4) (hnb : 0 < nb) (hk : k % 2 = 0) (hw : w < nb ^ n) (h : SRM nb need n li p F B k w y) (hm : ∀ a, a < w → ¬ SRC nb need n li p F B k a) (hs : ∀ e, e < n → st (k * 4 + e) = digf nb n w e) (hs2 : k + 1 < B → ∀ e, e < n → st ((k + 1) * 4 + e) = digf nb n y e) : FSTb nb need n li p F B st k := by
  have ok1 : FE nb need n li p st k = F k := by
    rw [← h.1]
    exact fe_e hk (fun e he => by rw [rp_a (by omega)]; exact hs e he)
  have ok2 : k + 1 < B → FE nb need n li p st (k + 1) = F (k + 1) := fun hB => by
    rw [← (h.2 hB).2.1]
    exact fe_o hk (fun e he _ => by rw [rp_a (by omega)]; exact hs e he) (fun e he _ => by rw [rp_b]; exact hs2 hB e he)
  have hlim : k + 1 < B → ∀ e, e < n → li e ≠ 0 → digf nb n y e = 0 := fun hB e he hl => Classical.byContradiction (fun hz => by
    obtain ⟨b, b1, b2⟩ := dg_ex (nb := nb) (n := n) hnb (x := fun j => if j = e then 0 else digf nb n y j) (fun j _ => by show (if _ then _ else _) < nb; split; exact hnb; exact dg_lt hnb)
    have hy := h.2 hB
    refine hy.2.2 b (dg_mono hnb b1 hy.1 ⟨e, he, ?_, fun j hj => ?_⟩) ?_
    · rw [b2 e he]; show (if _ then _ else _) < _; rw [if_pos rfl]; omega
    · rw [b2 j (by omega)]; show (if _ then _ else _) = _; rw [if_neg (by omega)]
    · rw [← hy.2.1]
      refine fe_o hk (fun j hj _ => by rw [rp_a (by omega), rp_a (by omega)]) (fun j hj hl2 => ?_)
      rw [rp_b, rp_b, b2 j hj]
      show (if _ then _ else _) = _
      rw [if_neg (fun z => hl (by rw [← z]; exact hl2))])
  have cp0 : cp nb n li k 0 st st := ⟨fun z => by omega, fun e he => rfl, fun e _ he => ⟨fun z => by have := z.1; omega, fun _ => by rw [hs e he]; exact dg_lt hnb⟩⟩
  have cp1 : k + 1 < B → cp nb n li (k + 1) 0 st st := fun hB => ⟨fun _ e _ => rfl, fun e _ => rfl, fun e _ he => ⟨fun z => by rw [hs2 hB e he]; exact hlim hB e he z.2, fun _ => by rw [hs2 hB e he]; exact dg_lt hnb⟩⟩
  refine ⟨⟨cp0, ⟨ok1, fun hB => ⟨st, cp1 hB, ok2 hB⟩⟩, fun t ht hq hx => ?_⟩, fun hB => ⟨cp1 hB, ok2 hB, fun t ht hq hx => ?_⟩⟩
  · obtain ⟨a, a1, a2, a3⟩ := src_of hn hnb hk ht hq
    obtain ⟨e, e1, e2, e3⟩ := hx
    exact hm a (dg_mono hnb a1 hw ⟨e, e1, by rw [a2 e e1, ← hs e e1]; exact e2, fun j hj => by rw [a2 j (by omega), ← hs j (by omega)]; exact e3 j hj⟩) a3
  · have hy := h.2 hB
    obtain ⟨b, b1, b2⟩ := dg_ex (nb := nb) (n := n) hnb (x := fun e => t ((k + 1) * 4 + e)) (fun e he => by
      have h5 := ht.2.2 e (Nat.zero_le _) he
      by_cases hl : (k + 1) % 2 = 1 ∧ li e ≠ 0
      · show t ((k + 1) * 4 + e) < nb
        rw [h5.1 hl]; exact hnb
      · exact h5.2 hl)
    obtain ⟨e, e1, e2, e3⟩ := hx
    refine hy.2.2 b (dg_mono hnb b1 hy.1 ⟨e, e1, by rw [b2 e e1, ← hs2 hB e e1]; exact e2, fun j hj => by rw [b2 j (by omega), ← hs2 hB j (by omega)]; exact e3 j hj⟩) ?_
    have h3 : FE nb need n li p t (k + 1) = F (k + 1) := hq
    rw [← h3]
    refine fe_o hk (fun j hj hl => ?_) (fun j hj _ => by rw [rp_b]; exact b2 j hj)
    rw [rp_a (by omega), ← hs j hj]
    have h6 := ht.1 (by omega) j hj
    rw [Nat.add_sub_cancel] at h6
    exact h6.symm
end SRC
theorem ix_lt {n j k e : Nat} (he : e < n) (h : j < k) : n * j + e < n * k := by
  have h1 : n * (j + 1) ≤ n * k := Nat.mul_le_mul_left n h
  rw [Nat.mul_succ] at h1
  omega
/-- who limps, what each weighs, as they are or whole -/
def liw (g : Nat → Nat) (wh : Nat) : Nat → Nat := if wh = 1 then (fun _ => 0) else lA (gKD g)
def pw (g : Nat → Nat) (wh : Nat) : Nat → Nat := if wh = 1 then gWT g else pA (gKD g) (gWT g)
def fEw (g : Nat → Nat) (wh : Nat) (p : Nat → Nat) (k : Nat) : Nat := FE (g 0) (gND g) (g 37) (liw g wh) (pw g wh) (ps (g 37) p) k
theorem fEw_1 {g p : Nat → Nat} {wh k : Nat} (h : wh = 1) : fE1 g p k = fEw g wh p k := by unfold fEw liw pw; rw [if_pos h, if_pos h]
theorem fEw_0 {g p : Nat → Nat} {wh k : Nat} (h : wh ≠ 1) : fE0 g p k = fEw g wh p k := by unfold fEw liw pw; rw [if_neg h, if_neg h]
theorem fEw_lt {g p : Nat → Nat} {wh k : Nat} (h : g 0 ≤ 4) : fEw g wh p k < 16 := Nat.lt_of_lt_of_le (FE_lt _ _ _ _ _ _ _) (p2_16 h)
abbrev SC (g : Nat → Nat) (wh d k a : Nat) : Prop := SRC (g 0) (gND g) (g 37) (liw g wh) (pw g wh) (gFG g d) (gBT g d) k a
abbrev SM (g : Nat → Nat) (wh d k a b : Nat) : Prop := SRM (g 0) (gND g) (g 37) (liw g wh) (pw g wh) (gFG g d) (gBT g d) k a b
abbrev R1 (g : Nat → Nat) (wh k a b : Nat) (j : Nat) : Nat := FE (g 0) (gND g) (g 37) (liw g wh) (pw g wh) (rp (g 0) (g 37) a b k) j
theorem fEw_a {g p : Nat → Nat} {wh k a b : Nat} (hn : g 37 ≤ 3) (hk : k % 2 = 0) (h : ∀ e, e < g 37 → p (g 37 * k + e) = digf (g 0) (g 37) a e) : fEw g wh p k = R1 g wh k a b k :=
  fe_e hk (fun e he => by rw [ps_at (by omega), rp_a (by omega)]; exact h e he)
theorem fEw_b {g p : Nat → Nat} {wh k a b : Nat} (hn : g 37 ≤ 3) (hk : k % 2 = 0) (h : ∀ e, e < g 37 → p (g 37 * k + e) = digf (g 0) (g 37) a e) (h2 : ∀ e, e < g 37 → p (g 37 * k + g 37 + e) = digf (g 0) (g 37) b e) : fEw g wh p (k + 1) = R1 g wh k a b (k + 1) :=
  fe_o hk (fun e he _ => by rw [ps_at (by omega), rp_a (by omega)]; exact h e he) (fun e he _ => by rw [ps_at (by omega), rp_b, Nat.mul_succ]; exact h2 e he)
theorem R1_b0 {g : Nat → Nat} {wh k a b : Nat} (hn : g 37 ≤ 3) (hk : k % 2 = 0) : R1 g wh k a b k = R1 g wh k a 0 k := fe_e hk (fun e he => by rw [rp_a (by omega), rp_a (by omega)])
/-- the first row found so far: none; this one -/
def FND (g : Nat → Nat) (wh d k i : Nat) (x : Int32) (y : Nat) : Prop := (x = -1 ∧ ∀ a, a < i → ¬ SC g wh d k a) ∨ ∃ w, x = nI w ∧ w < i ∧ w < g 0 ^ g 37 ∧ SM g wh d k w y ∧ ∀ a, a < w → ¬ SC g wh d k a
/-- the second beat's rows gone through so far -/
def FN2 (g : Nat → Nat) (wh d k i j : Nat) (x : Int32) (y : Nat) : Prop := (x = -1 ∧ ∀ b, b < j → R1 g wh k i b (k + 1) ≠ gFG g d (k + 1)) ∨ (x = nI i ∧ y < g 0 ^ g 37 ∧ R1 g wh k i y (k + 1) = gFG g d (k + 1) ∧ ∀ b, b < y → R1 g wh k i b (k + 1) ≠ gFG g d (k + 1))
theorem FND_n {g : Nat → Nat} {wh d k i y : Nat} {x : Int32} (h : x = -1 ∧ ∀ a, a < i → ¬ SC g wh d k a) (hn : R1 g wh k i 0 k ≠ gFG g d k) : FND g wh d k (i + 1) x y := Or.inl ⟨h.1, lt_s h.2 (fun z => hn z.1)⟩
theorem FND_1 {g : Nat → Nat} {wh d k i y : Nat} {x : Int32} (h : x = -1 ∧ ∀ a, a < i → ¬ SC g wh d k a) (hi : i < g 0 ^ g 37) (hy : R1 g wh k i 0 k = gFG g d k) (hB : ¬ k + 1 < gBT g d) : FND g wh d k (i + 1) (nI i) y :=
  Or.inr ⟨i, rfl, by omega, hi, ⟨hy, fun z => absurd z hB⟩, h.2⟩
theorem FND_2 {g : Nat → Nat} {wh d k i j y : Nat} {x x0 : Int32} (h : x0 = -1 ∧ ∀ a, a < i → ¬ SC g wh d k a) (hi : i < g 0 ^ g 37) (hy : R1 g wh k i 0 k = gFG g d k) (hB : k + 1 < gBT g d) (h2 : FN2 g wh d k i j x y) (hj : x = -1 → g 0 ^ g 37 ≤ j) : FND g wh d k (i + 1) x y := by
  rcases h2 with ⟨e, h2⟩ | ⟨e, h2, h3, h4⟩
  · exact Or.inl ⟨e, lt_s h.2 (fun z => by obtain ⟨b, b1, b2⟩ := z.2 hB; exact h2 b (Nat.lt_of_lt_of_le b1 (hj e)) b2)⟩
  · exact Or.inr ⟨i, e, by omega, hi, ⟨hy, fun _ => ⟨h2, h3, h4⟩⟩, h.2⟩
/-- the best rows so far -/
def BS (g bp : Nat → Nat) (wh d k : Nat) : Prop := ∀ j, j % 2 = 0 → j < k → j < gBT g d → ∃ w y, w < g 0 ^ g 37 ∧ SM g wh d j w y ∧ (∀ a, a < w → ¬ SC g wh d j a) ∧ (∀ e, e < g 37 → bp (g 37 * j + e) = digf (g 0) (g 37) w e) ∧ (j + 1 < gBT g d → ∀ e, e < g 37 → bp (g 37 * j + g 37 + e) = digf (g 0) (g 37) y e)
theorem BS_0 {g bp : Nat → Nat} {wh d : Nat} : BS g bp wh d 0 := fun j _ hj => absurd hj (Nat.not_lt_zero _)
theorem BS_s {g bp bp' : Nat → Nat} {wh d k w y : Nat} (hk : k % 2 = 0) (h : BS g bp wh d k) (hq : ∀ q, q < g 37 * k → bp' q = bp q) (hw : w < g 0 ^ g 37) (hm : SM g wh d k w y) (hn : ∀ a, a < w → ¬ SC g wh d k a) (h1 : ∀ e, e < g 37 → bp' (g 37 * k + e) = digf (g 0) (g 37) w e) (h2 : k + 1 < gBT g d → ∀ e, e < g 37 → bp' (g 37 * k + g 37 + e) = digf (g 0) (g 37) y e) : BS g bp' wh d (k + 2) := by
  intro j hj hj2 hB
  by_cases e : j = k
  · subst e; exact ⟨w, y, hw, hm, hn, h1, h2⟩
  · obtain ⟨w', y', a1, a2, a3, a4, a5⟩ := h j hj (by omega) hB
    refine ⟨w', y', a1, a2, a3, fun e' he' => ?_, fun hB' e' he' => ?_⟩
    · rw [hq _ (ix_lt he' (by omega))]; exact a4 e' he'
    · rw [hq _ (by rw [← Nat.mul_succ]; exact ix_lt he' (by omega))]; exact a5 hB' e' he'
theorem BS_Y {g bp : Nat → Nat} {wh d k : Nat} (hg : GL g) (hd : GD g) (h : BS g bp wh d k) (hB : gBT g d ≤ k) : planY (g 0) (gND g) (g 37) (liw g wh) (pw g wh) (gBT g) (gFG g) d (ps (g 37) bp) := by
  intro j hj hj2
  obtain ⟨w, y, a1, a2, a3, a4, a5⟩ := h j hj (by omega) hj2
  have hn := hd.1
  have h2 := hg.1.1
  refine src_yes (by omega) (by omega) hj a1 a2 a3 (fun e he => ?_) (fun hB' e he => ?_)
  · rw [ps_at (by omega)]; exact a4 e he
  · rw [ps_at (by omega), Nat.mul_succ]; exact a5 hB' e he
theorem BS_N {g : Nat → Nat} {wh d k : Nat} (hg : GL g) (hd : GD g) (hk : k % 2 = 0) (hB : k < gBT g d) (h : ∀ a, a < g 0 ^ g 37 → ¬ SC g wh d k a) : planN (g 0) (gND g) (g 37) (liw g wh) (pw g wh) (gBT g) (gFG g) d := by
  have hn := hd.1
  have h2 := hg.1.1
  exact ⟨k, ⟨hk, hB⟩, src_no (by omega) (by omega) hk h⟩
/-- a digit laid, from the last on -/
theorem dig_s {nb n a i z y : Nat} (hi : i = z + 1) (hn : i ≤ n) (hy : y = a / nb ^ (n - i)) : y % nb = digf nb n a z ∧ y / nb = a / nb ^ (n - z) := by
  subst hi
  constructor
  · rw [hy]; unfold digf; rw [show n - 1 - z = n - (z + 1) by omega]
  · rw [hy, Nat.div_div_eq_div_mul, ← Nat.pow_succ, show (n - (z + 1)).succ = n - z by omega]
theorem dig_0 {nb n a : Nat} : a = a / nb ^ (n - n) := by rw [Nat.sub_self, Nat.pow_zero, Nat.div_one]
theorem dg_up {nb n a i z B : Nat} {p : Nat → Nat} {y : Nat} (hi : i = z + 1) (h : ∀ e, i ≤ e → e < n → p (B + e) = digf nb n a e) (hy : y = digf nb n a z) : ∀ e, z ≤ e → e < n → va_up p (B + z) y (B + e) = digf nb n a e := by
  intro e h1 h2
  by_cases hh : e = z
  · subst hh; rw [up_eq]; exact hy
  · rw [up_ne (by omega)]; exact h e (by omega) h2
theorem rows_le {nb n : Nat} (hb : nb ≤ 4) (hn : n ≤ 3) : nb ^ n ≤ 64 := Nat.le_trans (Nat.pow_le_pow_left hb n) (Nat.le_trans (Nat.pow_le_pow_right (by decide) hn) (by decide))
