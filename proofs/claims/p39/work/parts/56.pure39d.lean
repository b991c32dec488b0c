/-! ===== the class's answers in the law's words ===== -/
section ANS
variable {g : Nat → Nat} {v : Nat → Nat → Nat} {c : Nat → Nat → Int32}
theorem al_need (h : AL g v) : ∀ b, b < v 11 0 → v 12 b = gND g b := fun b hb => h.2.2.1 b (by have := h.1; omega)
theorem al_kw (h : AL g v) : ∀ e, e < v 15 0 → v 16 e = gKD g e ∧ v 17 e = gWT g e := fun e he => h.2.2.2.2.2.2 e (by have := h.2.2.2.2.2.1; omega)
theorem al_pl (h : AL g v) : ∀ e, e < v 15 0 → pA (v 16) (v 17) e = pA (gKD g) (gWT g) e ∧ lA (v 16) e = lA (gKD g) e := fun e he => ⟨pA_cg (al_kw h e he).1 (al_kw h e he).2, lA_cg (al_kw h e he).1⟩
theorem al_bt (h : AL g v) : ∀ d, d < v 11 1 → v 13 d = gBT g d := fun d hd => h.2.2.2.1 d (by have := h.2.1; omega)
theorem al_fg (h : AL g v) : ∀ d k, d < v 11 1 → k < v 13 d → xFig v d k = gFG g d k := fun d k hd hk => h.2.2.2.2.1 d k (by have := h.2.1; omega) (by rw [al_bt h d hd] at hk; exact hk)
theorem al_cgf (h : AL g v) : ∀ d, d < v 11 1 → CGf (v 11 0) (v 15 0) (v 13 d) (v 12) (lA (v 16)) (pA (v 16) (v 17)) (xFig v d) (gND g) (lA (gKD g)) (pA (gKD g) (gWT g)) (gFG g d) := fun d hd => ⟨al_need h, al_pl h, fun k hk => al_fg h d k hd hk⟩
theorem al_6 (hI : XI v) : ∀ d, d < v 11 1 → v 13 d ≤ 1000 := fun d hd => by
  obtain ⟨-, -, h, -⟩ := hI
  have := h d hd; omega
theorem al_nd (hI : XI v) : v 11 0 ≤ 1000 ∧ v 11 1 ≤ 1000 ∧ v 15 0 ≤ 4 := by
  obtain ⟨h1, h2, h, -, -, h3, -⟩ := hI
  omega
abbrev PY (g : Nat → Nat) (d : Nat) (st : Nat → Nat) : Prop := planY (g 0) (gND g) (g 37) (lA (gKD g)) (pA (gKD g) (gWT g)) (gBT g) (gFG g) d st
abbrev PN (g : Nat → Nat) (d : Nat) : Prop := planN (g 0) (gND g) (g 37) (lA (gKD g)) (pA (gKD g) (gWT g)) (gBT g) (gFG g) d
abbrev SCan (v : Nat → Nat → Nat) (x r : Int32) : Prop := sp_can (v 11 0) (v 12) (v 15 0) (lA (v 16)) (pA (v 16) (v 17)) (v 11 1) (v 13) (xFig v) x r
abbrev SPlan (v : Nat → Nat → Nat) (x y z r : Int32) : Prop := sp_plan (v 11 0) (v 12) (v 15 0) (lA (v 16)) (pA (v 16) (v 17)) (v 11 1) (v 13) (xFig v) x y z r
theorem can_g {x r r' : Int32} (hI : XI v) (h : AL g v) (q : SCan v x r) (q' : sp_can (g 0) (gND g) (g 37) (lA (gKD g)) (pA (gKD g) (gWT g)) (g 1) (gBT g) (gFG g) x r') : r = r' :=
  d_can (al_nd hI).2.1 h.1 h.2.2.2.2.2.1 h.2.1 (al_bt h) (al_cgf h) q q'
theorem plan_g {x y z r r' : Int32} (hI : XI v) (h : AL g v) (q : SPlan v x y z r) (q' : sp_plan (g 0) (gND g) (g 37) (lA (gKD g)) (pA (gKD g) (gWT g)) (g 1) (gBT g) (gFG g) x y z r') : r = r' :=
  d_plan (al_nd hI).2.1 (by have := (al_nd hI).2.2; omega) h.1 h.2.2.2.2.2.1 h.2.1 (fun d hd => ⟨al_bt h d hd, al_6 hI d hd⟩) (al_cgf h) q q'
theorem can_y {d : Nat} {r : Int32} {st : Nat → Nat} (hI : XI v) (h : AL g v) (hd : d < g 1) (q : SCan v (nI d) r) (hp : PY g d st) : r = nI 1 := can_g hI h q (Or.inl ⟨d, hd, rfl, Or.inl ⟨⟨st, hp⟩, rfl⟩⟩)
theorem can_n {d : Nat} {r : Int32} (hI : XI v) (h : AL g v) (hd : d < g 1) (q : SCan v (nI d) r) (hp : PN g d) : r = nI 0 := can_g hI h q (Or.inl ⟨d, hd, rfl, Or.inr ⟨hp, rfl⟩⟩)
theorem can_x {x r : Int32} (hI : XI v) (h : AL g v) (hd : nR x (g 1)) (q : SCan v x r) : r = -1 := can_g hI h q (Or.inr ⟨hd, rfl⟩)
theorem plan_y {d k e : Nat} {r : Int32} {st : Nat → Nat} (hI : XI v) (h : AL g v) (hd : d < g 1) (hk : k < gBT g d) (he : e < g 37) (q : SPlan v (nI d) (nI k) (nI e) r) (hp : PY g d st) : r = nI (st (k * 4 + e)) := plan_g hI h q (Or.inl ⟨d, k, e, hd, hk, he, rfl, rfl, rfl, Or.inl ⟨st, hp, rfl⟩⟩)
theorem plan_n {d k e : Nat} {r : Int32} (hI : XI v) (h : AL g v) (hd : d < g 1) (hk : k < gBT g d) (he : e < g 37) (q : SPlan v (nI d) (nI k) (nI e) r) (hp : PN g d) : r = -9 := plan_g hI h q (Or.inl ⟨d, k, e, hd, hk, he, rfl, rfl, rfl, Or.inr ⟨hp, rfl⟩⟩)
theorem plan_x {x y z r : Int32} (hI : XI v) (h : AL g v) (hd : ¬ ∃ d j e, d < g 1 ∧ j < gBT g d ∧ e < g 37 ∧ x = nI d ∧ y = nI j ∧ z = nI e) (q : SPlan v x y z r) : r = -1 := plan_g hI h q (Or.inr ⟨hd, rfl⟩)
abbrev SLim (v : Nat → Nat → Nat) (x r : Int32) : Prop := sp_limped (v 11 0) (v 12) (v 15 0) (v 16) (v 17) (v 11 1) (v 13) (xFig v) x r
theorem lim_g {x r r' : Int32} (hI : XI v) (h : AL g v) (q : SLim v x r) (q' : sp_limped (g 0) (gND g) (g 37) (gKD g) (gWT g) (g 1) (gBT g) (gFG g) x r') : r = r' :=
  d_limped (al_nd hI).2.1 h.1 h.2.2.2.2.2.1 h.2.1 (al_need h) (al_kw h) (al_bt h) (al_fg h) q q'
theorem lim_y {d : Nat} {r r' : Int32} {p : Nat → Nat} (hI : XI v) (h : AL g v) (hd : d < g 1) (q : SLim v (nI d) r) (hp : planY (g 0) (gND g) (g 37) (fun _ => 0) (gWT g) (gBT g) (gFG g) d (ps (g 37) p)) (ho : OPD g p (gBT g d) r') : r = r' := lim_g hI h q (Or.inl ⟨d, hd, rfl, Or.inl ⟨_, hp, ho⟩⟩)
theorem lim_n {d : Nat} {r : Int32} (hI : XI v) (h : AL g v) (hd : d < g 1) (q : SLim v (nI d) r) (hp : planN (g 0) (gND g) (g 37) (fun _ => 0) (gWT g) (gBT g) (gFG g) d) : r = -3 := lim_g hI h q (Or.inl ⟨d, hd, rfl, Or.inr ⟨hp, rfl⟩⟩)
theorem lim_x {x r : Int32} (hI : XI v) (h : AL g v) (hd : nR x (g 1)) (q : SLim v x r) : r = -1 := lim_g hI h q (Or.inr ⟨hd, rfl⟩)
theorem od_g {x y r r' : Int32} (hI : XI v) (h : AL g v) (q : sp_ofDancer (v 15 0) (v 16) (v 17) x y r) (q' : sp_ofDancer (g 37) (gKD g) (gWT g) x y r') : r = r' := d_ofDancer (by have := (al_nd hI).2.2; omega) h.2.2.2.2.2.1 (al_kw h) q q'
theorem FND_neg {wh d k i y : Nat} {x : Int32} (hr : g 0 ^ g 37 ≤ 64) (h : FND g wh d k i x y) (hx : x.toInt < 0) : x = -1 ∧ ∀ a, a < i → ¬ SC g wh d k a := by
  rcases h with h | ⟨w, e, h1, h2, -⟩
  · exact h
  · exact absurd hx (by subst e; rw [n_tI (by omega)]; omega)
theorem FND_pos {wh d k i y x : Nat} (hr : g 0 ^ g 37 ≤ 64) (hb : x < 2147483648) (h : FND g wh d k i (nI x) y) : x < g 0 ^ g 37 ∧ SM g wh d k x y ∧ ∀ a, a < x → ¬ SC g wh d k a := by
  rcases h with ⟨h, -⟩ | ⟨w, e, h1, h2, h3⟩
  · exact absurd h (n_neg hb (by decide))
  · have := (n_inj hb (by omega)).mp e; subst this
    exact ⟨h2, h3⟩
theorem FN2_neg {wh d k i j y : Nat} {x : Int32} (hi : i < 2147483648) (h : FN2 g wh d k i j x y) (hx : x.toInt < 0) : x = -1 ∧ ∀ b, b < j → R1 g wh k i b (k + 1) ≠ gFG g d (k + 1) := by
  rcases h with h | ⟨e, -⟩
  · exact h
  · exact absurd hx (by subst e; rw [n_tI hi]; omega)
theorem m1_neg {x : Nat} (h : nI x = -1) (hb : x < 2147483648) : False := absurd h (n_neg hb (by decide))
end ANS
