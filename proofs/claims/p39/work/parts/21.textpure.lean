/-! ===== the text ===== -/
abbrev pS : Type := Nat × (Nat → Nat) × (Nat → Nat)
/-- one code more behind the boards: doors, beats, figures -/
def PG (nb : Nat) (x : Int32) (S S' : pS) : Prop :=
  (x = nI 59 ∧ S.1 < 4 ∧ S' = (S.1 + 1, va_up S.2.1 S.1 1, va_up S.2.2 (S.1 * 6) 0)) ∨
  (x = nI 44 ∧ 0 < S.1 ∧ S.2.1 (S.1 - 1) < 6 ∧ S' = (S.1, va_up S.2.1 (S.1 - 1) (S.2.1 (S.1 - 1) + 1), va_up S.2.2 ((S.1 - 1) * 6 + S.2.1 (S.1 - 1)) 0)) ∨
  ∃ j, j < nb ∧ x = nI (48 + j) ∧ 0 < S.1 ∧ S.2.2 ((S.1 - 1) * 6 + S.2.1 (S.1 - 1) - 1) / 2 ^ j = 0 ∧ pc (S.2.2 ((S.1 - 1) * 6 + S.2.1 (S.1 - 1) - 1)) < 4 ∧
    S' = (S.1, S.2.1, va_up S.2.2 ((S.1 - 1) * 6 + S.2.1 (S.1 - 1) - 1) (S.2.2 ((S.1 - 1) * 6 + S.2.1 (S.1 - 1) - 1) ||| 2 ^ j))
def S0 : pS := (0, fun _ => 0, fun _ => 0)
def RS (nb : Nat) (cs : Nat → Int32) (f : Nat) : Nat → pS → Prop
  | 0, S => S = S0
  | k + 1, S' => ∃ S, RS nb cs f k S ∧ PG nb (cs (f + k)) S S'
theorem n48 {a b : Nat} (ha : a < 1000) (hb : b < 1000) : nI (48 + a) = nI (48 + b) ↔ a = b := by rw [n_inj (by omega) (by omega)]; omega
theorem PG_one {nb : Nat} {x : Int32} {S S1 S2 : pS} (hn : nb ≤ 7) (h1 : PG nb x S S1) (h2 : PG nb x S S2) : S1 = S2 := by
  have a1 : ∀ j, j < nb → ¬ nI 59 = nI (48 + j) := fun j hj e => by have := (n_inj (by decide) (by omega)).mp e; omega
  have a2 : ∀ j, j < nb → ¬ nI 44 = nI (48 + j) := fun j hj e => by have := (n_inj (by decide) (by omega)).mp e; omega
  have a3 : ¬ nI 59 = nI 44 := by decide
  rcases h1 with ⟨e1, -, r1⟩ | ⟨e1, -, -, r1⟩ | ⟨j, hj, e1, -, -, -, r1⟩ <;> rcases h2 with ⟨e2, -, r2⟩ | ⟨e2, -, -, r2⟩ | ⟨i, hi, e2, -, -, -, r2⟩
  · rw [r1, r2]
  · exact absurd (e1.symm.trans e2) a3
  · exact absurd (e1.symm.trans e2) (a1 i hi)
  · exact absurd (e2.symm.trans e1) a3
  · rw [r1, r2]
  · exact absurd (e1.symm.trans e2) (a2 i hi)
  · exact absurd (e2.symm.trans e1) (a1 j hj)
  · exact absurd (e2.symm.trans e1) (a2 j hj)
  · have : j = i := (n48 (by omega) (by omega)).mp (e1.symm.trans e2)
    subst this
    rw [r1, r2]
theorem RS_one {nb : Nat} {cs : Nat → Int32} {f : Nat} (hn : nb ≤ 7) : ∀ {k : Nat} {S S' : pS}, RS nb cs f k S → RS nb cs f k S' → S = S' := by
  intro k
  induction k with
  | zero => intro S S' h h'; exact Eq.trans h (Eq.symm h')
  | succ k ih =>
    intro S S' h h'
    obtain ⟨T, h1, h2⟩ := h
    obtain ⟨T', h3, h4⟩ := h'
    have := ih h1 h3
    subst this
    exact PG_one hn h2 h4
theorem RS_le {nb : Nat} {cs : Nat → Int32} {f : Nat} : ∀ {m k : Nat} {S : pS}, RS nb cs f (k + m) S → ∃ T, RS nb cs f k T := by
  intro m
  induction m with
  | zero => intro k S h; exact ⟨S, h⟩
  | succ m ih => intro k S h; obtain ⟨T, h1, -⟩ := h; exact ih h1
def HDt (cs : Nat → Int32) (n nb : Nat) : Prop := 2 ≤ n ∧ cs 0 = nI 108 ∧ 2 ≤ nb ∧ nb ≤ 7 ∧ cs 1 = nI (48 + nb)
def DGt (cs : Nat → Int32) (n q : Nat) : Prop := q < n ∧ ∃ w, 1 ≤ w ∧ w ≤ 9 ∧ cs q = nI (48 + w)
def FLT (cs : Nat → Int32) (n q : Nat) : Prop :=
  (q = 0 ∧ (n < 1 ∨ cs 0 ≠ nI 108)) ∨ (q = 1 ∧ 1 ≤ n ∧ cs 0 = nI 108 ∧ (n < 2 ∨ ¬ ∃ b, 2 ≤ b ∧ b ≤ 7 ∧ cs 1 = nI (48 + b))) ∨
  (∃ nb, HDt cs n nb ∧ ∃ b, b < nb ∧ q = 2 + b ∧ (∀ e, e < b → DGt cs n (2 + e)) ∧ ¬ DGt cs n (2 + b)) ∨
  ∃ nb, HDt cs n nb ∧ (∀ e, e < nb → DGt cs n (2 + e)) ∧ ∃ k S, q = 2 + nb + k ∧ RS nb cs (2 + nb) k S ∧ ((q < n ∧ ∀ S', ¬ PG nb (cs q) S S') ∨ (q = n ∧ S.1 = 0))
def TKN (cs : Nat → Int32) (n nb : Nat) (need : Nat → Nat) (S : pS) : Prop :=
  HDt cs n nb ∧ (∀ e, e < nb → 2 + e < n ∧ 1 ≤ need e ∧ need e ≤ 9 ∧ cs (2 + e) = nI (48 + need e)) ∧ 2 + nb ≤ n ∧ RS nb cs (2 + nb) (n - (2 + nb)) S ∧ 0 < S.1
theorem HDt_one {cs : Nat → Int32} {n nb nb' : Nat} (h : HDt cs n nb) (h' : HDt cs n nb') : nb = nb' := by
  obtain ⟨-, -, a1, a2, a3⟩ := h
  obtain ⟨-, -, b1, b2, b3⟩ := h'
  exact (n48 (by omega) (by omega)).mp (a3.symm.trans b3)
theorem TKN_DG {cs : Nat → Int32} {n nb : Nat} {need : Nat → Nat} {S : pS} (h : TKN cs n nb need S) : ∀ e, e < nb → DGt cs n (2 + e) := fun e he => by
  obtain ⟨h1, h2, h3, h4⟩ := h.2.1 e he
  exact ⟨h1, need e, h2, h3, h4⟩
/-- the first fault is one; where there is one, the text isn't taken -/
theorem FLT_TKN {cs : Nat → Int32} {n q nb : Nat} {need : Nat → Nat} {S : pS} (h : FLT cs n q) (h' : TKN cs n nb need S) : False := by
  obtain ⟨k1, k2, k3, k4, k5⟩ := id h'
  have kd := TKN_DG h'
  rcases h with ⟨-, h⟩ | ⟨-, -, -, h⟩ | ⟨nb', h1, b, h2, -, -, h3⟩ | ⟨nb', h1, h2, k, T, h3, h4, h5⟩
  · rcases h with h | h
    · have := k1.1; omega
    · exact h k1.2.1
  · rcases h with h | h
    · have := k1.1; omega
    · exact h ⟨nb, k1.2.2.1, k1.2.2.2.1, k1.2.2.2.2⟩
  · have := HDt_one h1 k1
    subst this
    exact h3 (kd b h2)
  · have := HDt_one h1 k1
    subst this
    rcases h5 with ⟨h5, h6⟩ | ⟨h5, h6⟩
    · obtain ⟨T1, g1⟩ := RS_le (m := n - (2 + nb') - (k + 1)) (k := k + 1) (by rw [show k + 1 + (n - (2 + nb') - (k + 1)) = n - (2 + nb') by omega]; exact k4)
      obtain ⟨T2, g2, g3⟩ := g1
      have := RS_one k1.2.2.2.1 h4 g2
      subst this
      rw [← h3] at g3
      exact h6 _ g3
    · have e : k = n - (2 + nb') := by omega
      subst e
      have := RS_one k1.2.2.2.1 h4 k4
      subst this
      omega
theorem TKN_one {cs : Nat → Int32} {n nb nb' : Nat} {need need' : Nat → Nat} {S S' : pS} (h : TKN cs n nb need S) (h' : TKN cs n nb' need' S') : nb = nb' ∧ (∀ e, e < nb → need e = need' e) ∧ S = S' := by
  obtain ⟨a1, a2, a3, a4, a5⟩ := h
  obtain ⟨b1, b2, b3, b4, b5⟩ := h'
  have e := HDt_one a1 b1
  subst e
  refine ⟨rfl, fun e he => ?_, RS_one a1.2.2.2.1 a4 b4⟩
  have g1 := a2 e he
  have g2 := b2 e he
  exact (n48 (by omega) (by omega)).mp (g1.2.2.2.symm.trans g2.2.2.2)
theorem FLT_one {cs : Nat → Int32} {n q q' : Nat} (h : FLT cs n q) (h' : FLT cs n q') : q = q' := by
  rcases h with ⟨e1, h⟩ | ⟨e1, h0, h1, h⟩ | ⟨nb, h1, b, h2, e1, h3, h4⟩ | ⟨nb, h1, h2, k, T, e1, h4, h5⟩ <;>
  rcases h' with ⟨e1', g⟩ | ⟨e1', g0, g1, g⟩ | ⟨nb', g1, b', g2, e1', g3, g4⟩ | ⟨nb', g1, g2, k', T', e1', g4, g5⟩
  · omega
  · exact (h.elim (fun z => by omega) (fun z => z g1)).elim
  · exact (h.elim (fun z => by have := g1.1; omega) (fun z => z g1.2.1)).elim
  · exact (h.elim (fun z => by have := g1.1; omega) (fun z => z g1.2.1)).elim
  · exact (g.elim (fun z => by omega) (fun z => z h1)).elim
  · omega
  · exact (h.elim (fun z => by have := g1.1; omega) (fun z => z ⟨nb', g1.2.2.1, g1.2.2.2.1, g1.2.2.2.2⟩)).elim
  · exact (h.elim (fun z => by have := g1.1; omega) (fun z => z ⟨nb', g1.2.2.1, g1.2.2.2.1, g1.2.2.2.2⟩)).elim
  · exact (g.elim (fun z => by have := h1.1; omega) (fun z => z h1.2.1)).elim
  · exact (g.elim (fun z => by have := h1.1; omega) (fun z => z ⟨nb, h1.2.2.1, h1.2.2.2.1, h1.2.2.2.2⟩)).elim
  · rcases Nat.lt_trichotomy b b' with z | z | z
    · exact absurd (g3 b z) h4
    · omega
    · exact absurd (h3 b' z) g4
  · have := HDt_one h1 g1
    subst this
    exact absurd (g2 b h2) h4
  · exact (g.elim (fun z => by have := h1.1; omega) (fun z => z h1.2.1)).elim
  · exact (g.elim (fun z => by have := h1.1; omega) (fun z => z ⟨nb, h1.2.2.1, h1.2.2.2.1, h1.2.2.2.2⟩)).elim
  · have := HDt_one h1 g1
    subst this
    exact absurd (h2 b' g2) g4
  · have := HDt_one h1 g1
    subst this
    have key : ∀ {k k' : Nat} {T T' : pS}, RS nb cs (2 + nb) k T → RS nb cs (2 + nb) k' T' → (2 + nb + k < n → ∀ S', ¬ PG nb (cs (2 + nb + k)) T S') → k' ≤ n - (2 + nb) → 2 + nb + k < n → k < k' → False := by
      intro k k' T T' r1 r2 st hk' hk hlt
      obtain ⟨T1, T2, g1, g2⟩ := RS_le (m := k' - (k + 1)) (k := k + 1) (by rw [show k + 1 + (k' - (k + 1)) = k' by omega]; exact r2)
      have := RS_one h1.2.2.2.1 r1 g1
      subst this
      exact st hk _ g2
    rcases Nat.lt_trichotomy k k' with z | z | z
    · exfalso
      rcases h5 with ⟨h5, h6⟩ | ⟨h5, h6⟩
      · exact key h4 g4 (fun _ => by rw [← e1]; exact h6) (by rcases g5 with g5 | g5 <;> omega) (by omega) z
      · rcases g5 with g5 | g5 <;> omega
    · omega
    · exfalso
      rcases g5 with ⟨g5, g6⟩ | ⟨g5, g6⟩
      · exact key g4 h4 (fun _ => by rw [← e1']; exact g6) (by rcases h5 with h5 | h5 <;> omega) (by omega) z
      · rcases h5 with h5 | h5 <;> omega
/-- a draft holds a state -/
def AGR (S : pS) (nd : Nat) (bt fg : Nat → Nat) : Prop := S.1 = nd ∧ (∀ d, d < nd → S.2.1 d = bt d) ∧ ∀ d k, d < nd → k < bt d → S.2.2 (d * 6 + k) = fg (d * 6 + k)
def DIb (nb nd : Nat) (bt fg : Nat → Nat) : Prop := nd ≤ 4 ∧ (∀ d, d < nd → 1 ≤ bt d ∧ bt d ≤ 6) ∧ ∀ d k, d < nd → k < bt d → fg (d * 6 + k) < 2 ^ nb
theorem dig_ex {x : Int32} {a b : Nat} (hb : b < 100) (h1 : (48 + a : Int) ≤ x.toInt) (h2 : x.toInt ≤ 48 + b) : ∃ w, a ≤ w ∧ w ≤ b ∧ x = nI (48 + w) := by
  refine ⟨x.toInt.toNat - 48, by omega, by omega, i_eq.mpr ?_⟩
  rw [n_tI (by omega)]
  omega
theorem dig_no {x : Int32} {a b : Nat} (hb : b < 100) (h : x.toInt < 48 + a ∨ (48 + b : Int) < x.toInt) : ¬ ∃ w, a ≤ w ∧ w ≤ b ∧ x = nI (48 + w) := by
  rintro ⟨w, h1, h2, rfl⟩
  rw [n_tI (by omega)] at h
  omega
/-- a door more -/
theorem AGR_door {S : pS} {nd : Nat} {bt fg : Nat → Nat} (h : AGR S nd bt fg) : AGR (S.1 + 1, va_up S.2.1 S.1 1, va_up S.2.2 (S.1 * 6) 0) (nd + 1) (va_up (va_up bt nd 0) nd (0 + 1)) (va_up fg (nd * 6 + 0) 0) := by
  obtain ⟨rfl, h2, h3⟩ := h
  refine ⟨rfl, fun d hd => ?_, fun d k hd hk => ?_⟩
  · by_cases e : d = S.1
    · subst e; show va_up _ _ _ _ = va_up _ _ _ _; rw [up_eq, up_eq]
    · show va_up _ _ _ _ = va_up _ _ _ _; rw [up_ne e, up_ne e, up_ne e]; exact h2 d (by omega)
  · by_cases e : d = S.1
    · subst e
      rw [up_eq] at hk
      have : k = 0 := by omega
      subst this
      show va_up _ _ _ _ = va_up _ _ _ _; rw [up_eq]; rw [show S.1 * 6 + 0 = S.1 * 6 by omega, up_eq]
    · rw [up_ne e, up_ne e] at hk
      show va_up _ _ _ _ = va_up _ _ _ _
      by_cases e2 : d * 6 + k = S.1 * 6
      · rw [e2, up_eq, show S.1 * 6 = S.1 * 6 + 0 by omega, up_eq]
      · rw [up_ne e2, up_ne (by omega)]; exact h3 d k (by omega) hk
theorem DIb_door {nb nd : Nat} {bt fg : Nat → Nat} (h : DIb nb nd bt fg) (hn : nd < 4) : DIb nb (nd + 1) (va_up (va_up bt nd 0) nd (0 + 1)) (va_up fg (nd * 6 + 0) 0) := by
  obtain ⟨h1, h2, h3⟩ := h
  refine ⟨by omega, fun d hd => ?_, fun d k hd hk => ?_⟩
  · by_cases e : d = nd
    · subst e; rw [up_eq]; omega
    · rw [up_ne e, up_ne e]; exact h2 d (by omega)
  · by_cases e : d = nd
    · subst e
      rw [up_eq] at hk
      have : k = 0 := by omega
      subst this
      rw [up_eq]; exact Nat.two_pow_pos _
    · rw [up_ne e, up_ne e] at hk
      have := h2 d (by omega)
      rw [up_ne (by omega)]; exact h3 d k (by omega) hk
theorem AGR_beat {S : pS} {nd : Nat} {bt fg : Nat → Nat} (hd0 : 0 < nd) (h6 : ∀ d, d < nd → bt d ≤ 6) (h : AGR S nd bt fg) (hb : bt (nd - 1) < 6) : AGR (S.1, va_up S.2.1 (S.1 - 1) (S.2.1 (S.1 - 1) + 1), va_up S.2.2 ((S.1 - 1) * 6 + S.2.1 (S.1 - 1)) 0) nd (va_up bt (nd - 1) (bt (nd - 1) + 1)) (va_up fg ((nd - 1) * 6 + bt (nd - 1)) 0) := by
  obtain ⟨rfl, h2, h3⟩ := h
  have hl := h2 (S.1 - 1) (by omega)
  refine ⟨rfl, fun d hd => ?_, fun d k hd hk => ?_⟩
  · by_cases e : d = S.1 - 1
    · subst e; show va_up _ _ _ _ = _; rw [up_eq, up_eq, hl]
    · show va_up _ _ _ _ = _; rw [up_ne e, up_ne e]; exact h2 d hd
  · show va_up _ _ _ _ = _
    rw [hl]
    by_cases e2 : d * 6 + k = (S.1 - 1) * 6 + bt (S.1 - 1)
    · rw [e2, up_eq, up_eq]
    · rw [up_ne e2, up_ne e2]
      by_cases e : d = S.1 - 1
      · subst e; rw [up_eq] at hk; exact h3 _ k hd (by omega)
      · rw [up_ne e] at hk; exact h3 d k hd hk
theorem DIb_beat {nb nd : Nat} {bt fg : Nat → Nat} (hd0 : 0 < nd) (h : DIb nb nd bt fg) (hb : bt (nd - 1) < 6) : DIb nb nd (va_up bt (nd - 1) (bt (nd - 1) + 1)) (va_up fg ((nd - 1) * 6 + bt (nd - 1)) 0) := by
  obtain ⟨h1, h2, h3⟩ := h
  refine ⟨h1, fun d hd => ?_, fun d k hd hk => ?_⟩
  · by_cases e : d = nd - 1
    · subst e; rw [up_eq]; omega
    · rw [up_ne e]; exact h2 d hd
  · by_cases e2 : d * 6 + k = (nd - 1) * 6 + bt (nd - 1)
    · rw [e2, up_eq]; exact Nat.two_pow_pos _
    · rw [up_ne e2]
      by_cases e : d = nd - 1
      · subst e; rw [up_eq] at hk; exact h3 _ k hd (by omega)
      · rw [up_ne e] at hk; exact h3 d k hd hk
theorem AGR_rise {S : pS} {nd x : Nat} {bt fg : Nat → Nat} (hd0 : 0 < nd) (h1 : ∀ d, d < nd → 1 ≤ bt d) (h : AGR S nd bt fg) : S.2.2 ((S.1 - 1) * 6 + S.2.1 (S.1 - 1) - 1) = fg ((nd - 1) * 6 + bt (nd - 1) - 1) ∧ AGR (S.1, S.2.1, va_up S.2.2 ((S.1 - 1) * 6 + S.2.1 (S.1 - 1) - 1) x) nd bt (va_up fg ((nd - 1) * 6 + bt (nd - 1) - 1) x) := by
  obtain ⟨rfl, h2, h3⟩ := h
  have hl := h2 (S.1 - 1) (by omega)
  have h4 := h1 (S.1 - 1) (by omega)
  rw [hl]
  have h5 := h3 (S.1 - 1) (bt (S.1 - 1) - 1) (by omega) (by omega)
  rw [show (S.1 - 1) * 6 + (bt (S.1 - 1) - 1) = (S.1 - 1) * 6 + bt (S.1 - 1) - 1 by omega] at h5
  refine ⟨h5, rfl, h2, fun d k hd hk => ?_⟩
  show va_up _ _ _ _ = _
  by_cases e2 : d * 6 + k = (S.1 - 1) * 6 + bt (S.1 - 1) - 1
  · rw [e2, up_eq, up_eq]
  · rw [up_ne e2, up_ne e2]; exact h3 d k hd hk
theorem DIb_rise {nb nd j : Nat} {bt fg : Nat → Nat} (h : DIb nb nd bt fg) (hd0 : 0 < nd) (hj : j < nb) : DIb nb nd bt (va_up fg ((nd - 1) * 6 + bt (nd - 1) - 1) (fg ((nd - 1) * 6 + bt (nd - 1) - 1) ||| 1 * 2 ^ j)) := by
  obtain ⟨h1, h2, h3⟩ := h
  refine ⟨h1, h2, fun d k hd hk => ?_⟩
  have h4 := h2 (nd - 1) (by omega)
  have h5 := h3 (nd - 1) (bt (nd - 1) - 1) (by omega) (by omega)
  rw [show (nd - 1) * 6 + (bt (nd - 1) - 1) = (nd - 1) * 6 + bt (nd - 1) - 1 by omega] at h5
  by_cases e2 : d * 6 + k = (nd - 1) * 6 + bt (nd - 1) - 1
  · rw [e2, up_eq]
    exact Nat.or_lt_two_pow h5 (by rw [Nat.one_mul]; exact Nat.pow_lt_pow_right (by decide) hj)
  · rw [up_ne e2]; exact h3 d k hd hk
theorem rs_s {nb : Nat} {cs : Nat → Int32} {fi i : Nat} {S S' : pS} (h : RS nb cs fi (i - fi) S) (hi : fi ≤ i) (hp : PG nb (cs i) S S') : RS nb cs fi (i + 1 - fi) S' := by
  rw [show i + 1 - fi = (i - fi) + 1 by omega]
  exact ⟨S, h, by rw [show fi + (i - fi) = i by omega]; exact hp⟩
theorem g_cases (x : Int32) : x = nI 44 ∨ x = nI 59 ∨ (¬ x = nI 44 ∧ ¬ x = nI 59) := by
  by_cases h0 : x = nI 44
  · exact Or.inl h0
  · by_cases h1 : x = nI 59
    · exact Or.inr (Or.inl h1)
    · exact Or.inr (Or.inr ⟨h0, h1⟩)
theorem sub48 {x : Int32} {j : Nat} : x - nI 48 = nI j ↔ x = nI (48 + j) := by
  constructor
  · intro h
    have := congrArg (fun z => z + nI 48) h
    rw [show nI (48 + j) = nI j + nI 48 from by rw [nI_add, Nat.add_comm], ← this]
    simp [Int32.sub_add_cancel]
  · intro h; rw [h, show nI (48 + j) = nI j + nI 48 from by rw [nI_add, Nat.add_comm]]; simp [Int32.add_sub_cancel]
/-- with no door yet there is no going on but by a door -/
theorem stuck0 {nb : Nat} {x : Int32} {S : pS} (h0 : S.1 = 0) (hx : x ≠ nI 59) : ∀ S', ¬ PG nb x S S' := by
  intro S' h
  rcases h with h | h | ⟨j, h⟩
  · exact hx h.1
  · have := h.2.1; omega
  · have := h.2.2.1; omega
theorem stuck1 {nb nd : Nat} {bt fg : Nat → Nat} {x : Int32} {S : pS} (hn : nb ≤ 7) (hd0 : 0 < nd) (h1 : ∀ d, d < nd → 1 ≤ bt d) (ha : AGR S nd bt fg) (h : (x = nI 59 ∧ 4 ≤ nd) ∨ (x = nI 44 ∧ 6 ≤ bt (nd - 1)) ∨ (x ≠ nI 59 ∧ x ≠ nI 44 ∧ ∀ j, j < nb → x = nI (48 + j) → (fg ((nd - 1) * 6 + bt (nd - 1) - 1) / 2 ^ j ≠ 0 ∨ 4 ≤ pc (fg ((nd - 1) * 6 + bt (nd - 1) - 1))))) : ∀ S', ¬ PG nb x S S' := by
  intro S' hp
  have hr := (AGR_rise (x := 0) hd0 h1 ha).1
  obtain ⟨e1, e2, -⟩ := ha
  have a1 : ∀ j, j < nb → ¬ nI 59 = nI (48 + j) := fun j hj e => by have := (n_inj (by decide) (by omega)).mp e; omega
  have a2 : ∀ j, j < nb → ¬ nI 44 = nI (48 + j) := fun j hj e => by have := (n_inj (by decide) (by omega)).mp e; omega
  have a3 : ¬ nI 59 = nI 44 := by decide
  rcases hp with ⟨g1, g2, -⟩ | ⟨g1, g2, g3, -⟩ | ⟨j, hj, g1, g2, g3, g4, -⟩
  · rcases h with h | h | h
    · omega
    · exact a3 (g1.symm.trans h.1)
    · exact h.1 g1
  · rw [e1, e2 _ (by omega)] at g3
    rcases h with h | h | h
    · exact a3 (h.1.symm.trans g1)
    · omega
    · exact h.2.1 g1
  · rw [hr] at g3 g4
    rcases h with h | h | h
    · exact a1 j hj (h.1.symm.trans g1)
    · exact a2 j hj (h.1.symm.trans g1)
    · rcases h.2.2 j hj g1 with h | h
      · exact h g3
      · omega
theorem u789 {v : Nat → Nat → Nat} {X : Nat → Nat} {c : Nat → Nat → Int32} : (va_up v 6 X, c) = (va_up (va_up (va_up (va_up v 6 X) 7 (v 7)) 8 (v 8)) 9 (v 9), c) := by
  congr 1
  funext j
  by_cases h9 : j = 9
  · subst h9; simp [va_up]
  · by_cases h8 : j = 8
    · subst h8; simp [va_up]
    · by_cases h7 : j = 7
      · subst h7; simp [va_up]
      · simp [va_up, h7, h8, h9]
theorem u89 {v : Nat → Nat → Nat} {X g : Nat → Nat} {c : Nat → Nat → Int32} : (va_up (va_up v 6 X) 7 g, c) = (va_up (va_up (va_up (va_up v 6 X) 7 g) 8 (v 8)) 9 (v 9), c) := by
  congr 1
  funext j
  by_cases h9 : j = 9
  · subst h9; simp [va_up]
  · by_cases h8 : j = 8
    · subst h8; simp [va_up]
    · simp [va_up, h8, h9]
theorem nd_s {g : Nat → Nat} {cs : Nat → Int32} {n nn w : Nat} (h : ∀ b, b < n → 2 + b < nn ∧ 1 ≤ g b ∧ g b ≤ 9 ∧ cs (2 + b) = nI (48 + g b)) (h1 : 2 + n < nn) (h2 : 1 ≤ w) (h3 : w ≤ 9) (hc : cs (2 + n) = nI (48 + w)) : ∀ b, b < n + 1 → 2 + b < nn ∧ 1 ≤ va_up g n w b ∧ va_up g n w b ≤ 9 ∧ cs (2 + b) = nI (48 + va_up g n w b) := by
  intro b hb
  by_cases e : b = n
  · subst e; rw [up_eq]; exact ⟨h1, h2, h3, hc⟩
  · rw [up_ne e]; exact h b (by omega)
theorem b6_s {g : Nat → Nat} {n : Nat} (h : ∀ e, e < n → g e ≤ 6) : ∀ e, e < n + 1 → va_up g n 0 e ≤ 6 := by
  intro e he
  by_cases z : e = n
  · subst z; rw [up_eq]; omega
  · rw [up_ne z]; exact h e (by omega)
theorem rs_rise {nb nd fi i j : Nat} {cs : Nat → Int32} {S : pS} {bt fg : Nat → Nat} (h1 : RS nb cs fi (i - fi) S) (hi : fi ≤ i) (h2 : AGR S nd bt fg) (hp0 : 0 < nd) (k2 : DIb nb nd bt fg) (hj : j < nb) (hx : cs i = nI (48 + j)) (g1 : fg ((nd - 1) * 6 + bt (nd - 1) - 1) / 2 ^ j = 0) (g2 : pc (fg ((nd - 1) * 6 + bt (nd - 1) - 1)) < 4) :
    ∃ S', RS nb cs fi (i + 1 - fi) S' ∧ AGR S' nd bt (va_up fg ((nd - 1) * 6 + bt (nd - 1) - 1) (fg ((nd - 1) * 6 + bt (nd - 1) - 1) ||| 1 * 2 ^ j)) := by
  obtain ⟨e, a⟩ := AGR_rise (x := fg ((nd - 1) * 6 + bt (nd - 1) - 1) ||| 2 ^ j) hp0 (fun d hd => (k2.2.1 d hd).1) h2
  refine ⟨_, rs_s h1 hi (Or.inr (Or.inr ⟨j, hj, hx, by rw [h2.1]; exact hp0, by rw [e]; exact g1, by rw [e]; exact g2, rfl⟩)), ?_⟩
  rw [e, Nat.one_mul]
  exact a
