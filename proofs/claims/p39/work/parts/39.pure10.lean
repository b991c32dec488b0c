/-! ===== the model's reading of a text ===== -/
theorem up_eqA {α : Type} {f : Nat → α} {i : Nat} {x : α} : va_up f i x i = x := by simp [va_up]
theorem up_up {f : Nat → Nat} {i x y : Nat} : va_up (va_up f i x) i y = va_up f i y := by
  funext j
  by_cases h : j = i
  · subst h; simp [va_up]
  · simp [va_up, h]
/-- digits of a beat, one after the other -/
def DR (nb : Nat) (cs : Nat → Int32) (f : Nat) : Nat → Nat → Prop
  | 0, z => z = 0
  | k + 1, w => ∃ z j, DR nb cs f k z ∧ j < nb ∧ cs (f + k) = nI (48 + j) ∧ z / 2 ^ j = 0 ∧ pc z < 4 ∧ w = z ||| 2 ^ j
/-- no digit goes on -/
def SKd (nb : Nat) (cs : Nat → Int32) (en q z : Nat) : Prop := ¬ (q < en ∧ ∃ j, j < nb ∧ cs q = nI (48 + j) ∧ z / 2 ^ j = 0 ∧ pc z < 4)
/-- nothing but a door goes on -/
def STK (nb : Nat) (cs : Nat → Int32) (en q : Nat) (S : pS) : Prop := q < en → ∀ S', PG nb (cs q) S S' → cs q = nI 59
theorem DR_lt {nb : Nat} {cs : Nat → Int32} {f : Nat} : ∀ k z, DR nb cs f k z → z < 2 ^ nb := by
  intro k
  induction k with
  | zero => intro z h; have h : z = 0 := h; subst h; exact Nat.two_pow_pos nb
  | succ k ih =>
    rintro w ⟨z, j, h1, h2, -, -, -, rfl⟩
    exact Nat.or_lt_two_pow (ih z h1) (Nat.pow_lt_pow_right (by decide) h2)
theorem DR_RS {nb : Nat} {cs : Nat → Int32} {f i pos : Nat} {S : pS} (hS : RS nb cs f i S) (h0 : 0 < S.1) (hp : pos = (S.1 - 1) * 6 + S.2.1 (S.1 - 1) - 1) (hz : S.2.2 pos = 0) : ∀ k z, DR nb cs (f + i) k z → RS nb cs f (i + k) (S.1, S.2.1, va_up S.2.2 pos z) := by
  intro k
  induction k with
  | zero =>
    intro z h
    have h : z = 0 := h
    subst h
    have e : va_up S.2.2 pos 0 = S.2.2 := by
      have e1 := up_self S.2.2 pos
      rw [hz] at e1
      exact e1
    rw [e]
    exact hS
  | succ k ih =>
    rintro w ⟨z, j, h1, h2, h3, h4, h5, rfl⟩
    refine ⟨_, ih z h1, Or.inr (Or.inr ⟨j, h2, (congrArg cs (Nat.add_assoc f i k).symm).trans h3, h0, ?_, ?_, ?_⟩)⟩
    · show va_up S.2.2 pos z ((S.1 - 1) * 6 + S.2.1 (S.1 - 1) - 1) / 2 ^ j = 0
      rw [← hp, up_eq]; exact h4
    · show pc (va_up S.2.2 pos z ((S.1 - 1) * 6 + S.2.1 (S.1 - 1) - 1)) < 4
      rw [← hp, up_eq]; exact h5
    · show (S.1, S.2.1, va_up S.2.2 pos (z ||| 2 ^ j)) = (S.1, S.2.1, va_up (va_up S.2.2 pos z) ((S.1 - 1) * 6 + S.2.1 (S.1 - 1) - 1) (va_up S.2.2 pos z ((S.1 - 1) * 6 + S.2.1 (S.1 - 1) - 1) ||| 2 ^ j))
      rw [← hp, up_eq, up_up]
theorem pc_or : ∀ j, j < 7 → ∀ z, z < 64 → z < 2 ^ j → pc (z ||| 2 ^ j) = pc z + 1 := by decide +kernel
theorem lt_div0 {z j : Nat} (h : z < 2 ^ j) : z / 2 ^ j = 0 := Nat.div_eq_of_lt h
theorem div0_lt {z j : Nat} (h : z / 2 ^ j = 0) : z < 2 ^ j := by
  rcases Nat.lt_or_ge z (2 ^ j) with h1 | h1
  · exact h1
  · have := Nat.div_pos h1 (Nat.two_pow_pos j); omega
theorem or_ge {z y : Nat} : y ≤ z ||| y := Nat.right_le_or
theorem rb_s {nb : Nat} {cs : Nat → Int32} {f k z le j : Nat} (h7 : nb ≤ 7) (h : DR nb cs f k z) (hz : z < 2 ^ le) (hp : pc z = k) (hk : k < 4) (hl : le ≤ j) (hj : j < nb) (hc : cs (f + k) = nI (48 + j)) :
    DR nb cs f (k + 1) (z ||| 1 * 2 ^ j) ∧ (z ||| 1 * 2 ^ j) < 2 ^ (j + 1) ∧ pc (z ||| 1 * 2 ^ j) = k + 1 ∧ 2 ^ j ≤ z ||| 1 * 2 ^ j := by
  have h1 : z < 2 ^ j := Nat.lt_of_lt_of_le hz (Nat.pow_le_pow_right (by decide) hl)
  have h6 : (2 : Nat) ^ j ≤ 64 := pow_le_64 (by omega)
  rw [Nat.one_mul]
  refine ⟨⟨z, j, h, hj, hc, lt_div0 h1, by omega, rfl⟩, ?_, ?_, or_ge⟩
  · have h2 : (2 : Nat) ^ j < 2 ^ (j + 1) := Nat.pow_lt_pow_right (by decide) (by omega)
    exact Nat.or_lt_two_pow (Nat.lt_trans h1 h2) h2
  · rw [pc_or j (by omega) z (by omega) h1, hp]
theorem sk_4 {nb : Nat} {cs : Nat → Int32} {en q z : Nat} (h : 4 ≤ pc z) : SKd nb cs en q z := fun ⟨_, _, _, _, _, h5⟩ => by omega
theorem sk_dg {nb : Nat} {cs : Nat → Int32} {en q z le : Nat} (h0 : le = 0 ∨ 2 ^ (le - 1) ≤ z) (h : ¬ (q < en ∧ ∃ j, le ≤ j ∧ j ≤ nb - 1 ∧ cs q = nI (48 + j))) : SKd nb cs en q z := by
  rintro ⟨h1, j, h2, h3, h4, -⟩
  refine h ⟨h1, j, ?_, by omega, h3⟩
  rcases h0 with h5 | h5
  · omega
  · have h6 := div0_lt h4
    have h7 : (2 : Nat) ^ (le - 1) < 2 ^ j := by omega
    have h8 := (Nat.pow_lt_pow_iff_right (a := 2) (by decide)).mp h7
    omega
theorem sk_nb {nb : Nat} {cs : Nat → Int32} {en q z le : Nat} (h0 : 2 ^ (le - 1) ≤ z) (h : le = nb) (h1 : 1 ≤ nb) : SKd nb cs en q z :=
  sk_dg (Or.inr h0) (fun ⟨_, j, h2, h3, _⟩ => by omega)
/-- within a door -/
def RDI (nb : Nat) (cs : Nat → Int32) (en f rd n mo q : Nat) (g14 g15 : Nat → Nat) : Prop := ∃ (S : pS) (i : Nat), q = f + i ∧ q ≤ en ∧ RS nb cs f i S ∧ S.1 = rd + 1 ∧
  (∀ d, d < rd → S.2.1 d = g14 d ∧ 1 ≤ g14 d ∧ g14 d ≤ 6 ∧ ∀ k, k < g14 d → S.2.2 (d * 6 + k) = g15 (d * 6 + k) ∧ g15 (d * 6 + k) < 2 ^ nb) ∧
  (∀ k, k < n → S.2.2 (rd * 6 + k) = g15 (rd * 6 + k) ∧ g15 (rd * 6 + k) < 2 ^ nb) ∧
  ((mo = 1 ∧ n < 6 ∧ S.2.1 rd = n + 1 ∧ S.2.2 (rd * 6 + n) = 0) ∨ (mo = 0 ∧ 1 ≤ n ∧ n ≤ 6 ∧ S.2.1 rd = n ∧ STK nb cs en q S))
/-- between doors -/
def DOI (nb : Nat) (cs : Nat → Int32) (en f rd q : Nat) (g14 g15 : Nat → Nat) : Prop := ∃ (S : pS) (i : Nat), q = f + i ∧ q ≤ en ∧ RS nb cs f i S ∧ AGR S rd g14 g15 ∧ DIb nb rd g14 g15 ∧ STK nb cs en q S
theorem do_0 {nb : Nat} {cs : Nat → Int32} {en f : Nat} {g14 g15 : Nat → Nat} (hf : f ≤ en) : DOI nb cs en f 0 f g14 g15 :=
  ⟨S0, 0, rfl, hf, rfl, ⟨rfl, fun d hd => absurd hd (Nat.not_lt_zero _), fun d k hd => absurd hd (Nat.not_lt_zero _)⟩, ⟨by decide, fun d hd => absurd hd (Nat.not_lt_zero _), fun d k hd => absurd hd (Nat.not_lt_zero _)⟩, fun _ S' h => by
    rcases h with ⟨h, -⟩ | ⟨-, h, -⟩ | ⟨j, -, -, h, -⟩
    · exact h
    · exact absurd h (Nat.lt_irrefl 0)
    · exact absurd h (Nat.lt_irrefl 0)⟩
theorem rd_open {nb : Nat} {cs : Nat → Int32} {en f rd q : Nat} {g14 g15 : Nat → Nat} (h : DOI nb cs en f rd q g14 g15) (h4 : rd < 4) (hq : q < en) (hc : cs q = nI 59) : RDI nb cs en f rd 0 1 (q + 1) g14 g15 := by
  obtain ⟨S, i, e, h1, h2, h3, h5, -⟩ := h
  obtain ⟨a1, a2, a3⟩ := h3
  obtain ⟨b1, b2, b3⟩ := h5
  refine ⟨(S.1 + 1, va_up S.2.1 S.1 1, va_up S.2.2 (S.1 * 6) 0), i + 1, by omega, hq, ⟨S, h2, Or.inl ⟨by rw [← e]; exact hc, by omega, rfl⟩⟩, by show S.1 + 1 = _; omega, fun d hd => ⟨?_, (b2 d hd).1, (b2 d hd).2, fun k hk => ⟨?_, b3 d k hd hk⟩⟩, fun k hk => absurd hk (Nat.not_lt_zero _), Or.inl ⟨rfl, by decide, ?_, ?_⟩⟩
  · show va_up S.2.1 S.1 1 d = _
    rw [up_ne (by omega)]; exact a2 d hd
  · show va_up S.2.2 (S.1 * 6) 0 (d * 6 + k) = _
    have := (b2 d hd).2
    rw [up_ne (by omega)]; exact a3 d k hd hk
  · show va_up S.2.1 S.1 1 rd = _
    rw [a1, up_eq]
  · show va_up S.2.2 (S.1 * 6) 0 (rd * 6 + 0) = _
    rw [a1, Nat.add_zero, up_eq]
/-- a beat has been read: what the codes so far say -/
theorem rd_beat {nb : Nat} {cs : Nat → Int32} {en f rd n q k z : Nat} {g14 g15 : Nat → Nat} (h : RDI nb cs en f rd n 1 q g14 g15) (hd : DR nb cs q k z) : n < 6 ∧ ∃ (S : pS) (i : Nat), q + k = f + i ∧ RS nb cs f i S ∧ S.1 = rd + 1 ∧
    (∀ d, d < rd → S.2.1 d = g14 d ∧ 1 ≤ g14 d ∧ g14 d ≤ 6 ∧ ∀ k, k < g14 d → S.2.2 (d * 6 + k) = va_up g15 (rd * 6 + n) z (d * 6 + k) ∧ va_up g15 (rd * 6 + n) z (d * 6 + k) < 2 ^ nb) ∧
    (∀ k, k < n + 1 → S.2.2 (rd * 6 + k) = va_up g15 (rd * 6 + n) z (rd * 6 + k) ∧ va_up g15 (rd * 6 + n) z (rd * 6 + k) < 2 ^ nb) ∧ S.2.1 rd = n + 1 ∧ S.2.2 (rd * 6 + n) = z := by
  obtain ⟨S, i, e, h1, h2, h3, h4, h5, h6⟩ := h
  rcases h6 with ⟨-, h6, h7, h8⟩ | ⟨h6, -⟩
  · have e1 : (S.1 - 1) = rd := by omega
    have hp : rd * 6 + n = (S.1 - 1) * 6 + S.2.1 (S.1 - 1) - 1 := by rw [e1, h7]; omega
    rw [e] at hd
    refine ⟨h6, (S.1, S.2.1, va_up S.2.2 (rd * 6 + n) z), i + k, by omega, DR_RS h2 (by omega) hp h8 k z hd, h3, fun d hd2 => ?_, fun k2 hk => ?_, h7, up_eq⟩
    · obtain ⟨a1, a2, a3, a4⟩ := h4 d hd2
      refine ⟨a1, a2, a3, fun k2 hk => ?_⟩
      show va_up S.2.2 (rd * 6 + n) z (d * 6 + k2) = _ ∧ _
      rw [up_ne (by omega), up_ne (by omega)]
      exact a4 k2 hk
    · show va_up S.2.2 (rd * 6 + n) z (rd * 6 + k2) = _ ∧ _
      by_cases h9 : k2 = n
      · subst h9; rw [up_eq, up_eq]; exact ⟨rfl, DR_lt k z hd⟩
      · rw [up_ne (by omega), up_ne (by omega)]; exact h5 k2 (by omega)
  · exact absurd h6 (by decide)
theorem rd_more {nb : Nat} {cs : Nat → Int32} {en f rd n q k z : Nat} {g14 g15 : Nat → Nat} (h : RDI nb cs en f rd n 1 q g14 g15) (hd : DR nb cs q k z) (h6 : n + 1 < 6) (hq : q + k < en) (hc : cs (q + k) = nI 44) : RDI nb cs en f rd (n + 1) 1 (q + k + 1) g14 (va_up g15 (rd * 6 + n) z) := by
  obtain ⟨-, S, i, e, h2, h3, h4, h5, h7, h8⟩ := rd_beat h hd
  have e1 : S.1 - 1 = rd := by omega
  refine ⟨(S.1, va_up S.2.1 (S.1 - 1) (S.2.1 (S.1 - 1) + 1), va_up S.2.2 ((S.1 - 1) * 6 + S.2.1 (S.1 - 1)) 0), i + 1, by omega, hq, ⟨S, h2, Or.inr (Or.inl ⟨by rw [← e]; exact hc, by omega, by rw [e1, h7]; exact h6, rfl⟩)⟩, h3, fun d hd2 => ?_, fun k2 hk => ?_, Or.inl ⟨rfl, h6, ?_, ?_⟩⟩
  · obtain ⟨a1, a2, a3, a4⟩ := h4 d hd2
    refine ⟨?_, a2, a3, fun k2 hk => ⟨?_, (a4 k2 hk).2⟩⟩
    · show va_up S.2.1 (S.1 - 1) _ d = _
      rw [up_ne (by omega)]; exact a1
    · show va_up S.2.2 ((S.1 - 1) * 6 + S.2.1 (S.1 - 1)) 0 (d * 6 + k2) = _
      rw [e1, h7, up_ne (by omega)]; exact (a4 k2 hk).1
  · refine ⟨?_, (h5 k2 hk).2⟩
    show va_up S.2.2 ((S.1 - 1) * 6 + S.2.1 (S.1 - 1)) 0 (rd * 6 + k2) = _
    rw [e1, h7, up_ne (by omega)]; exact (h5 k2 hk).1
  · show va_up S.2.1 (S.1 - 1) (S.2.1 (S.1 - 1) + 1) rd = _
    rw [e1, up_eq, h7]
  · show va_up S.2.2 ((S.1 - 1) * 6 + S.2.1 (S.1 - 1)) 0 (rd * 6 + (n + 1)) = _
    rw [e1, h7, up_eq]
theorem rd_stop {nb : Nat} {cs : Nat → Int32} {en f rd n q k z : Nat} {g14 g15 : Nat → Nat} (h : RDI nb cs en f rd n 1 q g14 g15) (hd : DR nb cs q k z) (hle : q + k ≤ en) (hs : SKd nb cs en (q + k) z) (hc : 6 ≤ n + 1 ∨ en ≤ q + k ∨ ¬ cs (q + k) = nI 44) : RDI nb cs en f rd (n + 1) 0 (q + k) g14 (va_up g15 (rd * 6 + n) z) := by
  obtain ⟨hn, S, i, e, h2, h3, h4, h5, h7, h8⟩ := rd_beat h hd
  have e1 : S.1 - 1 = rd := by omega
  refine ⟨S, i, e, hle, h2, h3, h4, h5, Or.inr ⟨rfl, by omega, by omega, h7, fun hq S' hp => ?_⟩⟩
  rcases hp with ⟨g1, -⟩ | ⟨g1, g2, g3, -⟩ | ⟨j, g1, g2, g3, g4, g5, -⟩
  · exact g1
  · exfalso
    rw [e1, h7] at g3
    rcases hc with hc | hc | hc
    · omega
    · omega
    · exact hc g1
  · exfalso
    have e2 : (S.1 - 1) * 6 + S.2.1 (S.1 - 1) - 1 = rd * 6 + n := by rw [e1, h7]; omega
    rw [e2, h8] at g4 g5
    exact hs ⟨hq, j, g1, g2, g4, g5⟩
theorem rd_close {nb : Nat} {cs : Nat → Int32} {en f rd n q : Nat} {g14 g15 : Nat → Nat} (h : RDI nb cs en f rd n 0 q g14 g15) (h4 : rd < 4) : DOI nb cs en f (rd + 1) q (va_up g14 rd n) g15 := by
  obtain ⟨S, i, e, h1, h2, h3, h4', h5, h6⟩ := h
  rcases h6 with ⟨h6, -⟩ | ⟨-, h6, h7, h8, h9⟩
  · exact absurd h6 (by decide)
  · refine ⟨S, i, e, h1, h2, ⟨h3, fun d hd => ?_, fun d k hd hk => ?_⟩, ⟨h4, fun d hd => ?_, fun d k hd hk => ?_⟩, h9⟩
    · by_cases z : d = rd
      · subst z; rw [up_eq]; exact h8
      · rw [up_ne z]; exact (h4' d (by omega)).1
    · by_cases z : d = rd
      · subst z; rw [up_eq] at hk; exact (h5 k hk).1
      · rw [up_ne z] at hk; exact ((h4' d (by omega)).2.2.2 k hk).1
    · by_cases z : d = rd
      · subst z; rw [up_eq]; exact ⟨h6, h7⟩
      · rw [up_ne z]; exact ⟨(h4' d (by omega)).2.1, (h4' d (by omega)).2.2.1⟩
    · by_cases z : d = rd
      · subst z; rw [up_eq] at hk; exact (h5 k hk).2
      · rw [up_ne z] at hk; exact ((h4' d (by omega)).2.2.2 k hk).2
theorem RS_sh {nb : Nat} {cs : Nat → Int32} {fi f : Nat} : ∀ {k : Nat} {S : pS}, RS nb cs (fi + f) k S → RS nb (fun e => cs (fi + e)) f k S := by
  intro k
  induction k with
  | zero => intro S h; exact h
  | succ k ih =>
    intro S h
    obtain ⟨T, h1, h2⟩ := h
    exact ⟨T, ih h1, by rw [Nat.add_assoc] at h2; exact h2⟩
theorem lk_taken {nb : Nat} {cs : Nat → Int32} {fi en rd q : Nat} {need g14 g15 : Nat → Nat} (hH : HDt (fun e => cs (fi + e)) (en - fi) nb) (hn : ∀ e, e < nb → 2 + e < en - fi ∧ 1 ≤ need e ∧ need e ≤ 9 ∧ cs (fi + (2 + e)) = nI (48 + need e)) (h : DOI nb cs en (fi + (2 + nb)) rd q g14 g15) (h0 : rd ≠ 0) (he : en ≤ q) :
    ∃ S, TKN (fun e => cs (fi + e)) (en - fi) nb need S ∧ AGR S rd g14 g15 ∧ DIb nb rd g14 g15 := by
  obtain ⟨S, i, e, h1, h2, h3, h4, -⟩ := h
  refine ⟨S, ⟨hH, hn, by omega, ?_, by rw [h3.1]; omega⟩, h3, h4⟩
  have := RS_sh h2
  rw [show en - fi - (2 + nb) = i by omega]
  exact this
theorem lk_fault {nb : Nat} {cs : Nat → Int32} {fi en rd q : Nat} {g14 g15 : Nat → Nat} (h7 : nb ≤ 7) (hfi : fi ≤ en) (hH : HDt (fun e => cs (fi + e)) (en - fi) nb) (hn : ∀ e, e < nb → DGt (fun e => cs (fi + e)) (en - fi) (2 + e)) (h : DOI nb cs en (fi + (2 + nb)) rd q g14 g15) (hc : (rd = 4 ∧ q < en) ∨ (rd = 0 ∧ en ≤ q) ∨ (q < en ∧ ¬ cs q = nI 59)) :
    FLT (fun e => cs (fi + e)) (en - fi) (q - fi) := by
  obtain ⟨S, i, e, h1, h2, h3, h4, h5⟩ := h
  have hn59 : ∀ S', q < en → PG nb (cs q) S S' → S.1 < 4 := by
    intro S' hq hp
    have h6 := h5 hq S' hp
    rcases hp with ⟨-, g, -⟩ | ⟨g, -⟩ | ⟨j, g1, g, -⟩
    · exact g
    · exact absurd (h6.symm.trans g) (by decide)
    · have := (n_inj (by decide) (by omega)).mp (h6.symm.trans g); omega
  refine Or.inr (Or.inr (Or.inr ⟨nb, hH, hn, i, S, by omega, RS_sh h2, ?_⟩))
  rcases hc with ⟨c1, c2⟩ | ⟨c1, c2⟩ | ⟨c1, c2⟩
  · refine Or.inl ⟨by omega, fun S' hp => ?_⟩
    have hp : PG nb (cs (fi + (q - fi))) S S' := hp
    rw [show fi + (q - fi) = q by omega] at hp
    have := hn59 S' c2 hp
    have := h3.1
    omega
  · exact Or.inr ⟨by omega, h3.1.trans c1⟩
  · refine Or.inl ⟨by omega, fun S' hp => ?_⟩
    have hp : PG nb (cs (fi + (q - fi))) S S' := hp
    rw [show fi + (q - fi) = q by omega] at hp
    exact c2 (h5 c1 S' hp)
theorem TKN_need {cs : Nat → Int32} {n nb : Nat} {f g : Nat → Nat} {S : pS} (h : TKN cs n nb f S) (e : ∀ b, b < nb → g b = f b) : TKN cs n nb g S :=
  ⟨h.1, fun b hb => by rw [e b hb]; exact h.2.1 b hb, h.2.2⟩
theorem AGR_eq {S : pS} {nd : Nat} {bt fg bt2 fg2 : Nat → Nat} (h : AGR S nd bt fg) (e1 : ∀ d, d < nd → bt2 d = bt d) (e2 : ∀ d k, d < nd → k < bt d → fg2 (d * 6 + k) = fg (d * 6 + k)) : AGR S nd bt2 fg2 :=
  ⟨h.1, fun d hd => by rw [e1 d hd]; exact h.2.1 d hd, fun d k hd hk => by rw [e1 d hd] at hk; rw [e2 d k hd hk]; exact h.2.2 d k hd hk⟩
theorem DIb_eq {nb nd : Nat} {bt fg bt2 fg2 : Nat → Nat} (h : DIb nb nd bt fg) (e1 : ∀ d, d < nd → bt2 d = bt d) (e2 : ∀ d k, d < nd → k < bt d → fg2 (d * 6 + k) = fg (d * 6 + k)) : DIb nb nd bt2 fg2 :=
  ⟨h.1, fun d hd => by rw [e1 d hd]; exact h.2.1 d hd, fun d k hd hk => by rw [e1 d hd] at hk; rw [e2 d k hd hk]; exact h.2.2 d k hd hk⟩
/-- figures gone over, door by door -/
def FGo (bt fg g : Nat → Nat) (d : Nat) : Prop := ∀ e k, e < d → k < bt e → g (e * 6 + k) = fg (e * 6 + k)
theorem fg_s {bt fg g : Nat → Nat} {d k : Nat} (h6 : ∀ e, e < d → bt e ≤ 6) (h : FGo bt fg g d) (hk : ∀ i, i < k → g (d * 6 + i) = fg (d * 6 + i)) : FGo bt fg (va_up g (d * 6 + k) (fg (d * 6 + k))) d ∧ ∀ i, i < k + 1 → va_up g (d * 6 + k) (fg (d * 6 + k)) (d * 6 + i) = fg (d * 6 + i) := by
  refine ⟨fun e i he hi => ?_, fun i hi => ?_⟩
  · have := h6 e he
    rw [up_ne (by omega)]; exact h e i he hi
  · by_cases z : i = k
    · subst z; exact up_eq
    · rw [up_ne (by omega)]; exact hk i (by omega)
theorem fg_d {bt fg g : Nat → Nat} {d k : Nat} (h : FGo bt fg g d) (hk : ∀ i, i < k → g (d * 6 + i) = fg (d * 6 + i)) (e : bt d ≤ k) : FGo bt fg g (d + 1) := by
  intro e1 i he hi
  by_cases z : e1 = d
  · subst z; exact hk i (by omega)
  · exact h e1 i (by omega) hi
theorem eq_s {f g : Nat → Nat} {d : Nat} (h : ∀ e, e < d → g e = f e) : ∀ e, e < d + 1 → va_up g d (f d) e = f e := by
  intro e he
  by_cases z : e = d
  · subst z; exact up_eq
  · rw [up_ne z]; exact h e (by omega)