/-! ===== the calls that the law makes ready by ===== -/
/-- a sheet of the text; sheet 3 there is none -/
def TXx (v : Nat → Nat → Nat) (c : Nat → Nat → Int32) : Prop := c 2 0 = nI 0 ∧ v 3 0 = 80 ∧ c 2 3 = -1
theorem nR_no {k n : Nat} (h : nR (nI k) n) (hk : k < n) : False := h ⟨k, hk, rfl⟩
theorem cut_0 : ∀ z, z < 128 → cutf (nI z) (nI 0) = nI z := by decide +kernel
theorem cut_1 : ∀ z, z < 128 → cutf (nI z) (nI 1) = nI z := by decide +kernel
theorem kp_4 {k j : Nat} (hj : j < 4) (hk : k < 4) (e : nI k = nI j) : k = j := (n_inj (by omega) (by omega)).mp e
theorem sheet_k {v : Nat → Nat → Nat} {c : Nat → Nat → Int32} {u : (Nat → Nat → Nat) × (Nat → Nat → Int32)} {k s n : Nat} {r : Int32} (h : sp_sheet v c u (nI k) (nI s) (nI n) r) (hk : k < 4) (hs : s < 3) (hn : n ≤ 80) :
    r = nI 1 ∧ u.2 2 = va_up (c 2) k (nI s) ∧ u.1 3 = va_up (v 3) k n ∧ u.1 11 = v 11 ∧ u.1 12 = v 12 ∧ u.1 13 = v 13 ∧ u.1 14 = v 14 ∧ u.1 15 = v 15 ∧ u.1 16 = v 16 ∧ u.1 17 = v 17 := by
  rcases h with ⟨h, -⟩ | ⟨k', hk', e, h⟩
  · exact (nR_no h hk).elim
  · have := kp_4 hk' hk e; subst this
    rcases h with ⟨h, -⟩ | ⟨s1, hs1, e1, h⟩
    · rcases h with h | h
      · exact (nR_no h hs).elim
      · rw [n_tI (by omega)] at h; omega
    · rcases h with ⟨h, -⟩ | ⟨n', hn', e2, h1, -, h3, h4, -, h6, h7, h8, h9, h10, h11, h12, -⟩
      · rw [n_tI (by omega)] at h; omega
      · have : n = n' := (n_inj (by omega) (by omega)).mp e2; subst this
        exact ⟨h1, h3, h4, h6, h7, h8, h9, h10, h11, h12⟩
theorem put_k {v : Nat → Nat → Nat} {c : Nat → Nat → Int32} {u : (Nat → Nat → Nat) × (Nat → Nat → Int32)} {k q : Nat} {z r : Int32} (h : sp_put v c u (nI k) (nI q) z r) (hk : k < 4) (hc : c 2 k ≠ -1) (hq : q < v 3 k) (h80 : v 3 k ≤ 80) :
    r = nI 1 ∧ u.2 4 = va_up (c 4) (k * 80 + q) (cutf z (c 2 k)) ∧ u.2 2 = c 2 ∧ u.1 3 = v 3 ∧ u.1 11 = v 11 ∧ u.1 12 = v 12 ∧ u.1 13 = v 13 ∧ u.1 14 = v 14 ∧ u.1 15 = v 15 ∧ u.1 16 = v 16 ∧ u.1 17 = v 17 := by
  rcases h with ⟨h, -⟩ | ⟨k', hk', e, h⟩
  · exact (nR_no h hk).elim
  · have := kp_4 hk' hk e; subst this
    rcases h with ⟨h, -⟩ | ⟨-, h, -⟩ | ⟨q', hq', e1, -, h1, -, h3, h4, h5, h6, h7, h8, h9, h10, h11, -, -, h12, -⟩
    · exact absurd h hc
    · exact (nR_no h hq).elim
    · have : q = q' := (n_inj (by omega) (by omega)).mp e1; subst this
      exact ⟨h1, h3, h12, h4, h5, h6, h7, h8, h9, h10, h11⟩
theorem up_neA {α : Type} {f : Nat → α} {i j : Nat} {x : α} (h : j ≠ i) : va_up f i x j = f j := by simp [va_up, h]
theorem sheet0 {v : Nat → Nat → Nat} {c : Nat → Nat → Int32} {u : (Nat → Nat → Nat) × (Nat → Nat → Int32)} {r : Int32} (h : sp_sheet v c u (nI 0) (nI 0) (nI 80) r) (h3 : c 2 3 = -1) : r = nI 1 ∧ TXx u.1 u.2 := by
  obtain ⟨h1, h2, h4, -⟩ := sheet_k h (by decide) (by decide) (by decide)
  exact ⟨h1, by rw [h2, up_eqA], by rw [h4, up_eq], by rw [h2, up_neA (by decide)]; exact h3⟩
theorem put0 {v : Nat → Nat → Nat} {c : Nat → Nat → Int32} {u : (Nat → Nat → Nat) × (Nat → Nat → Int32)} {q z : Nat} {r : Int32} (h : sp_put v c u (nI 0) (nI q) (nI z) r) (hT : TXx v c) (hq : q < 80) (hz : z < 128) :
    r = nI 1 ∧ TXx u.1 u.2 ∧ u.2 4 q = nI z ∧ ∀ e, e ≠ q → u.2 4 e = c 4 e := by
  obtain ⟨t1, t2, t3⟩ := hT
  obtain ⟨h1, h2, h3, h4, -⟩ := put_k h (by decide) (by rw [t1]; decide) (by omega) (by omega)
  rw [t1, cut_0 z hz, show 0 * 80 + q = q by omega] at h2
  exact ⟨h1, ⟨by rw [h3]; exact t1, by rw [h4]; exact t2, by rw [h3]; exact t3⟩, by rw [h2, up_eqA], fun e he => by rw [h2, up_neA he]⟩
/-- the class's lock and dancers are the law's -/
def AL (g : Nat → Nat) (v : Nat → Nat → Nat) : Prop := v 11 0 = g 0 ∧ v 11 1 = g 1 ∧ (∀ b, b < g 0 → v 12 b = g (2 + b)) ∧ (∀ d, d < g 1 → v 13 d = g (9 + d)) ∧ (∀ d k, d < g 1 → k < g (9 + d) → v 14 (d * 6 + k) = g (13 + 6 * d + k)) ∧ v 15 0 = g 37 ∧ ∀ d, d < g 37 → v 16 d = g (38 + d) ∧ v 17 d = g (42 + d)
theorem AL_eq {g : Nat → Nat} {v u : Nat → Nat → Nat} (h : AL g v) (e : u 11 = v 11 ∧ u 12 = v 12 ∧ u 13 = v 13 ∧ u 14 = v 14 ∧ u 15 = v 15 ∧ u 16 = v 16 ∧ u 17 = v 17) : AL g u := by
  obtain ⟨e1, e2, e3, e4, e5, e6, e7⟩ := e
  unfold AL
  rw [e1, e2, e3, e4, e5, e6, e7]
  exact h
theorem AL_xs {g : Nat → Nat} {v : Nat → Nat → Nat} {c : Nat → Nat → Int32} {u : (Nat → Nat → Nat) × (Nat → Nat → Int32)} {F : Nat} (h : AL g v) (hX : XS v c u F) : AL g u.1 := by
  obtain ⟨-, -, -, e1, e2, e3, e4, e5, e6, e7, -⟩ := hX
  exact AL_eq h ⟨e1, e2, e3, e4, e5, e6, e7⟩
theorem XS_c {v : Nat → Nat → Nat} {c : Nat → Nat → Int32} {u : (Nat → Nat → Nat) × (Nat → Nat → Int32)} {F : Nat} (hX : XS v c u F) : u.2 2 = c 2 ∧ u.2 4 = c 4 ∧ u.1 3 = v 3 := by
  obtain ⟨-, -, e3, -, -, -, -, -, -, -, -, -, e1, e2, -⟩ := hX
  exact ⟨e1, e2, e3⟩
/-- the lock is laid -/
theorem lock_ok {v : Nat → Nat → Nat} {c : Nat → Nat → Int32} {u : (Nat → Nat → Nat) × (Nat → Nat → Int32)} {t : Nat} {g : Nat → Nat} {S : pS} {r : Int32} (h : sp_lock v c u (nI 0) (nI 0) (nI 0) (nI t) r) (hT : TXx v c) (ht : t ≤ 80) (hg : GL g) (h37 : g 37 = 0) (hk : TKN (c 4) t (g 0) (gND g) S) (hs : S.1 = g 1) (hp : PSs g S (g 1)) :
    r = nI (g 1) ∧ AL g u.1 ∧ u.2 2 = c 2 := by
  obtain ⟨t1, t2, t3⟩ := hT
  rcases h with ⟨F, h, -⟩ | ⟨k, s1, j, n, ⟨a1, a2, a3, a4, -, a5, a6, a7, a8⟩, -, f, hf, h⟩
  · exfalso
    rcases h with ⟨h, -⟩ | ⟨k, -, -, h, -⟩ | ⟨k, s, h1, h2, h3, h4, -, h⟩
    · exact nR_no h (by decide)
    · rcases h with h | h
      · exact nR_no h (by decide)
      · exact h
    · have := kp_4 h1 (show 0 < 4 by decide) h3; subst this
      have := kp_4 (show s < 4 by omega) (show 0 < 4 by decide) h4; subst this
      rcases h with ⟨h, -⟩ | ⟨-, h, -⟩ | ⟨-, h, -⟩ | ⟨-, -, h, -⟩
      · rw [h] at t1; exact absurd t1 (by decide)
      · exact h t1
      · rw [n_tI (by omega)] at h; omega
      · rw [n_tI (by decide), n_tI (by omega)] at h; omega
  · have := kp_4 a1 (show 0 < 4 by decide) a3; subst this
    have hj : j = 0 := by
      have h80 : v 3 0 = 80 := t2
      exact ((n_inj (by decide) (by omega)).mp a6).symm
    subst hj
    have hn : t = n := (n_inj (by omega) (by omega)).mp a7
    subst hn
    have hk2 : TKN f t (g 0) (gND g) S := TKN_cg hk (fun e he => by rw [hf e he]; congr 1; omega)
    rcases h with ⟨q, h, -⟩ | ⟨S', h1, h2, h3, h4, -, -, h5, -⟩
    · exact (FLT_TKN h hk2).elim
    · obtain ⟨b1, b2, b3⟩ := TKN_one h1 hk2
      subst b3
      obtain ⟨d1, d2, d3⟩ := h2
      have e1 : u.1 11 1 = g 1 := by rw [← d1]; exact hs
      refine ⟨by rw [h3, e1], ⟨b1, e1, fun b hb => ?_, fun d hd => ?_, fun d k hd hk => ?_, by rw [h4, h37], fun d hd => absurd hd (by omega)⟩, h5⟩
      · exact b2 b (by omega)
      · rw [← d2 d (by omega)]; exact (hp d hd).1
      · rw [← d3 d k (by omega) (by rw [← d2 d (by omega), (hp d hd).1]; exact hk)]; exact (hp d hd).2 k hk
/-- a dancer more -/
theorem dancer_ok {v : Nat → Nat → Nat} {c : Nat → Nat → Int32} {u : (Nat → Nat → Nat) × (Nat → Nat → Int32)} {k q : Nat} {r : Int32} {g g' : Nat → Nat} (h : sp_dancer v c u (nI k) (nI q) r) (hk : k < 3) (hq : 1 ≤ q ∧ q ≤ 9) (hg : GL g) (hd : GD g) (hn : g 37 < 3) (ha : AL g v)
    (e : ∀ i, i ≠ 37 → i ≠ 38 + g 37 → i ≠ 42 + g 37 → g' i = g i) (e1 : g' 37 = g 37 + 1) (e2 : g' (38 + g 37) = k) (e3 : g' (42 + g 37) = q) :
    r = nI (g 37) ∧ GL g' ∧ GD g' ∧ AL g' u.1 ∧ u.2 2 = c 2 := by
  obtain ⟨g1, g2, g3, g4, g5⟩ := hg
  obtain ⟨n1, n2⟩ := hd
  obtain ⟨a1, a2, a3, a4, a5, a6, a7⟩ := ha
  rcases h with ⟨h, -⟩ | ⟨k', q', h1, h2, h3, h4, h5, h⟩
  · exact (h ⟨k, q, hk, hq.1, hq.2, rfl, rfl⟩).elim
  · have := kp_4 (show k' < 4 by omega) (show k < 4 by omega) h4; subst this
    have : q = q' := (n_inj (by omega) (by omega)).mp h5; subst this
    rcases h with ⟨h, -⟩ | ⟨-, h, -⟩ | ⟨-, -, r1, u1, u2, u3, -, u4, u5, u6, u7, -, -, u8, -⟩
    · omega
    · omega
    · have x0 := e 0 (by omega) (by omega) (by omega)
      have x1 := e 1 (by omega) (by omega) (by omega)
      refine ⟨by rw [r1, a6], ⟨by rw [x0]; exact g1, by rw [x1]; exact g2, fun b hb => ?_, fun d hd => ?_, fun d j hd hj => ?_⟩, ⟨by omega, fun d hd => ?_⟩, ⟨by rw [u4, x0]; exact a1, by rw [u4, x1]; exact a2, fun b hb => ?_, fun d hd => ?_, fun d j hd hj => ?_, by rw [u1, a6, e1], fun d hd => ?_⟩, u8⟩
      · rw [x0] at hb; rw [e _ (by omega) (by omega) (by omega)]; exact g3 b hb
      · rw [x1] at hd; rw [e _ (by omega) (by omega) (by omega)]; exact g4 d hd
      · rw [x1] at hd; rw [e _ (by omega) (by omega) (by omega)] at hj; have := g4 d hd; rw [x0, e _ (by omega) (by omega) (by omega)]; exact g5 d j hd hj
      · by_cases hh : d = g 37
        · subst hh; rw [e2, e3]; omega
        · rw [e _ (by omega) (by omega) (by omega), e _ (by omega) (by omega) (by omega)]; exact n2 d (by omega)
      · rw [x0] at hb; rw [u5, e _ (by omega) (by omega) (by omega)]; exact a3 b hb
      · rw [x1] at hd; rw [u6, e _ (by omega) (by omega) (by omega)]; exact a4 d hd
      · rw [x1] at hd; rw [e _ (by omega) (by omega) (by omega)] at hj; have := g4 d hd; rw [u7, e _ (by omega) (by omega) (by omega)]; exact a5 d j hd hj
      · by_cases hh : d = g 37
        · rw [hh, e2, e3, u2, u3, a6]; exact ⟨up_eq, up_eq⟩
        · rw [e _ (by omega) (by omega) (by omega), e _ (by omega) (by omega) (by omega), u2, u3, a6, up_ne hh, up_ne hh]; exact a7 d (by omega)
theorem RS_0n {nb f : Nat} {cs : Nat → Int32} {k : Nat} {S : pS} (h : RS nb cs f k S) (h1 : 0 < S.1) : 0 < k := by
  rcases Nat.eq_zero_or_pos k with e | e
  · subst e
    have : S = S0 := h
    subst this
    exact absurd h1 (Nat.lt_irrefl _)
  · exact e
theorem or_in {z n j : Nat} (h : z < 2 ^ n) (hj : j < n) : z ||| 1 * 2 ^ j < 2 ^ n := by
  rw [Nat.one_mul]
  exact Nat.or_lt_two_pow h (Nat.pow_lt_pow_right (by decide) hj)
