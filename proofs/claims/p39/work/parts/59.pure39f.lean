/-! ===== what is refused ===== -/
theorem nR_ge {k n : Nat} (h : n ≤ k) (hk : k < 2147483648) : nR (nI k) n := fun ⟨j, h1, h2⟩ => by
  have := (n_inj hk (by omega)).mp h2; omega
theorem nR_m1 {n : Nat} (hn : n ≤ 1000) : nR (-1) n := fun ⟨j, h1, h2⟩ => m1_neg h2.symm (by omega)
section REF
variable {g : Nat → Nat} {v : Nat → Nat → Nat} {c : Nat → Nat → Int32} {bt F : Nat} {so i r : Int32} {fin : (Nat → Nat) → Int32 → Prop}
abbrev STp (v : Nat → Nat → Nat) (c : Nat → Nat → Int32) (bt : Nat) (sh so i : Int32) (fin : (Nat → Nat) → Int32 → Prop) (r : Int32) (F : Nat) : Prop := sp_tp (xNo c) (xHas c) (v 3) (xCell c) (v 11 0) (v 11 1) (v 15 0) bt sh so i fin r F
theorem kp_x {k j : Nat} (hk : k < 4) (hj : j < 1000) (e : nI j = nI k) : j = k := (n_inj (by omega) (by omega)).mp e
theorem tk_sh4 (h : STp v c bt (nI 4) so i fin r F) : r = -1 := by
  rcases h with h | ⟨k, s1, j, n, ⟨b1, b2, b3, -⟩, -⟩
  · rcases h with ⟨-, h, -⟩ | ⟨k, a1, a2, -⟩ | ⟨k, s, a1, a2, a3, -⟩
    · exact h
    · have := kp_x a1 (by decide) a2; omega
    · have := kp_x a1 (by decide) a3; omega
  · have := kp_x b1 (by decide) b3; omega
theorem tk_so3 (h : STp v c bt (nI 1) (nI 3) i fin r F) : r = -2 := by
  rcases h with h | ⟨k, s1, j, n, ⟨b1, b2, b3, b4, -⟩, -⟩
  · rcases h with ⟨h, -⟩ | ⟨k, a1, a2, -, h, -⟩ | ⟨k, s, a1, a2, a3, a4, -⟩
    · exact (nR_no h (by decide)).elim
    · exact h
    · have := kp_x (show s < 4 by omega) (by decide) a4; omega
  · have := kp_x (show s1 < 4 by omega) (by decide) b4; omega
theorem tk_12 (hs : SH1 v c) (h : STp v c bt (nI 1) (nI 2) i fin r F) : r = -12 := by
  obtain ⟨t1, t2⟩ := hs
  rcases h with h | ⟨k, s1, j, n, ⟨b1, b2, b3, b4, -, b5, -⟩, -⟩
  · rcases h with ⟨h, -⟩ | ⟨k, a1, a2, h, -⟩ | ⟨k, s, a1, a2, a3, a4, -, h⟩
    · exact (nR_no h (by decide)).elim
    · rcases h with h | h
      · exact (nR_no h (by decide)).elim
      · exact h.elim
    · have := kp_x a1 (by decide) a3; subst this
      have := kp_x (show s < 4 by omega) (by decide) a4; subst this
      rcases h with ⟨h, -⟩ | ⟨-, -, h, -⟩ | ⟨h, -⟩ | ⟨h, -⟩
      · rw [h] at t1; exact absurd t1 (by decide)
      · exact h
      · have h2 : c 2 1 = nI 2 := h
        rw [t1] at h2; exact absurd h2 (by decide)
      · have h2 : c 2 1 = nI 2 := h
        rw [t1] at h2; exact absurd h2 (by decide)
  · have := kp_x b1 (by decide) b3; subst this
    have := kp_x (show s1 < 4 by omega) (by decide) b4; subst this
    have h2 : c 2 1 = nI 2 := b5
    rw [t1] at h2; exact absurd h2 (by decide)
theorem tk_13 (hs : SH1 v c) (hb : bt ≤ 6) (hn : v 15 0 ≤ 4) (hi : i.toInt < 0 ∨ 30 < i.toInt) (h : STp v c bt (nI 1) (nI 1) i fin r F) : r = -13 := by
  obtain ⟨t1, t2⟩ := hs
  have hm : bt * v 15 0 ≤ 24 := Nat.mul_le_mul hb hn
  rcases h with h | ⟨k, s1, j, n, ⟨b1, b2, b3, b4, -, b5, b6, b7, b8⟩, -⟩
  · rcases h with ⟨h, -⟩ | ⟨k, a1, a2, h, -⟩ | ⟨k, s, a1, a2, a3, a4, -, h⟩
    · exact (nR_no h (by decide)).elim
    · rcases h with h | h
      · exact (nR_no h (by decide)).elim
      · exact h.elim
    · have := kp_x a1 (by decide) a3; subst this
      have := kp_x (show s < 4 by omega) (by decide) a4; subst this
      rcases h with ⟨h, -⟩ | ⟨-, h, -⟩ | ⟨-, h, -⟩ | ⟨-, -, -, h, -⟩
      · rw [h] at t1; exact absurd t1 (by decide)
      · exact (h t1).elim
      · rw [n_tI (by omega)] at h; omega
      · exact h
  · have := kp_x b1 (by decide) b3; subst this
    have hj : j < 2147483648 := by omega
    rw [b6, n_tI hj] at hi
    omega
theorem tk_11 (h3 : c 2 3 = -1) (h : STp v c bt (nI 3) (nI 1) i fin r F) : r = -11 := by
  rcases h with h | ⟨k, s1, j, n, ⟨b1, b2, b3, b4, -, b5, -⟩, -⟩
  · rcases h with ⟨h, -⟩ | ⟨k, a1, a2, h, -⟩ | ⟨k, s, a1, a2, a3, a4, -, h⟩
    · exact (nR_no h (by decide)).elim
    · rcases h with h | h
      · exact (nR_no h (by decide)).elim
      · exact h.elim
    · have := kp_x a1 (by decide) a3; subst this
      have := kp_x (show s < 4 by omega) (by decide) a4; subst this
      rcases h with ⟨-, h, -⟩ | ⟨h, -⟩ | ⟨h, -⟩ | ⟨h, -⟩
      · exact h
      · exact (h h3).elim
      · have h2 : c 2 3 = nI 1 := h
        rw [h3] at h2; exact absurd h2 (by decide)
      · have h2 : c 2 3 = nI 1 := h
        rw [h3] at h2; exact absurd h2 (by decide)
  · have := kp_x b1 (by decide) b3; subst this
    have := kp_x (show s1 < 4 by omega) (by decide) b4; subst this
    have h2 : c 2 3 = nI 1 := b5
    rw [h3] at h2; exact absurd h2 (by decide)
theorem tk_bad (hI : XI v) (ha : AL g v) (hg : GL g) (hs : SH1 v c) (hn : 0 < g 37) (hn3 : g 37 ≤ 3) (hc : c 4 (80 + 3) = nI (g 0)) (h : STp v c 1 (nI 1) (nI 1) (nI 3) fin r F) : r = -1 := by
  obtain ⟨a1, a2, -, -, -, a6, -⟩ := ha
  rcases h with h | ⟨k, s1, j, n, ⟨b1, b2, b3, b4, -, b5, b6, b7, b8⟩, -, h⟩
  · exact (tkB_no hs rfl rfl (by omega) h).elim
  · have := kp_x b1 (by decide) b3; subst this
    have hv := hs.2
    have hj : 3 = j := (n_inj (by omega) (by omega)).mp b6
    subst hj
    rcases h with ⟨h, -⟩ | ⟨-, -, h⟩ | ⟨-, st, h1, -⟩
    · have := hg.2.1.1; omega
    · exact h
    · have h2 := h1 0 0 (by decide) (by omega)
      have h3 : xCell c 1 (3 + (0 * v 15 0 + 0)) = nI (g 0) := by
        show c 4 (1 * 80 + (3 + (0 * v 15 0 + 0))) = _
        rw [Nat.zero_mul]; exact hc
      have h4 := hg.1.2
      have := (n_inj (by omega) (by omega)).mp (h3.symm.trans h2.1)
      omega
theorem op_1 {sh : Int32} (h : SOp v c (nI 1) sh so i r F) : ∃ fin, STp v c 1 sh so i fin r F := by
  rcases h with ⟨b, b1, b2, b3, -, h⟩ | ⟨h, -⟩
  · have : 1 = b := (n_inj (by decide) (by omega)).mp b3
    subst this
    exact ⟨_, h⟩
  · exact (h ⟨1, by decide, by decide, rfl, trivial⟩).elim
theorem op_bad {x : Int32} (hx : ¬ ∃ b, 1 ≤ b ∧ b ≤ 6 ∧ x = nI b) (h : SOp v c x (nI 1) so i r F) : r = -2 := by
  rcases h with ⟨b, b1, b2, b3, -⟩ | ⟨-, -, h⟩
  · exact (hx ⟨b, b1, b2, b3⟩).elim
  · rcases h with ⟨h, -⟩ | ⟨-, h⟩
    · exact (nR_no h (by decide)).elim
    · exact h
theorem fe_1 {sh : Int32} (h : SFe v c (nI 1) (nI 0) sh so i r F) : ∃ fin, STp v c 1 sh so i fin r F := by
  rcases h with ⟨b, b1, b2, b3, -, h⟩ | ⟨h, -⟩
  · have : 1 = b := (n_inj (by decide) (by omega)).mp b3
    subst this
    exact ⟨_, h⟩
  · exact (h ⟨1, by decide, by decide, rfl, 0, by decide, rfl⟩).elim
theorem fe_bad {y : Int32} (hy : ¬ ∃ j, j < 1 ∧ y = nI j) (h : SFe v c (nI 1) y (nI 1) so i r F) : r = -2 := by
  rcases h with ⟨b, b1, b2, b3, b4, -⟩ | ⟨-, -, h⟩
  · have : 1 = b := (n_inj (by decide) (by omega)).mp b3
    subst this
    exact (hy b4).elim
  · rcases h with ⟨h, -⟩ | ⟨-, h⟩
    · exact (nR_no h (by decide)).elim
    · exact h
theorem wr_x {x sh : Int32} (ha : AL g v) (hx : nR x (g 1)) (h : SWr v c x sh so i r F) : r = -1 := by
  rcases h with ⟨d, b1, b2, -⟩ | ⟨-, h, -⟩
  · have := ha.2.1
    exact (hx ⟨d, by omega, b2⟩).elim
  · exact h
theorem wr_13 (hI : XI v) (ha : AL g v) (hg : GL g) (hs : SH1 v c) (hi : i.toInt < 0) (h : SWr v c (nI 0) (nI 1) (nI 1) i r F) : r = -13 := by
  have h1 := hg.2.1.1
  have h2 := ha.2.1
  rcases h with ⟨d, b1, b2, h⟩ | ⟨h, -⟩
  · have h3 := al_bt ha d b1
    have h4 := hg.2.2.2.1 d (by omega)
    exact tk_13 hs (by rw [h3]; exact h4.2) (al_nd hI).2.2 (Or.inl hi) h
  · exact (nR_no h (by omega)).elim
theorem px_1 {x y z : Int32} {n m : Nat} {f : Nat → Nat} (h : nR x n) : ¬ ∃ d j e, d < n ∧ j < f d ∧ e < m ∧ x = nI d ∧ y = nI j ∧ z = nI e := fun ⟨d, j, e, h1, h2, h3, h4, _⟩ => h ⟨d, h1, h4⟩
theorem px_2 {z : Int32} {n m : Nat} {f : Nat → Nat} (hn : n ≤ 4) (h : f 0 ≤ 6) : ¬ ∃ d j e, d < n ∧ j < f d ∧ e < m ∧ nI 0 = nI d ∧ nI (f 0) = nI j ∧ z = nI e := fun ⟨d, j, e, h1, h2, h3, h4, h5, _⟩ => by
  have : 0 = d := (n_inj (by decide) (by omega)).mp h4
  subst this
  have := (n_inj (by omega) (by omega)).mp h5
  omega
theorem px_3 {x y : Int32} {n m : Nat} {f : Nat → Nat} (hm : m ≤ 3) : ¬ ∃ d j e, d < n ∧ j < f d ∧ e < m ∧ x = nI d ∧ y = nI j ∧ nI m = nI e := fun ⟨d, j, e, h1, h2, h3, h4, h5, h6⟩ => by
  have := (n_inj (by omega) (by omega)).mp h6
  omega
theorem px_4 {n : Nat} {f : Nat → Nat} (hn : n ≤ 4) (h : f 0 ≤ 6) : ¬ ∃ d j, d < n ∧ j < f d ∧ nI 0 = nI d ∧ nI (f 0) = nI j := fun ⟨d, j, h1, h2, h4, h5⟩ => by
  have : 0 = d := (n_inj (by decide) (by omega)).mp h4
  subst this
  have := (n_inj (by omega) (by omega)).mp h5
  omega
theorem px_5 {x y : Int32} {n : Nat} {f : Nat → Nat} (h : nR x n) : ¬ ∃ d j, d < n ∧ j < f d ∧ x = nI d ∧ y = nI j := fun ⟨d, j, h1, h2, h4, _⟩ => h ⟨d, h1, h4⟩
theorem no_b0 : ¬ ∃ b, 1 ≤ b ∧ b ≤ 6 ∧ nI 0 = nI b := fun ⟨b, h1, h2, h3⟩ => by have := (n_inj (by decide) (by omega)).mp h3; omega
theorem no_b7 : ¬ ∃ b, 1 ≤ b ∧ b ≤ 6 ∧ nI 7 = nI b := fun ⟨b, h1, h2, h3⟩ => by have := (n_inj (by decide) (by omega)).mp h3; omega
theorem no_j1 : ¬ ∃ j, j < 1 ∧ nI 1 = nI j := fun ⟨j, h1, h3⟩ => by have := (n_inj (by decide) (by omega)).mp h3; omega
theorem no_jm : ¬ ∃ j, j < 1 ∧ (-1 : Int32) = nI j := fun ⟨j, h1, h3⟩ => m1_neg h3.symm (by omega)
end REF
