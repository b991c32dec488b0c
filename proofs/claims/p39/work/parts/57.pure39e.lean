/-! ===== plans out of cells, and what is refused ===== -/
/-- sheet 1: ints of two bytes, thirty -/
def SH1 (v : Nat → Nat → Nat) (c : Nat → Nat → Int32) : Prop := c 2 1 = nI 1 ∧ v 3 1 = 30
/-- the plan's cells -/
def CL (g p : Nat → Nat) (c : Nat → Nat → Int32) (n : Nat) : Prop := ∀ q, q < n → c 4 (80 + (3 + q)) = nI (p q) ∧ p q < g 0
section CEL
variable {g p : Nat → Nat} {v : Nat → Nat → Nat} {c : Nat → Nat → Int32}
theorem sheet1 {u : (Nat → Nat → Nat) × (Nat → Nat → Int32)} {r : Int32} (h : sp_sheet v c u (nI 1) (nI 1) (nI 30) r) (h3 : c 2 3 = -1) (ha : AL g v) : r = nI 1 ∧ SH1 u.1 u.2 ∧ u.2 2 3 = -1 ∧ AL g u.1 := by
  obtain ⟨h1, h2, h4, h5⟩ := sheet_k h (by decide) (by decide) (by decide)
  exact ⟨h1, ⟨by rw [h2, up_eqA], by rw [h4, up_eq]⟩, by rw [h2, up_neA (by decide)]; exact h3, AL_eq ha h5⟩
theorem put1 {u : (Nat → Nat → Nat) × (Nat → Nat → Int32)} {q z : Nat} {r : Int32} (h : sp_put v c u (nI 1) (nI q) (nI z) r) (hT : SH1 v c) (ha : AL g v) (hq : q < 30) (hz : z < 128) :
    r = nI 1 ∧ SH1 u.1 u.2 ∧ u.2 2 = c 2 ∧ AL g u.1 ∧ u.2 4 (80 + q) = nI z ∧ ∀ e, e ≠ 80 + q → u.2 4 e = c 4 e := by
  obtain ⟨t1, t2⟩ := hT
  obtain ⟨h1, h2, h3, h4, h5⟩ := put_k h (by decide) (by rw [t1]; decide) (by omega) (by omega)
  rw [t1, cut_1 z hz, show 1 * 80 + q = 80 + q by omega] at h2
  exact ⟨h1, ⟨by rw [h3]; exact t1, by rw [h4]; exact t2⟩, h3, AL_eq ha h5, by rw [h2, up_eqA], fun e he => by rw [h2, up_neA he]⟩
theorem SH_xs {u : (Nat → Nat → Nat) × (Nat → Nat → Int32)} {F : Nat} (h : SH1 v c) (hX : XS v c u F) : SH1 u.1 u.2 := by
  obtain ⟨e1, e2, e3⟩ := XS_c hX
  exact ⟨by rw [e1]; exact h.1, by rw [e3]; exact h.2⟩
theorem CL_xs {u : (Nat → Nat → Nat) × (Nat → Nat → Int32)} {F n : Nat} (h : CL g p c n) (hX : XS v c u F) : CL g p u.2 n := by
  obtain ⟨e1, e2, e3⟩ := XS_c hX
  intro q hq
  rw [e2]
  exact h q hq
theorem CL_cg {p' : Nat → Nat} {n : Nat} (h : CL g p c n) (hp : ∀ q, q < n → p' q = p q) : CL g p' c n := fun q hq => by rw [hp q hq]; exact h q hq
theorem CL_s {c' : Nat → Nat → Int32} {n : Nat} (h : CL g p c n) (hc : ∀ e, e ≠ 80 + (3 + n) → c' 4 e = c 4 e) (hv : c' 4 (80 + (3 + n)) = nI (p n)) (hb : p n < g 0) : CL g p c' (n + 1) := by
  intro q hq
  by_cases e : q = n
  · subst e; exact ⟨hv, hb⟩
  · rw [hc _ (by omega)]; exact h q (by omega)
/-- cells taken: none is refused -/
theorem tkB_no {sh so j n : Nat} {r : Int32} {F : Nat} (hs : SH1 v c) (h1 : sh = 1) (h2 : so = 1) (hb : j + n ≤ 30) (h : tkB (xNo c) (xHas c) (v 3) (nI sh) (nI so) False (nI j) (nI n) r F) : False := by
  subst h1 h2
  obtain ⟨s1, s2⟩ := hs
  rcases h with ⟨h, -⟩ | ⟨k, -, -, h, -⟩ | ⟨k, s, a1, a2, a3, a4, -, h⟩
  · exact nR_no h (by decide)
  · rcases h with h | h
    · exact nR_no h (by decide)
    · exact h
  · have := kp_4 a1 (show 1 < 4 by decide) a3; subst this
    have := kp_4 (show s < 4 by omega) (show 1 < 4 by decide) a4; subst this
    rcases h with ⟨h, -⟩ | ⟨-, h, -⟩ | ⟨-, h, -⟩ | ⟨-, -, h, -⟩
    · rw [h] at s1; exact absurd s1 (by decide)
    · exact h s1
    · rw [n_tI (by omega)] at h; omega
    · rw [n_tI (by omega), n_tI (by omega)] at h; omega
theorem tp_ok {bt : Nat} {fin : (Nat → Nat) → Int32 → Prop} {r : Int32} {F : Nat} (hI : XI v) (ha : AL g v) (hg : GL g) (hd : GD g) (hs : SH1 v c) (hbt : bt ≤ 6) (hc : CL g p c (g 37 * bt))
    (h : sp_tp (xNo c) (xHas c) (v 3) (xCell c) (v 11 0) (v 11 1) (v 15 0) bt (nI 1) (nI 1) (nI 3) fin r F) : ∃ st, (∀ k e, k < bt → e < v 15 0 → st (k * 4 + e) = ps (g 37) p (k * 4 + e)) ∧ fin st r := by
  obtain ⟨a1, a2, -, -, -, a6, -⟩ := ha
  have hn := hd.1
  have hm : bt * v 15 0 ≤ 18 := by rw [a6]; exact Nat.mul_le_mul hbt hn
  rcases h with h | ⟨k, s1, j, n, ⟨b1, b2, b3, b4, -, b5, b6, b7, b8⟩, -, h⟩
  · exact (tkB_no hs rfl rfl (by omega) h).elim
  · have := kp_4 b1 (show 1 < 4 by decide) b3; subst this
    have hv := hs.2
    have hj : 3 = j := (n_inj (by omega) (by omega)).mp b6
    subst hj
    have key : ∀ q, q < bt * v 15 0 → xCell c 1 (3 + q) = nI (p q) ∧ p q < g 0 := fun q hq => by
      show c 4 (1 * 80 + (3 + q)) = _ ∧ _
      rw [show 1 * 80 + (3 + q) = 80 + (3 + q) by omega]
      exact hc q (by rw [Nat.mul_comm, ← a6]; exact hq)
    rcases h with ⟨h, -⟩ | ⟨-, ⟨q, q1, q2⟩, -⟩ | ⟨-, st, h1, h2⟩
    · have := hg.2.1.1; omega
    · have h5 := key q q1
      exact (q2 ⟨p q, by rw [a1]; exact h5.2, h5.1⟩).elim
    · refine ⟨st, fun k e hk he => ?_, h2⟩
      have h3 := h1 k e hk he
      have hq : k * v 15 0 + e < bt * v 15 0 := lin_lt hk he
      have h4 := key _ hq
      have h0 := hg.1.2
      have h5 : st (k * 4 + e) = p (k * v 15 0 + e) := (n_inj (by have := h3.2; omega) (by have := h4.2; omega)).mp (h3.1.symm.trans h4.1)
      rw [ps_at (by omega), h5, a6, Nat.mul_comm]
abbrev SOp (v : Nat → Nat → Nat) (c : Nat → Nat → Int32) (x sh so i r : Int32) (F : Nat) : Prop := sp_bt (xNo c) (xHas c) (v 3) (xCell c) (v 11 0) (v 11 1) (v 15 0) x (fun _ => True) sh so i (fun bt st r => sp_opd (v 11 0) (v 12) (v 15 0) (lA (v 16)) (pA (v 16) (v 17)) st (v 11 1) (v 13) (xFig v) bt r) r F
abbrev SFe (v : Nat → Nat → Nat) (c : Nat → Nat → Int32) (x y sh so i r : Int32) (F : Nat) : Prop := sp_bt (xNo c) (xHas c) (v 3) (xCell c) (v 11 0) (v 11 1) (v 15 0) x (fun bt => ∃ j, j < bt ∧ y = nI j) sh so i (fun bt st r => ∃ j, j < bt ∧ y = nI j ∧ r = nI (FE (v 11 0) (v 12) (v 15 0) (lA (v 16)) (pA (v 16) (v 17)) st j)) r F
abbrev SWr (v : Nat → Nat → Nat) (c : Nat → Nat → Int32) (x sh so i r : Int32) (F : Nat) : Prop := sp_wrong (xNo c) (xHas c) (v 3) (xCell c) (v 11 0) (v 11 1) (v 15 0) (v 13) x sh so i (fun d st r => sp_wrg (v 11 0) (v 12) (v 15 0) (lA (v 16)) (pA (v 16) (v 17)) st (v 13) (xFig v) d r) r F
theorem opens_ok {bt : Nat} {r r' : Int32} {F : Nat} (hI : XI v) (ha : AL g v) (hg : GL g) (hd : GD g) (hs : SH1 v c) (hbt : 1 ≤ bt ∧ bt ≤ 6) (hc : CL g p c (g 37 * bt)) (h : SOp v c (nI bt) (nI 1) (nI 1) (nI 3) r F) (ho : OPD g p bt r') : r = r' := by
  rcases h with ⟨b, b1, b2, b3, -, h⟩ | ⟨h, -⟩
  · have := (n_inj (by omega) (by omega)).mp b3; subst this
    obtain ⟨st, h1, h2⟩ := tp_ok hI ha hg hd hs hbt.2 hc h
    obtain ⟨a1, a2, a3, a4, a5, a6, a7⟩ := id ha
    have ho2 : sp_opd (v 11 0) (gND g) (v 15 0) (lA (gKD g)) (pA (gKD g) (gWT g)) (ps (g 37) p) (v 11 1) (gBT g) (gFG g) bt r' := by rw [a1, a2, a6]; exact ho
    exact d_opd (al_nd hI).2.1 (al_need ha) (al_pl ha) (al_bt ha) (al_fg ha) h1 h2 ho2
  · exact (h ⟨bt, hbt.1, hbt.2, rfl, trivial⟩).elim
theorem felt_ok {bt k : Nat} {r : Int32} {F : Nat} (hI : XI v) (ha : AL g v) (hg : GL g) (hd : GD g) (hs : SH1 v c) (hbt : 1 ≤ bt ∧ bt ≤ 6) (hk : k < bt) (hc : CL g p c (g 37 * bt)) (h : SFe v c (nI bt) (nI k) (nI 1) (nI 1) (nI 3) r F) : r = nI (fE0 g p k) := by
  rcases h with ⟨b, b1, b2, b3, -, h⟩ | ⟨h, -⟩
  · have := (n_inj (by omega) (by omega)).mp b3; subst this
    obtain ⟨st, h1, j, j1, j2, j3⟩ := tp_ok hI ha hg hd hs hbt.2 hc h
    have := (n_inj (by omega) (by omega)).mp j2; subst this
    obtain ⟨a1, a2, a3, a4, a5, a6, a7⟩ := id ha
    rw [j3]
    have : FE (v 11 0) (v 12) (v 15 0) (lA (v 16)) (pA (v 16) (v 17)) st k = FE (v 11 0) (gND g) (v 15 0) (lA (gKD g)) (pA (gKD g) (gWT g)) (ps (g 37) p) k :=
      FE_cg (al_need ha) (fun e he => ⟨by
        unfold tr
        rw [(al_pl ha e he).2]
        by_cases hl : k % 2 = 1 ∧ lA (gKD g) e ≠ 0
        · rw [if_pos hl, if_pos hl]; exact h1 (k - 1) e (by omega) he
        · rw [if_neg hl, if_neg hl]; exact h1 k e hk he, (al_pl ha e he).1⟩)
    rw [this, a1, a6]
  · exact (h ⟨bt, hbt.1, hbt.2, rfl, k, hk, rfl⟩).elim
abbrev WRG (g p : Nat → Nat) (d : Nat) (r : Int32) : Prop := sp_wrg (g 0) (gND g) (g 37) (lA (gKD g)) (pA (gKD g) (gWT g)) (ps (g 37) p) (gBT g) (gFG g) d r
theorem wrong_ok {d bt : Nat} {r r' : Int32} {F : Nat} (hI : XI v) (ha : AL g v) (hg : GL g) (hd : GD g) (hs : SH1 v c) (hdd : d < g 1) (hbt : gBT g d ≤ bt) (hc : CL g p c (g 37 * bt)) (h : SWr v c (nI d) (nI 1) (nI 1) (nI 3) r F) (ho : WRG g p d r') : r = r' := by
  obtain ⟨a1, a2, a3, a4, a5, a6, a7⟩ := id ha
  have h4 := hg.2.1.2
  have h6 := hg.2.2.2.1 d hdd
  rcases h with ⟨d', b1, b2, h⟩ | ⟨h, -⟩
  · have := (n_inj (by omega) (by have := (al_nd hI).2.1; omega)).mp b2; subst this
    have e1 := al_bt ha d (by omega)
    have e6 : v 13 d ≤ 6 := by rw [e1]; exact h6.2
    have hc2 : CL g p c (g 37 * v 13 d) := fun q hq => hc q (Nat.lt_of_lt_of_le hq (Nat.mul_le_mul_left _ (by rw [e1]; exact hbt)))
    obtain ⟨st, h1, h2⟩ := tp_ok hI ha hg hd hs e6 hc2 h
    have ho2 : sp_wrg (v 11 0) (gND g) (v 15 0) (lA (gKD g)) (pA (gKD g) (gWT g)) (ps (g 37) p) (gBT g) (gFG g) d r' := by rw [a1, a6]; exact ho
    exact d_wrg (by omega) (al_need ha) (al_pl ha) e1 (fun k hk => al_fg ha d k (by omega) hk) h1 h2 ho2
  · exact (nR_no h (by omega)).elim
/-- the first wrong beat, from the last on -/
def WRi (g p : Nat → Nat) (d i : Nat) (r : Int32) : Prop := (r = -9 ∧ ∀ k, i ≤ k → k < gBT g d → fE0 g p k = gFG g d k) ∨ ∃ k, i ≤ k ∧ k < gBT g d ∧ r = nI k ∧ fE0 g p k ≠ gFG g d k ∧ ∀ j, i ≤ j → j < k → fE0 g p j = gFG g d j
theorem WR_0 {d : Nat} : WRi g p d (g (9 + d)) (-9) := Or.inl ⟨rfl, fun k h1 h2 => by have h3 : k < g (9 + d) := h2; omega⟩
theorem WR_n {d i : Nat} {r : Int32} (h : WRi g p d (i + 1) r) (hn : fE0 g p i = gFG g d i) : WRi g p d i r := by
  have key : ∀ e, i ≤ e → e ≠ i → i + 1 ≤ e := fun e h1 h2 => by omega
  rcases h with ⟨h1, h2⟩ | ⟨k, h1, h2, h3, h4, h5⟩
  · refine Or.inl ⟨h1, fun e he h6 => ?_⟩
    by_cases hh : e = i
    · subst hh; exact hn
    · exact h2 e (key e he hh) h6
  · refine Or.inr ⟨k, by omega, h2, h3, h4, fun e he h6 => ?_⟩
    by_cases hh : e = i
    · subst hh; exact hn
    · exact h5 e (key e he hh) h6
theorem WR_y {d i : Nat} (hi : i < gBT g d) (hn : fE0 g p i ≠ gFG g d i) : WRi g p d i (nI i) := Or.inr ⟨i, Nat.le_refl _, hi, rfl, hn, fun e h1 h2 => by omega⟩
theorem WR_end {d : Nat} {r : Int32} (h : WRi g p d 0 r) : WRG g p d r := by
  rcases h with ⟨h1, h2⟩ | ⟨k, h1, h2, h3, h4, h5⟩
  · exact Or.inr ⟨h1, fun e he => h2 e (Nat.zero_le _) he⟩
  · exact Or.inl ⟨k, h2, h3, h4, fun e he => h5 e (Nat.zero_le _) he⟩
/-- can: then a first plan there is, of boards -/
theorem can_1 {d : Nat} {r : Int32} (hI : XI v) (ha : AL g v) (hd : d < g 1) (h : SCan v (nI d) r) (h1 : r = nI 1) : ∃ st, PY g d st := by
  obtain ⟨a1, a2, a3, a4, a5, a6, a7⟩ := id ha
  rcases h with ⟨d', b1, b2, h⟩ | ⟨h, -⟩
  · have := (n_inj (by have := (al_nd hI).2.1; omega) (by have := (al_nd hI).2.1; omega)).mp b2; subst this
    rcases h with ⟨⟨st, h⟩, -⟩ | ⟨-, h⟩
    · have h2 := planY_cg (al_cgf ha d b1) (al_bt ha d b1) h
      rw [a1, a6] at h2
      exact ⟨st, h2⟩
    · rw [h1] at h; exact absurd h (by decide)
  · exact (nR_no h (by omega)).elim
theorem PY_lt {d k e : Nat} {st : Nat → Nat} (h0 : 0 < g 0) (h : PY g d st) (hk : k < gBT g d) (he : e < g 37) : st (k * 4 + e) < g 0 := by
  rcases Nat.mod_two_eq_zero_or_one k with hz | hz
  · obtain ⟨⟨h1, -⟩, -⟩ := h k hz hk
    exact (h1.2.2 e (Nat.zero_le _) he).2 (fun z => by have := z.1; omega)
  · obtain ⟨-, h2⟩ := h (k - 1) (by omega) (by omega)
    rw [show k - 1 + 1 = k by omega] at h2
    obtain ⟨h1, -⟩ := h2 hk
    have h3 := h1.2.2 e (Nat.zero_le _) he
    by_cases hl : k % 2 = 1 ∧ lA (gKD g) e ≠ 0
    · rw [h3.1 hl]; exact h0
    · exact h3.2 hl
theorem plan_lt {d k e : Nat} {r : Int32} (hI : XI v) (ha : AL g v) (h0 : 0 < g 0) (hd : d < g 1) (hk : k < gBT g d) (he : e < g 37) (h : SPlan v (nI d) (nI k) (nI e) r) (hp : ∃ st, PY g d st) : ∃ pv, pv < g 0 ∧ r = nI pv := by
  obtain ⟨st, hp⟩ := hp
  exact ⟨_, PY_lt h0 hp hk he, plan_y hI ha hd hk he h hp⟩
end CEL
/-! counting -/
theorem dg_up0 {nb n a i z : Nat} {p : Nat → Nat} {y : Nat} (hi : i = z + 1) (h : ∀ e, i ≤ e → e < n → p e = digf nb n a e) (hy : y = digf nb n a z) : ∀ e, z ≤ e → e < n → va_up p z y e = digf nb n a e := by
  intro e h1 h2
  by_cases hh : e = z
  · subst hh; rw [up_eq]; exact hy
  · rw [up_ne hh]; exact h e (by omega) h2
theorem fE0_row {g p : Nat → Nat} {a : Nat} (hn : g 37 ≤ 3) (h : ∀ e, e < g 37 → p e = digf (g 0) (g 37) a e) : fE0 g p 0 = FE (g 0) (gND g) (g 37) (lA (gKD g)) (pA (gKD g) (gWT g)) (digf (g 0) (g 37) a) 0 :=
  fe_e rfl (fun e he => by rw [ps_at (by omega), Nat.mul_zero, Nat.zero_add]; exact h e he)
abbrev ICR (g : Nat → Nat) (f : Nat) (q : Nat) : Nat := icr (g 0) (gND g) (g 37) (lA (gKD g)) (pA (gKD g) (gWT g)) f q
theorem ic_y {g p : Nat → Nat} {a f m : Nat} (hn : g 37 ≤ 3) (hm : m = sm (ICR g f) a) (h : ∀ e, e < g 37 → p e = digf (g 0) (g 37) a e) (hf : fE0 g p 0 = f) : m + 1 = sm (ICR g f) (a + 1) := by
  rw [sm_s, ← hm]
  show _ = m + (if _ then _ else _)
  rw [← fE0_row hn h, if_pos hf]
theorem ic_n {g p : Nat → Nat} {a f m : Nat} (hn : g 37 ≤ 3) (hm : m = sm (ICR g f) a) (h : ∀ e, e < g 37 → p e = digf (g 0) (g 37) a e) (hf : fE0 g p 0 ≠ f) : m + 0 = sm (ICR g f) (a + 1) := by
  rw [sm_s, ← hm]
  show _ = m + (if _ then _ else _)
  rw [← fE0_row hn h, if_neg hf]
abbrev SPls (v : Nat → Nat → Nat) (x k : Int32) (r : Int64) : Prop := sp_plans (v 11 0) (v 12) (v 15 0) (lA (v 16)) (pA (v 16) (v 17)) (v 11 1) (v 13) (xFig v) x k r
theorem plans_g {g : Nat → Nat} {v : Nat → Nat → Nat} {x k : Int32} {r r' : Int64} (hI : XI v) (h : AL g v) (q : SPls v x k r) (q' : sp_plans (g 0) (gND g) (g 37) (lA (gKD g)) (pA (gKD g) (gWT g)) (g 1) (gBT g) (gFG g) x k r') : r = r' :=
  d_plans (al_nd hI).2.1 h.1 h.2.2.2.2.2.1 h.2.1 (al_need h) (al_pl h) (fun d hd => ⟨al_bt h d hd, al_6 hI d hd⟩) (al_fg h) q q'
theorem plans_ok {g : Nat → Nat} {v : Nat → Nat → Nat} {d k m : Nat} {r : Int64} (hI : XI v) (h : AL g v) (hg : GL g) (hd : GD g) (hdd : d < g 1) (hk : k < gBT g d) (hm : m = sm (ICR g (gFG g d k)) (g 0 ^ g 37)) (q : SPls v (nI d) (nI k) r) : r = lN m := by
  have hn := hd.1
  have h0 := hg.1.1
  refine plans_g hI h q (Or.inl ⟨d, k, hdd, hk, rfl, rfl, fun _ => 0, ?_⟩)
  have h1 := cr_rows (nb := g 0) (need := gND g) (nc := g 37) (li := lA (gKD g)) (p := pA (gKD g) (gWT g)) (f := gFG g d k) (by omega) (by omega) (g 37) (fun _ => 0) 0 (Nat.le_refl _) (by rw [Nat.sub_self, Nat.pow_zero]; exact Nat.one_pos) (fun e he => by omega) (by rw [Nat.sub_self]; rfl)
  rw [h1, hm]
  congr 1
  exact sm_congr (fun q _ => by rw [Nat.zero_mul, Nat.zero_add])
theorem plans_x {g : Nat → Nat} {v : Nat → Nat → Nat} {x k : Int32} {r : Int64} (hI : XI v) (h : AL g v) (hx : ¬ ∃ d j, d < g 1 ∧ j < gBT g d ∧ x = nI d ∧ k = nI j) (q : SPls v x k r) : r = (-9223372036854775808) := plans_g hI h q (Or.inr ⟨hx, rfl⟩)
theorem lcmp_0 {x y : Int64} (h : x = y) : lg_cmp x y = 0 := by
  subst h
  unfold lg_cmp
  simp
