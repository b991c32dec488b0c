/-! ===== the law's figures, plans and what is felt ===== -/
def gND (g : Nat → Nat) : Nat → Nat := fun b => g (2 + b)
def gBT (g : Nat → Nat) : Nat → Nat := fun d => g (9 + d)
def gFG (g : Nat → Nat) : Nat → Nat → Nat := fun d k => g (13 + 6 * d + k)
def gKD (g : Nat → Nat) : Nat → Nat := fun d => g (38 + d)
def gWT (g : Nat → Nat) : Nat → Nat := fun d => g (42 + d)
/-- a plan, beat by beat -/
def ps (n : Nat) (p : Nat → Nat) : Nat → Nat := fun q => p (n * (q / 4) + q % 4)
theorem ps_at {n k d : Nat} {p : Nat → Nat} (hd : d < 4) : ps n p (k * 4 + d) = p (n * k + d) := by
  unfold ps
  rw [show (k * 4 + d) / 4 = k by omega, show (k * 4 + d) % 4 = d by omega]
abbrev fE0 (g p : Nat → Nat) (k : Nat) : Nat := FE (g 0) (gND g) (g 37) (lA (gKD g)) (pA (gKD g) (gWT g)) (ps (g 37) p) k
abbrev fE1 (g p : Nat → Nat) (k : Nat) : Nat := FE (g 0) (gND g) (g 37) (fun _ => 0) (gWT g) (ps (g 37) p) k
/-- the lock as the law knows it; its dancers -/
def GL (g : Nat → Nat) : Prop := (2 ≤ g 0 ∧ g 0 ≤ 4) ∧ (1 ≤ g 1 ∧ g 1 ≤ 4) ∧ (∀ b, b < g 0 → 1 ≤ g (2 + b) ∧ g (2 + b) ≤ 9) ∧ (∀ d, d < g 1 → 1 ≤ g (9 + d) ∧ g (9 + d) ≤ 6) ∧ ∀ d k, d < g 1 → k < g (9 + d) → g (13 + 6 * d + k) < 2 ^ g 0
def GD (g : Nat → Nat) : Prop := g 37 ≤ 3 ∧ ∀ d, d < g 37 → g (38 + d) ≤ 2 ∧ 1 ≤ g (42 + d) ∧ g (42 + d) ≤ 9
theorem trb {g p : Nat → Nat} {n k d : Nat} (hd : d < 4) (h : 0 < g (38 + d)) (hk : k % 2 = 1) : tr (lA (gKD g)) (ps n p) k d = p (n * (k - 1) + d) := by
  unfold tr
  rw [if_pos ⟨hk, by unfold lA gKD; rw [if_pos (show 1 ≤ g (38 + d) from h)]; decide⟩]
  exact ps_at hd
theorem trf0 {g p : Nat → Nat} {n k d : Nat} (hd : d < 4) (h : g (38 + d) = 0) : tr (lA (gKD g)) (ps n p) k d = p (n * k + d) := by
  unfold tr
  rw [if_neg (fun z => z.2 (by unfold lA gKD; rw [if_neg (by omega)]))]
  exact ps_at hd
theorem trf1 {g p : Nat → Nat} {n k d : Nat} (hd : d < 4) (h : k % 2 ≠ 1) : tr (lA (gKD g)) (ps n p) k d = p (n * k + d) := by
  unfold tr
  rw [if_neg (fun z => h z.1)]
  exact ps_at hd
theorem trw {p : Nat → Nat} {n k d : Nat} (hd : d < 4) : tr (fun _ => 0) (ps n p) k d = p (n * k + d) := by
  unfold tr
  rw [if_neg (fun z => z.2 rfl)]
  exact ps_at hd
theorem fm_n {li st p : Nat → Nat} {k d t i x : Nat} (h : x = sm (fun d => if tr li st k d = i then p d else 0) d) (ht : tr li st k d = t) (hn : t ≠ i) : x = sm (fun d => if tr li st k d = i then p d else 0) (d + 1) := by
  rw [sm_s, ← h]; show _ = x + (if _ then _ else _); rw [ht, if_neg hn, Nat.add_zero]
theorem fm_y {li st p : Nat → Nat} {k d t i x y : Nat} (h : x = sm (fun d => if tr li st k d = i then p d else 0) d) (ht : tr li st k d = t) (hn : t = i) (hp : p d = y) : x + y = sm (fun d => if tr li st k d = i then p d else 0) (d + 1) := by
  rw [sm_s, ← h]; show _ = x + (if _ then _ else _); rw [ht, if_pos hn, hp]
theorem pA2 {g : Nat → Nat} {d : Nat} (h : g (38 + d) = 2) : pA (gKD g) (gWT g) d = g (42 + d) / 2 := if_pos h
theorem pA1 {g : Nat → Nat} {d : Nat} (h : g (38 + d) ≠ 2) : pA (gKD g) (gWT g) d = g (42 + d) := if_neg h
theorem pA_le9 {g : Nat → Nat} {d : Nat} (h : g (42 + d) ≤ 9) : pA (gKD g) (gWT g) d ≤ 9 := by unfold pA gKD gWT; split <;> omega
theorem fsm_le {li st p : Nat → Nat} {k i n : Nat} (h : ∀ d, d < n → p d ≤ 9) : sm (fun d => if tr li st k d = i then p d else 0) n ≤ 9 * n := sm_le (fun d hd => by
  show (if _ then _ else _) ≤ 9
  split
  · exact h d hd
  · exact Nat.zero_le _)
theorem p2_16 {n : Nat} (h : n ≤ 4) : (2 : Nat) ^ n ≤ 16 := Nat.le_trans (Nat.pow_le_pow_right (by decide) h) (by decide)
theorem fE0_lt {g p : Nat → Nat} {k : Nat} (h : g 0 ≤ 4) : fE0 g p k < 16 := Nat.lt_of_lt_of_le (FE_lt _ _ _ _ _ _ _) (p2_16 h)
theorem fE1_lt {g p : Nat → Nat} {k : Nat} (h : g 0 ≤ 4) : fE1 g p k < 16 := Nat.lt_of_lt_of_le (FE_lt _ _ _ _ _ _ _) (p2_16 h)
/-- which door is opened, the law's way: from the last one down -/
def OPi (g p : Nat → Nat) (bt i : Nat) (r : Int32) : Prop := (r = -9 ∧ ∀ e, i ≤ e → e < g 1 → ¬ opd (g 0) (gND g) (g 37) (lA (gKD g)) (pA (gKD g) (gWT g)) (ps (g 37) p) (gBT g) (gFG g) bt e) ∨
  ∃ d, i ≤ d ∧ d < g 1 ∧ r = nI d ∧ opd (g 0) (gND g) (g 37) (lA (gKD g)) (pA (gKD g) (gWT g)) (ps (g 37) p) (gBT g) (gFG g) bt d ∧ ∀ e, i ≤ e → e < d → ¬ opd (g 0) (gND g) (g 37) (lA (gKD g)) (pA (gKD g) (gWT g)) (ps (g 37) p) (gBT g) (gFG g) bt e
abbrev OPD (g p : Nat → Nat) (bt : Nat) (r : Int32) : Prop := sp_opd (g 0) (gND g) (g 37) (lA (gKD g)) (pA (gKD g) (gWT g)) (ps (g 37) p) (g 1) (gBT g) (gFG g) bt r
theorem OP_0 {g p : Nat → Nat} {bt : Nat} : OPi g p bt (g 1) (-9) := Or.inl ⟨rfl, fun e h1 h2 => by omega⟩
theorem OP_n {g p : Nat → Nat} {bt i : Nat} {r : Int32} (h : OPi g p bt (i + 1) r) (hn : ¬ opd (g 0) (gND g) (g 37) (lA (gKD g)) (pA (gKD g) (gWT g)) (ps (g 37) p) (gBT g) (gFG g) bt i) : OPi g p bt i r := by
  have key : ∀ e, i ≤ e → e ≠ i → i + 1 ≤ e := fun e h1 h2 => by omega
  rcases h with ⟨h1, h2⟩ | ⟨d, h1, h2, h3, h4, h5⟩
  · refine Or.inl ⟨h1, fun e he h6 => ?_⟩
    by_cases hh : e = i
    · subst hh; exact hn
    · exact h2 e (key e he hh) h6
  · refine Or.inr ⟨d, by omega, h2, h3, h4, fun e he h6 => ?_⟩
    by_cases hh : e = i
    · subst hh; exact hn
    · exact h5 e (key e he hh) h6
theorem OP_y {g p : Nat → Nat} {bt i : Nat} (hi : i < g 1) (hn : opd (g 0) (gND g) (g 37) (lA (gKD g)) (pA (gKD g) (gWT g)) (ps (g 37) p) (gBT g) (gFG g) bt i) : OPi g p bt i (nI i) :=
  Or.inr ⟨i, Nat.le_refl _, hi, rfl, hn, fun e h1 h2 => by omega⟩
theorem OP_end {g p : Nat → Nat} {bt : Nat} {r : Int32} (h : OPi g p bt 0 r) : OPD g p bt r := by
  rcases h with ⟨h1, h2⟩ | ⟨d, h1, h2, h3, h4, h5⟩
  · exact Or.inr ⟨h1, fun e he => h2 e (Nat.zero_le _) he⟩
  · exact Or.inl ⟨d, h2, h3, h4, fun e he => h5 e (Nat.zero_le _) he⟩
theorem i_land (x : Int32) : ∃ j, j < 2147483648 ∧ x &&& 2147483647 = nI j := by
  obtain ⟨n, hn, rfl⟩ : ∃ n, n < 4294967296 ∧ x = nI n := ⟨x.toBitVec.toNat, x.toBitVec.isLt, Int32.toBitVec_inj.mp (by show _ = BitVec.ofNat 32 _; simp)⟩
  exact ⟨n &&& 2147483647, Nat.lt_of_le_of_lt Nat.and_le_right (by decide), nx_and n 2147483647⟩
/-! ===== the law's text of a lock ===== -/
theorem RS_cg {nb f : Nat} {cs cs' : Nat → Int32} : ∀ {k : Nat} {S : pS}, (∀ e, e < f + k → cs e = cs' e) → RS nb cs f k S → RS nb cs' f k S := by
  intro k
  induction k with
  | zero => intro S _ h; exact h
  | succ k ih =>
    intro S he h
    obtain ⟨T, h1, h2⟩ := h
    exact ⟨T, ih (fun e h => he e (by omega)) h1, by rw [← he (f + k) (by omega)]; exact h2⟩
theorem TKN_cg {cs cs' : Nat → Int32} {n nb : Nat} {need : Nat → Nat} {S : pS} (h : TKN cs n nb need S) (he : ∀ e, e < n → cs e = cs' e) : TKN cs' n nb need S := by
  obtain ⟨⟨h1, h2, h3, h4, h5⟩, h6, h7, h8, h9⟩ := h
  exact ⟨⟨h1, by rw [← he 0 (by omega)]; exact h2, h3, h4, by rw [← he 1 (by omega)]; exact h5⟩, fun e hh => by obtain ⟨a, b, c, d⟩ := h6 e hh; exact ⟨a, b, c, by rw [← he _ a]; exact d⟩, h7, RS_cg (fun e hh => he e (by omega)) h8, h9⟩
/-- the head of the text -/
def PHD (g : Nat → Nat) (cs : Nat → Int32) (i : Nat) : Prop := cs 0 = nI 108 ∧ cs 1 = nI (48 + g 0) ∧ ∀ e, e < i → (1 ≤ g (2 + e) ∧ g (2 + e) ≤ 9) ∧ cs (2 + e) = nI (48 + g (2 + e))
theorem PHD_s {g g' : Nat → Nat} {cs cs' : Nat → Int32} {i w : Nat} (h : PHD g cs i) (hg : ∀ q, q ≠ 2 + i → g' q = g q) (hw : g' (2 + i) = w) (h1 : 1 ≤ w ∧ w ≤ 9) (hc : ∀ q, q ≠ 2 + i → cs' q = cs q) (hv : cs' (2 + i) = nI (48 + w)) : PHD g' cs' (i + 1) := by
  obtain ⟨a, b, c⟩ := h
  refine ⟨by rw [hc 0 (by omega)]; exact a, by rw [hc 1 (by omega), hg 0 (by omega)]; exact b, fun e he => ?_⟩
  by_cases hh : e = i
  · subst hh; rw [hw]; exact ⟨h1, hv⟩
  · rw [hc _ (by omega), hg _ (by omega)]; exact c e (by omega)
theorem PHD_cg {g g' : Nat → Nat} {cs cs' : Nat → Int32} (h : PHD g cs (g 0)) (h0 : g' 0 = g 0) (hg : ∀ q, q < 2 + g 0 → g' q = g q) (hc : ∀ q, q < 2 + g 0 → cs' q = cs q) : PHD g' cs' (g' 0) := by
  obtain ⟨a, b, c⟩ := h
  rw [h0]
  refine ⟨by rw [hc 0 (by omega)]; exact a, by rw [hc 1 (by omega), hg 0 (by omega)]; exact b, fun e he => ?_⟩
  rw [hc _ (by omega), hg _ (by omega)]
  exact c e he
/-- the doors written so far; the beats of one, the boards of one -/
def PDs (g : Nat → Nat) (dd : Nat) : Prop := ∀ d, d < dd → (1 ≤ g (9 + d) ∧ g (9 + d) ≤ 6) ∧ ∀ k, k < g (9 + d) → g (13 + 6 * d + k) < 2 ^ g 0
def PSs (g : Nat → Nat) (S : pS) (dd : Nat) : Prop := ∀ e, e < dd → S.2.1 e = g (9 + e) ∧ ∀ j, j < g (9 + e) → S.2.2 (e * 6 + j) = g (13 + 6 * e + j)
def PD (g : Nat → Nat) (cs : Nat → Int32) (t dd : Nat) : Prop := PHD g cs (g 0) ∧ PDs g dd ∧ 2 + g 0 ≤ t ∧ ∃ S, RS (g 0) cs (2 + g 0) (t - (2 + g 0)) S ∧ S.1 = dd ∧ PSs g S dd
def PK (g : Nat → Nat) (cs : Nat → Int32) (t dd kk : Nat) : Prop := PHD g cs (g 0) ∧ PDs g dd ∧ (∀ j, j < kk → g (13 + 6 * dd + j) < 2 ^ g 0) ∧ 2 + g 0 ≤ t ∧ ∃ S, RS (g 0) cs (2 + g 0) (t - (2 + g 0)) S ∧ ((kk = 0 ∧ S.1 = dd) ∨ (0 < kk ∧ S.1 = dd + 1 ∧ S.2.1 dd = kk)) ∧ PSs g S dd ∧ ∀ j, j < kk → S.2.2 (dd * 6 + j) = g (13 + 6 * dd + j)
def PB (g : Nat → Nat) (cs : Nat → Int32) (t dd kk z i : Nat) : Prop := PHD g cs (g 0) ∧ PDs g dd ∧ (∀ j, j < kk + 1 → g (13 + 6 * dd + j) < 2 ^ g 0) ∧ g (13 + 6 * dd + kk) = z ∧ 2 + g 0 ≤ t ∧ ∃ S, RS (g 0) cs (2 + g 0) (t - (2 + g 0)) S ∧ S.1 = dd + 1 ∧ S.2.1 dd = kk + 1 ∧ PSs g S dd ∧ (∀ j, j < kk → S.2.2 (dd * 6 + j) = g (13 + 6 * dd + j)) ∧ S.2.2 (dd * 6 + kk) = z % 2 ^ i
theorem PD_0 {g : Nat → Nat} {cs : Nat → Int32} (h : PHD g cs (g 0)) : PD g cs (2 + g 0) 0 :=
  ⟨h, fun d hd => absurd hd (Nat.not_lt_zero _), Nat.le_refl _, S0, by rw [Nat.sub_self]; rfl, rfl, fun e he => absurd he (Nat.not_lt_zero _)⟩
theorem PK_0 {g g' : Nat → Nat} {cs : Nat → Int32} {t dd : Nat} (h : PD g cs t dd) (h4 : g 0 ≤ 4) (hd : dd < 4) (hg : ∀ q, q ≠ 9 + dd → g' q = g q) : PK g' cs t dd 0 := by
  obtain ⟨a, b, c, S, d, e, f⟩ := h
  have h0 := hg 0 (by omega)
  refine ⟨PHD_cg a h0 (fun q hq => hg q (by omega)) (fun q _ => rfl), fun d' hd' => ?_, fun j hj => absurd hj (Nat.not_lt_zero _), by rw [h0]; exact c, S, by rw [h0]; exact d, Or.inl ⟨rfl, e⟩, fun e' he' => ?_, fun j hj => absurd hj (Nat.not_lt_zero _)⟩
  · obtain ⟨b1, b2⟩ := b d' hd'
    rw [hg _ (by omega), h0]
    exact ⟨b1, fun k hk => by rw [hg _ (by omega)]; exact b2 k hk⟩
  · obtain ⟨f1, f2⟩ := f e' he'
    rw [hg _ (by omega)]
    exact ⟨f1, fun j hj => by rw [hg _ (by omega)]; exact f2 j hj⟩
/-- a beat begins -/
theorem PB_0 {g g' : Nat → Nat} {cs cs' : Nat → Int32} {t dd kk z : Nat} (h : PK g cs t dd kk) (h4 : g 0 ≤ 4) (hd : dd < 4) (hk : kk < 6) (hz : z < 2 ^ g 0) (hg : ∀ q, q ≠ 13 + 6 * dd + kk → g' q = g q) (hv : g' (13 + 6 * dd + kk) = z) (hc : ∀ q, q ≠ t → cs' q = cs q) (hx : cs' t = if kk = 0 then nI 59 else nI 44) : PB g' cs' (t + 1) dd kk z 0 := by
  obtain ⟨a, b, c, d, S, e, f, s1, s2⟩ := h
  have h0 := hg 0 (by omega)
  have hr : RS (g' 0) cs' (2 + g' 0) (t - (2 + g' 0)) S := by rw [h0]; exact RS_cg (fun q hq => (hc q (by omega)).symm) e
  have hP : PHD g' cs' (g' 0) := PHD_cg a h0 (fun q hq => hg q (by omega)) (fun q hq => hc q (by omega))
  have hb : PDs g' dd := fun d' hd' => by
    obtain ⟨b1, b2⟩ := b d' hd'
    rw [hg _ (by omega), h0]
    exact ⟨b1, fun k hk => by rw [hg _ (by omega)]; exact b2 k hk⟩
  have hf : ∀ j, j < kk + 1 → g' (13 + 6 * dd + j) < 2 ^ g' 0 := fun j hj => by
    rw [h0]
    by_cases hh : j = kk
    · subst hh; rw [hv]; exact hz
    · rw [hg _ (by omega)]; exact c j (by omega)
  have ht : t + 1 - (2 + g' 0) = (t - (2 + g' 0)) + 1 := by omega
  have hx2 : cs' (2 + g' 0 + (t - (2 + g' 0))) = if kk = 0 then nI 59 else nI 44 := by rw [show 2 + g' 0 + (t - (2 + g' 0)) = t by omega]; exact hx
  have hps : ∀ S2 : pS, (∀ e', e' < dd → S2.2.1 e' = S.2.1 e') → (∀ q, q < dd * 6 → S2.2.2 q = S.2.2 q) → PSs g' S2 dd := fun S2 q1 q2 e' he' => by
    obtain ⟨f1, f2⟩ := s1 e' he'
    obtain ⟨b1, b2⟩ := b e' he'
    rw [hg _ (by omega), q1 e' he']
    exact ⟨f1, fun j hj => by rw [hg _ (by omega), q2 _ (by omega)]; exact f2 j hj⟩
  rcases f with ⟨f0, f1⟩ | ⟨f0, f1, f2⟩
  · subst f0
    refine ⟨hP, hb, hf, hv, by omega, (S.1 + 1, va_up S.2.1 S.1 1, va_up S.2.2 (S.1 * 6) 0), by rw [ht]; exact ⟨S, hr, Or.inl ⟨by rw [hx2, if_pos rfl], by omega, rfl⟩⟩, by show S.1 + 1 = _; omega, by show va_up S.2.1 S.1 1 dd = _; rw [f1, up_eq], hps _ (fun e' he' => up_ne (by omega)) (fun q hq => up_ne (by omega)), fun j hj => absurd hj (Nat.not_lt_zero _), ?_⟩
    show va_up S.2.2 (S.1 * 6) 0 (dd * 6 + 0) = _
    rw [show dd * 6 + 0 = S.1 * 6 by omega, up_eq]
    exact (Nat.mod_one z).symm
  · refine ⟨hP, hb, hf, hv, by omega, (S.1, va_up S.2.1 (S.1 - 1) (S.2.1 (S.1 - 1) + 1), va_up S.2.2 ((S.1 - 1) * 6 + S.2.1 (S.1 - 1)) 0), by rw [ht]; exact ⟨S, hr, Or.inr (Or.inl ⟨by rw [hx2, if_neg (by omega)], by omega, by rw [show S.1 - 1 = dd by omega, f2]; exact hk, rfl⟩)⟩, f1, ?_, ?_, fun j hj => ?_, ?_⟩
    · show va_up S.2.1 (S.1 - 1) (S.2.1 (S.1 - 1) + 1) dd = _
      rw [show S.1 - 1 = dd by omega, up_eq, f2]
    · rw [show S.1 - 1 = dd by omega]
      exact hps _ (fun e' he' => up_ne (by omega)) (fun q hq => up_ne (by omega))
    · show va_up S.2.2 ((S.1 - 1) * 6 + S.2.1 (S.1 - 1)) 0 (dd * 6 + j) = _
      rw [show S.1 - 1 = dd by omega, f2, up_ne (by omega), hg _ (by omega)]
      exact s2 j hj
    · show va_up S.2.2 ((S.1 - 1) * 6 + S.2.1 (S.1 - 1)) 0 (dd * 6 + kk) = _
      rw [show S.1 - 1 = dd by omega, f2, up_eq]
      exact (Nat.mod_one z).symm
theorem bit_y : ∀ z, z < 16 → ∀ i, i < 4 → z / 2 ^ i % 2 = 1 → z % 2 ^ (i + 1) = z % 2 ^ i ||| 2 ^ i ∧ pc (z % 2 ^ (i + 1)) = pc (z % 2 ^ i) + 1 ∧ pc (z % 2 ^ i) < 4 ∧ z % 2 ^ i / 2 ^ i = 0 := by decide +kernel
theorem bit_n : ∀ z, z < 16 → ∀ i, i < 4 → z / 2 ^ i % 2 ≠ 1 → z % 2 ^ (i + 1) = z % 2 ^ i := by decide +kernel
theorem pcm_le : ∀ z, z < 16 → ∀ i, i < 5 → pc (z % 2 ^ i) ≤ pc z := by decide +kernel
theorem pc_or1 : ∀ z, z < 16 → ∀ j, j < 4 → pc (z ||| 1 * 2 ^ j) ≤ pc z + 1 := by decide +kernel
theorem PB_y {g : Nat → Nat} {cs cs' : Nat → Int32} {t dd kk z i : Nat} (h : PB g cs t dd kk z i) (h4 : g 0 ≤ 4) (hz : z < 16) (hi : i < g 0) (hb : z / 2 ^ i % 2 = 1) (hc : ∀ q, q ≠ t → cs' q = cs q) (hx : cs' t = nI (48 + i)) : PB g cs' (t + 1) dd kk z (i + 1) := by
  obtain ⟨a, b, c, d, e, S, r, s1, s2, s3, s4, s5⟩ := h
  obtain ⟨z1, z2, z3, z4⟩ := bit_y z hz i (by omega) hb
  have hp : (S.1 - 1) * 6 + S.2.1 (S.1 - 1) - 1 = dd * 6 + kk := by rw [show S.1 - 1 = dd by omega, s2]; omega
  refine ⟨PHD_cg a rfl (fun q _ => rfl) (fun q hq => hc q (by omega)), b, c, d, by omega, (S.1, S.2.1, va_up S.2.2 ((S.1 - 1) * 6 + S.2.1 (S.1 - 1) - 1) (S.2.2 ((S.1 - 1) * 6 + S.2.1 (S.1 - 1) - 1) ||| 2 ^ i)), ?_, s1, s2, fun e' he' => ?_, fun j hj => ?_, ?_⟩
  · rw [show t + 1 - (2 + g 0) = (t - (2 + g 0)) + 1 by omega]
    refine ⟨S, RS_cg (fun q hq => (hc q (by omega)).symm) r, Or.inr (Or.inr ⟨i, hi, by rw [show 2 + g 0 + (t - (2 + g 0)) = t by omega]; exact hx, by omega, ?_, ?_, rfl⟩)⟩
    · rw [hp, s5]; exact z4
    · rw [hp, s5]; exact z3
  · obtain ⟨f1, f2⟩ := s3 e' he'
    have b1 := (b e' he').1
    refine ⟨f1, fun j hj => ?_⟩
    show va_up S.2.2 _ _ (e' * 6 + j) = _
    rw [hp, up_ne (by omega)]
    exact f2 j hj
  · show va_up S.2.2 _ _ (dd * 6 + j) = _
    rw [hp, up_ne (by omega)]
    exact s4 j hj
  · show va_up S.2.2 _ _ (dd * 6 + kk) = _
    rw [hp, up_eq, s5, z1]
theorem PB_n {g : Nat → Nat} {cs : Nat → Int32} {t dd kk z i : Nat} (h : PB g cs t dd kk z i) (hz : z < 16) (hi : i < 4) (hb : z / 2 ^ i % 2 ≠ 1) : PB g cs t dd kk z (i + 1) := by
  obtain ⟨a, b, c, d, e, S, r, s1, s2, s3, s4, s5⟩ := h
  exact ⟨a, b, c, d, e, S, r, s1, s2, s3, s4, by rw [bit_n z hz i hi hb]; exact s5⟩
theorem PK_s {g : Nat → Nat} {cs : Nat → Int32} {t dd kk z : Nat} (h : PB g cs t dd kk z (g 0)) : PK g cs t dd (kk + 1) := by
  obtain ⟨a, b, c, d, e, S, r, s1, s2, s3, s4, s5⟩ := h
  have hz : z < 2 ^ g 0 := by rw [← d]; exact c kk (by omega)
  refine ⟨a, b, c, e, S, r, Or.inr ⟨by omega, s1, s2⟩, s3, fun j hj => ?_⟩
  by_cases hh : j = kk
  · subst hh; rw [s5, d]; exact Nat.mod_eq_of_lt hz
  · exact s4 j (by omega)
theorem PD_s {g : Nat → Nat} {cs : Nat → Int32} {t dd : Nat} (h : PK g cs t dd (g (9 + dd))) (h1 : 1 ≤ g (9 + dd) ∧ g (9 + dd) ≤ 6) : PD g cs t (dd + 1) := by
  obtain ⟨a, b, c, d, S, r, f, s1, s2⟩ := h
  have f' := f.resolve_left (fun z => by omega)
  refine ⟨a, fun d' hd' => ?_, d, S, r, f'.2.1, fun e' he' => ?_⟩
  · by_cases hh : d' = dd
    · subst hh; exact ⟨h1, c⟩
    · exact b d' (by omega)
  · by_cases hh : e' = dd
    · subst hh; exact ⟨f'.2.2, s2⟩
    · exact s1 e' (by omega)
theorem PD_end {g : Nat → Nat} {cs : Nat → Int32} {t : Nat} (h : PD g cs t (g 1)) (h0 : 2 ≤ g 0 ∧ g 0 ≤ 4) (h1 : 1 ≤ g 1 ∧ g 1 ≤ 4) : GL g ∧ ∃ S, TKN cs t (g 0) (gND g) S ∧ S.1 = g 1 ∧ PSs g S (g 1) := by
  obtain ⟨a, b, c, S, r, s1, s2⟩ := h
  obtain ⟨a1, a2, a3⟩ := a
  exact ⟨⟨h0, h1, fun e he => (a3 e he).1, fun d hd => (b d hd).1, fun d k hd hk => (b d hd).2 k hk⟩, S, ⟨⟨by omega, a1, h0.1, by omega, a2⟩, fun e he => ⟨by omega, (a3 e he).1.1, (a3 e he).1.2, (a3 e he).2⟩, c, r, by omega⟩, s1, s2⟩
