/-! ===== rows as numbers ===== -/
/-- the dancers of a beat gone over: who is free brings a digit -/
def vqx (nb : Nat) (fr x : Nat → Nat) (y j : Nat) : Nat → Nat
  | 0 => y
  | n + 1 => @ite Nat (fr (j + n) = 0) inferInstance (vqx nb fr x y j n) (vqx nb fr x y j n * nb + x (j + n))
def cnq (nb : Nat) (fr : Nat → Nat) : Nat → Nat
  | 0 => 1
  | n + 1 => @ite Nat (fr n = 0) inferInstance (cnq nb fr n) (cnq nb fr n * nb)
theorem vqx_z {nb y j n : Nat} {fr x : Nat → Nat} (h : fr (j + n) = 0) : vqx nb fr x y j (n + 1) = vqx nb fr x y j n := if_pos h
theorem vqx_f {nb y j n : Nat} {fr x : Nat → Nat} (h : ¬ fr (j + n) = 0) : vqx nb fr x y j (n + 1) = vqx nb fr x y j n * nb + x (j + n) := if_neg h
theorem cnq_z {nb n : Nat} {fr : Nat → Nat} (h : fr n = 0) : cnq nb fr (n + 1) = cnq nb fr n := if_pos h
theorem cnq_f {nb n : Nat} {fr : Nat → Nat} (h : ¬ fr n = 0) : cnq nb fr (n + 1) = cnq nb fr n * nb := if_neg h
theorem vqx_left {nb : Nat} {fr x : Nat → Nat} : ∀ n y j, vqx nb fr x y j (n + 1) = vqx nb fr x (if fr j = 0 then y else y * nb + x j) (j + 1) n := by
  intro n
  induction n with
  | zero =>
    intro y j
    by_cases h : fr j = 0
    · rw [vqx_z (by rw [Nat.add_zero]; exact h), if_pos h]; rfl
    · rw [vqx_f (by rw [Nat.add_zero]; exact h), if_neg h]; rfl
  | succ n ih =>
    intro y j
    by_cases h : fr (j + (n + 1)) = 0
    · rw [vqx_z h, ih, vqx_z (by rw [show j + 1 + n = j + (n + 1) by omega]; exact h)]
    · rw [vqx_f h, ih, vqx_f (by rw [show j + 1 + n = j + (n + 1) by omega]; exact h), show j + 1 + n = j + (n + 1) by omega]
theorem vqx_congr {nb y j : Nat} {fr x x' : Nat → Nat} : ∀ n, (∀ e, j ≤ e → e < j + n → x e = x' e) → vqx nb fr x y j n = vqx nb fr x' y j n := by
  intro n
  induction n with
  | zero => intro _; rfl
  | succ n ih =>
    intro h
    have h1 := ih (fun e h2 h3 => h e h2 (by omega))
    by_cases h2 : fr (j + n) = 0
    · rw [vqx_z h2, vqx_z h2, h1]
    · rw [vqx_f h2, vqx_f h2, h1, h (j + n) (by omega) (by omega)]
theorem vqx_lt {nb : Nat} {fr x : Nat → Nat} : ∀ n, (∀ e, e < n → fr e ≠ 0 → x e < nb) → vqx nb fr x 0 0 n < cnq nb fr n := by
  intro n
  induction n with
  | zero => intro _; exact Nat.one_pos
  | succ n ih =>
    intro h
    have h1 := ih (fun e he => h e (by omega))
    by_cases h2 : fr n = 0
    · rw [vqx_z (by rw [Nat.zero_add]; exact h2), cnq_z h2]; exact h1
    · rw [vqx_f (by rw [Nat.zero_add]; exact h2), cnq_f h2, Nat.zero_add]
      have h3 := h n (by omega) h2
      have h4 : (vqx nb fr x 0 0 n + 1) * nb ≤ cnq nb fr n * nb := Nat.mul_le_mul_right nb h1
      rw [Nat.succ_mul] at h4
      omega
theorem vqx_inj {nb : Nat} {fr x x' : Nat → Nat} : ∀ n, (∀ e, e < n → fr e ≠ 0 → x e < nb ∧ x' e < nb) → vqx nb fr x 0 0 n = vqx nb fr x' 0 0 n → ∀ e, e < n → fr e ≠ 0 → x e = x' e := by
  intro n
  induction n with
  | zero => intro _ _ e he; exact absurd he (Nat.not_lt_zero _)
  | succ n ih =>
    intro h hv e he hf
    by_cases h2 : fr n = 0
    · rw [vqx_z (by rw [Nat.zero_add]; exact h2), vqx_z (by rw [Nat.zero_add]; exact h2)] at hv
      by_cases h3 : e = n
      · subst h3; exact absurd h2 hf
      · exact ih (fun e he => h e (by omega)) hv e (by omega) hf
    · rw [vqx_f (by rw [Nat.zero_add]; exact h2), vqx_f (by rw [Nat.zero_add]; exact h2), Nat.zero_add] at hv
      have h4 := h n (by omega) h2
      have h5 : vqx nb fr x 0 0 n = vqx nb fr x' 0 0 n := by
        rcases Nat.lt_trichotomy (vqx nb fr x 0 0 n) (vqx nb fr x' 0 0 n) with h6 | h6 | h6
        · have h7 : (vqx nb fr x 0 0 n + 1) * nb ≤ vqx nb fr x' 0 0 n * nb := Nat.mul_le_mul_right nb h6
          rw [Nat.succ_mul] at h7; omega
        · exact h6
        · have h7 : (vqx nb fr x' 0 0 n + 1) * nb ≤ vqx nb fr x 0 0 n * nb := Nat.mul_le_mul_right nb h6
          rw [Nat.succ_mul] at h7; omega
      by_cases h3 : e = n
      · subst h3; rw [h5] at hv; omega
      · exact ih (fun e he => h e (by omega)) h5 e (by omega) hf
theorem vqx_mono {nb : Nat} {fr x x' : Nat → Nat} : ∀ n, (∀ e, e < n → fr e ≠ 0 → x e < nb ∧ x' e < nb) → (∀ e, e < n → fr e = 0 → x e = x' e) → (∃ e, e < n ∧ x e < x' e ∧ ∀ j, j < e → x j = x' j) → vqx nb fr x 0 0 n < vqx nb fr x' 0 0 n := by
  intro n
  induction n with
  | zero => rintro _ _ ⟨e, he, -⟩; exact absurd he (Nat.not_lt_zero _)
  | succ n ih =>
    rintro h h0 ⟨e, he, h1, h2⟩
    by_cases h3 : fr n = 0
    · rw [vqx_z (by rw [Nat.zero_add]; exact h3), vqx_z (by rw [Nat.zero_add]; exact h3)]
      refine ih (fun e he => h e (by omega)) (fun e he => h0 e (by omega)) ⟨e, ?_, h1, h2⟩
      have : e ≠ n := fun z => by subst z; have := h0 e he h3; omega
      omega
    · rw [vqx_f (by rw [Nat.zero_add]; exact h3), vqx_f (by rw [Nat.zero_add]; exact h3), Nat.zero_add]
      by_cases h4 : e = n
      · subst h4
        rw [vqx_congr (x' := x') e (fun i _ hi => h2 i (by omega))]
        omega
      · have h5 := ih (fun e he => h e (by omega)) (fun e he => h0 e (by omega)) ⟨e, by omega, h1, h2⟩
        have h6 := h n (by omega) h3
        have h7 : (vqx nb fr x 0 0 n + 1) * nb ≤ vqx nb fr x' 0 0 n * nb := Nat.mul_le_mul_right nb h5
        rw [Nat.succ_mul] at h7; omega
theorem cnq_le {nb : Nat} {fr : Nat → Nat} (h : nb ≤ 7) : ∀ n, cnq nb fr n ≤ 7 ^ n := by
  intro n
  induction n with
  | zero => exact Nat.le_refl _
  | succ n ih =>
    rw [Nat.pow_succ]
    by_cases h2 : fr n = 0
    · rw [cnq_z h2]; omega
    · rw [cnq_f h2]; exact Nat.mul_le_mul ih h
theorem cnq_2401 {nb n : Nat} {fr : Nat → Nat} (h : nb ≤ 7) (hn : n ≤ 4) : cnq nb fr n ≤ 2401 := Nat.le_trans (cnq_le h n) (Nat.le_trans (Nat.pow_le_pow_right (by decide) hn) (by decide))
/-- who does not limp in a beat; who limps in the one behind it -/
def frk (li : Nat → Nat) (k d : Nat) : Nat := if k % 2 = 1 ∧ li d ≠ 0 then 0 else 1
def lmk (li : Nat → Nat) (k d : Nat) : Nat := if k % 2 = 1 ∧ li d ≠ 0 then 1 else 0
theorem frk_z {li : Nat → Nat} {k d : Nat} (h1 : k % 2 = 1) (h2 : li d ≠ 0) : frk li k d = 0 := if_pos ⟨h1, h2⟩
theorem frk_f {li : Nat → Nat} {k d : Nat} (h : ¬ (k % 2 = 1 ∧ li d ≠ 0)) : ¬ frk li k d = 0 := by unfold frk; rw [if_neg h]; decide
theorem frk_i {li : Nat → Nat} {k d : Nat} (h : frk li k d ≠ 0) : ¬ (k % 2 = 1 ∧ li d ≠ 0) := fun z => h (if_pos z)
theorem frk_j {li : Nat → Nat} {k d : Nat} (h : frk li k d = 0) : k % 2 = 1 ∧ li d ≠ 0 := Classical.byContradiction (fun z => frk_f z h)
theorem lmk_f {li : Nat → Nat} {k d : Nat} (h1 : k % 2 = 1) (h2 : li d ≠ 0) : ¬ lmk li k d = 0 := by unfold lmk; rw [if_pos ⟨h1, h2⟩]; decide
theorem lmk_z {li : Nat → Nat} {k d : Nat} (h : ¬ (k % 2 = 1 ∧ li d ≠ 0)) : lmk li k d = 0 := if_neg h
/-- a beat's digits as they may be -/
def DGS (nb nc : Nat) (li : Nat → Nat) (k : Nat) (g : Nat → Nat) : Prop := ∀ e, e < nc → (k % 2 = 1 ∧ li e ≠ 0 → g (k * 4 + e) = 0) ∧ (¬ (k % 2 = 1 ∧ li e ≠ 0) → g (k * 4 + e) < nb)
def vlk (nb nc : Nat) (li : Nat → Nat) (k : Nat) (g : Nat → Nat) : Nat := vqx nb (frk li k) (fun e => g (k * 4 + e)) 0 0 nc
def OUTk (k : Nat) (g st : Nat → Nat) : Prop := ∀ q, (q < k * 4 ∨ k * 4 + 4 ≤ q) → g q = st q
/-- row number row is laid -/
def LBk (nb nc : Nat) (li : Nat → Nat) (k row : Nat) (st g : Nat → Nat) : Prop := OUTk k g st ∧ DGS nb nc li k g ∧ vlk nb nc li k g = row
theorem DGS_fr {nb nc k : Nat} {li g : Nat → Nat} (h : DGS nb nc li k g) : ∀ e, e < nc → frk li k e ≠ 0 → g (k * 4 + e) < nb := fun e he hf => (h e he).2 (frk_i hf)
theorem vlk_lt {nb nc k : Nat} {li g : Nat → Nat} (h : DGS nb nc li k g) : vlk nb nc li k g < cnq nb (frk li k) nc := vqx_lt nc (DGS_fr h)
theorem vlk_inj {nb nc k : Nat} {li g t : Nat → Nat} (h : DGS nb nc li k g) (h' : DGS nb nc li k t) (e : vlk nb nc li k g = vlk nb nc li k t) : ∀ d, d < nc → g (k * 4 + d) = t (k * 4 + d) := by
  intro d hd
  by_cases h2 : frk li k d = 0
  · rw [(h d hd).1 (frk_j h2), (h' d hd).1 (frk_j h2)]
  · exact vqx_inj (x := fun e => g (k * 4 + e)) (x' := fun e => t (k * 4 + e)) nc (fun e he hf => ⟨DGS_fr h e he hf, DGS_fr h' e he hf⟩) e d hd h2
theorem vlk_mono {nb nc k : Nat} {li g t : Nat → Nat} (h : DGS nb nc li k g) (h' : DGS nb nc li k t) (hx : lx nc k g t) : vlk nb nc li k g < vlk nb nc li k t :=
  vqx_mono (x := fun e => g (k * 4 + e)) (x' := fun e => t (k * 4 + e)) nc (fun e he hf => ⟨DGS_fr h e he hf, DGS_fr h' e he hf⟩) (fun e he hf => by show g _ = t _; rw [(h e he).1 (frk_j hf), (h' e he).1 (frk_j hf)]) hx
theorem cp_DGS {nb nc k : Nat} {li st t : Nat → Nat} (h : cp nb nc li k 0 st t) : DGS nb nc li k t := fun e he => h.2.2 e (Nat.zero_le _) he
theorem cp_of {nb nc k : Nat} {li st t : Nat → Nat} (hnc : nc ≤ 4) (h : DGS nb nc li k t) (ho : k % 2 = 1 → OUTk k t st) : cp nb nc li k 0 st t :=
  ⟨fun hk e he => ho hk _ (Or.inl (by omega)), fun e he => absurd he (Nat.not_lt_zero _), fun e _ he => h e he⟩
theorem OK_dg {nb : Nat} {need : Nat → Nat} {nc : Nat} {li p F g t : Nat → Nat} {k : Nat} (h : ∀ e, e < nc → g (k * 4 + e) = t (k * 4 + e)) (ho : k % 2 = 1 → ∀ e, e < nc → g ((k - 1) * 4 + e) = t ((k - 1) * 4 + e)) : OKb nb need nc li p F k g ↔ OKb nb need nc li p F k t := by
  rcases Nat.mod_two_eq_zero_or_one k with h2 | h2
  · exact OK_even h2 h
  · exact OK_at (fun e he => ⟨ho h2 e he, h e he⟩)
/-- none of the rows from a one to a one -/
def NRk (nb : Nat) (need : Nat → Nat) (nc : Nat) (li p F : Nat → Nat) (k lo hi : Nat) (st : Nat → Nat) : Prop := ∀ q t, lo ≤ q → q < hi → LBk nb nc li k q st t → ¬ OKb nb need nc li p F k t
theorem LB_tr {nb nc k row : Nat} {li st g t : Nat → Nat} (h : OUTk k g st) (ht : LBk nb nc li k row g t) : LBk nb nc li k row st t := ⟨fun q hq => (ht.1 q hq).trans (h q hq), ht.2⟩
theorem LB_ok {nb : Nat} {need : Nat → Nat} {nc : Nat} {li p F st g t : Nat → Nat} {k row : Nat} (hnc : nc ≤ 4) (h : LBk nb nc li k row st g) (h' : LBk nb nc li k row st t) : OKb nb need nc li p F k g ↔ OKb nb need nc li p F k t :=
  OK_dg (vlk_inj h.2.1 h'.2.1 (h.2.2.trans h'.2.2.symm)) (fun h2 e he => (h.1 _ (Or.inl (by omega))).trans (h'.1 _ (Or.inl (by omega))).symm)
theorem NR_0 {nb : Nat} {need : Nat → Nat} {nc : Nat} {li p F st : Nat → Nat} {k lo : Nat} : NRk nb need nc li p F k lo lo st := fun q t h1 h2 => by omega
theorem NR_s {nb : Nat} {need : Nat → Nat} {nc : Nat} {li p F st g : Nat → Nat} {k lo hi : Nat} (hnc : nc ≤ 4) (h : NRk nb need nc li p F k lo hi st) (hg : LBk nb nc li k hi st g) (hn : ¬ OKb nb need nc li p F k g) : NRk nb need nc li p F k lo (hi + 1) st := by
  intro q t h1 h2 ht hq
  by_cases e : q = hi
  · subst e; exact hn ((LB_ok hnc hg ht).mpr hq)
  · exact h q t h1 (by omega) ht hq
/-- a row that may be, laid over others' steps -/
def mix (k : Nat) (st t : Nat → Nat) : Nat → Nat := fun q => if k * 4 ≤ q ∧ q < k * 4 + 4 then t q else st q
theorem mix_in {k q : Nat} {st t : Nat → Nat} (h : q < 4) : mix k st t (k * 4 + q) = t (k * 4 + q) := if_pos ⟨by omega, by omega⟩
theorem mix_out {k : Nat} {st t : Nat → Nat} : OUTk k (mix k st t) st := fun q hq => if_neg (by omega)
theorem mix_LB {nb nc k : Nat} {li st t : Nat → Nat} (hnc : nc ≤ 4) (h : DGS nb nc li k t) : LBk nb nc li k (vlk nb nc li k t) st (mix k st t) :=
  ⟨mix_out, fun e he => by rw [mix_in (by omega)]; exact h e he, vqx_congr nc (fun e _ he => mix_in (by omega))⟩
theorem mix_ok {nb : Nat} {need : Nat → Nat} {nc : Nat} {li p F st t : Nat → Nat} {k : Nat} (hnc : nc ≤ 4) (h : cp nb nc li k 0 st t) : OKb nb need nc li p F k (mix k st t) ↔ OKb nb need nc li p F k t :=
  OK_dg (fun e he => mix_in (by omega)) (fun h2 e he => (mix_out _ (Or.inl (by omega))).trans (h.1 h2 e he).symm)
/-- what the search from the first row on says -/
theorem NR_cp {nb : Nat} {need : Nat → Nat} {nc : Nat} {li p F st t : Nat → Nat} {k lo hi : Nat} (hnc : nc ≤ 4) (h : NRk nb need nc li p F k lo hi st) (ht : cp nb nc li k 0 st t) (h1 : lo ≤ vlk nb nc li k t) (h2 : vlk nb nc li k t < hi) : ¬ OKb nb need nc li p F k t :=
  fun z => h _ _ h1 h2 (mix_LB hnc (cp_DGS ht)) ((mix_ok hnc ht).mpr z)
theorem row_min {nb : Nat} {need : Nat → Nat} {nc : Nat} {li p F st g : Nat → Nat} {k row : Nat} (hnc : nc ≤ 4) (hg : LBk nb nc li k row st g) (hok : OKb nb need nc li p F k g) (h : NRk nb need nc li p F k 0 row st) : MINb nb nc li k 0 st (OKb nb need nc li p F k) g :=
  ⟨cp_of hnc hg.2.1 (fun _ => hg.1), hok, fun t ht hq hl => NR_cp hnc h ht (Nat.zero_le _) (by have := vlk_mono (cp_DGS ht) hg.2.1 hl; rw [hg.2.2] at this; exact this) hq⟩
theorem row_no {nb : Nat} {need : Nat → Nat} {nc : Nat} {li p F st : Nat → Nat} {k : Nat} (hnc : nc ≤ 4) (h : NRk nb need nc li p F k 0 (cnq nb (frk li k) nc) st) : NOb nb nc li k 0 st (OKb nb need nc li p F k) :=
  fun t ht hq => NR_cp hnc h ht (Nat.zero_le _) (vlk_lt (cp_DGS ht)) hq
/-- laying a row, digit by digit, from the last dancer on -/
theorem lay_s {nb nc k d y row : Nat} {li g : Nat → Nat} {x y2 : Nat} (hd : d < nc) (h : vqx nb (frk li k) (fun e => g (k * 4 + e)) y (d + 1) (nc - (d + 1)) = row) (hc : (frk li k d = 0 → y2 = y) ∧ (frk li k d ≠ 0 → y2 * nb + x = y)) :
    vqx nb (frk li k) (fun e => va_up g (k * 4 + d) x (k * 4 + e)) y2 d (nc - d) = row := by
  obtain ⟨n, hn⟩ : ∃ n, nc - d = n + 1 := ⟨nc - d - 1, by omega⟩
  rw [hn, vqx_left, ← h, show nc - (d + 1) = n by omega]
  have e1 : (if frk li k d = 0 then y2 else y2 * nb + va_up g (k * 4 + d) x (k * 4 + d)) = y := by
    by_cases hz : frk li k d = 0
    · rw [if_pos hz]; exact hc.1 hz
    · rw [if_neg hz, up_eq]; exact hc.2 hz
  rw [e1]
  exact vqx_congr n (fun e h1 h2 => up_ne (by omega))
theorem dg_s {nb nc k d : Nat} {li g : Nat → Nat} {x : Nat} (h : ∀ e, d + 1 ≤ e → e < nc → (k % 2 = 1 ∧ li e ≠ 0 → g (k * 4 + e) = 0) ∧ (¬ (k % 2 = 1 ∧ li e ≠ 0) → g (k * 4 + e) < nb)) (h0 : (k % 2 = 1 ∧ li d ≠ 0 → x = 0) ∧ (¬ (k % 2 = 1 ∧ li d ≠ 0) → x < nb)) :
    ∀ e, d ≤ e → e < nc → (k % 2 = 1 ∧ li e ≠ 0 → va_up g (k * 4 + d) x (k * 4 + e) = 0) ∧ (¬ (k % 2 = 1 ∧ li e ≠ 0) → va_up g (k * 4 + d) x (k * 4 + e) < nb) := by
  intro e h1 h2
  by_cases h3 : e = d
  · subst h3; rw [up_eq]; exact h0
  · rw [up_ne (by omega)]; exact h e (by omega) h2
theorem out_s {k d x : Nat} {g st : Nat → Nat} (h : OUTk k g st) (hd : d < 4) : OUTk k (va_up g (k * 4 + d) x) st := fun q hq => by rw [up_ne (by omega)]; exact h q hq
theorem out_rf {k : Nat} {g : Nat → Nat} : OUTk k g g := fun _ _ => rfl
theorem out_tr {k : Nat} {f g h : Nat → Nat} (h1 : OUTk k f g) (h2 : OUTk k g h) : OUTk k f h := fun q hq => (h1 q hq).trans (h2 q hq)
theorem vqx_end {nb nc k y row : Nat} {li g : Nat → Nat} (h : vqx nb (frk li k) (fun e => g (k * 4 + e)) y 0 (nc - 0) = row) (hy : y < cnq nb (frk li k) 0) : vlk nb nc li k g = row := by
  have : y = 0 := by have : cnq nb (frk li k) 0 = 1 := rfl; omega
  subst this
  exact h
theorem dec_I {x : Nat} (h : x < 1000) : (nI x + -1).toInt = (x : Int) - 1 := by
  have h1 : nI x + -1 = nI x - nI 1 := (Int32.sub_eq_add_neg (nI x) (nI 1)).symm
  rw [h1]; exact pk_sub_toInt (by omega) (by decide)
/-- the limpers' boards as a number -/
def lfk (nb nc : Nat) (li : Nat → Nat) (k : Nat) (g : Nat → Nat) : Nat := vqx nb (lmk li (k + 1)) (fun e => g (k * 4 + e)) 0 0 nc
theorem lfk_lt {nb nc k : Nat} {li g : Nat → Nat} (hnb : nb ≤ 7) (hnc : nc ≤ 4) (h : ∀ e, e < nc → g (k * 4 + e) < nb) : lfk nb nc li k g < 2401 := Nat.lt_of_lt_of_le (vqx_lt nc (fun e he _ => h e he)) (cnq_2401 hnb hnc)
theorem lfk_inj {nb nc k : Nat} {li g t : Nat → Nat} (h : ∀ e, e < nc → g (k * 4 + e) < nb) (h' : ∀ e, e < nc → t (k * 4 + e) < nb) (e : lfk nb nc li k g = lfk nb nc li k t) : ∀ d, d < nc → (k + 1) % 2 = 1 → li d ≠ 0 → g (k * 4 + d) = t (k * 4 + d) := fun d hd h1 h2 =>
  vqx_inj (x := fun e => g (k * 4 + e)) (x' := fun e => t (k * 4 + e)) nc (fun e he _ => ⟨h e he, h' e he⟩) e d hd (lmk_f h1 h2)
/-- what fails behind hangs on the limpers' boards alone -/
theorem NO_lf {nb : Nat} {need : Nat → Nat} {nc : Nat} {li p F g t : Nat → Nat} {k : Nat} (hnc : nc ≤ 4) (hk : k % 2 = 0) (hg : ∀ e, e < nc → g (k * 4 + e) < nb) (ht : ∀ e, e < nc → t (k * 4 + e) < nb) (e : lfk nb nc li k g = lfk nb nc li k t) (hn : NOb nb nc li (k + 1) 0 g (OKb nb need nc li p F (k + 1))) : NOb nb nc li (k + 1) 0 t (OKb nb need nc li p F (k + 1)) := by
  intro u hu hq
  have hi := lfk_inj hg ht e
  refine hn (mix (k + 1) g u) (cp_of hnc (mix_LB hnc (cp_DGS hu)).2.1 (fun _ => mix_out)) ?_
  unfold OKb at hq ⊢
  rw [← hq]
  refine FE_congr (fun d hd => ⟨?_, rfl⟩)
  unfold tr
  by_cases h2 : (k + 1) % 2 = 1 ∧ li d ≠ 0
  · rw [if_pos h2, if_pos h2, mix_out _ (Or.inl (by omega)), hu.1 h2.1 d hd, Nat.add_sub_cancel]; exact hi d hd h2.1 h2.2
  · rw [if_neg h2, if_neg h2]; exact mix_in (by omega)
/-- the marks -/
def HNk (nb : Nat) (need : Nat → Nat) (nc : Nat) (li p F : Nat → Nat) (k : Nat) (h : Nat → Nat) : Prop := ∀ q, q < 2401 → h q ≤ 1 ∧ (h q ≠ 0 → ∀ t, (∀ e, e < nc → t (k * 4 + e) < nb) → lfk nb nc li k t = q → NOb nb nc li (k + 1) 0 t (OKb nb need nc li p F (k + 1)))
theorem HN_0 {nb : Nat} {need : Nat → Nat} {nc : Nat} {li p F h : Nat → Nat} {k : Nat} (h0 : ∀ q, q < 2401 → h q = 0) : HNk nb need nc li p F k h := fun q hq => ⟨by rw [h0 q hq]; decide, fun z => absurd (h0 q hq) z⟩
theorem HN_s {nb : Nat} {need : Nat → Nat} {nc : Nat} {li p F h g : Nat → Nat} {k : Nat} (hnc : nc ≤ 4) (hk : k % 2 = 0) (hH : HNk nb need nc li p F k h) (hg : ∀ e, e < nc → g (k * 4 + e) < nb) (hn : NOb nb nc li (k + 1) 0 g (OKb nb need nc li p F (k + 1))) : HNk nb need nc li p F k (va_up h (lfk nb nc li k g) 1) := by
  intro q hq
  by_cases e : q = lfk nb nc li k g
  · subst e; rw [up_eq]; exact ⟨Nat.le_refl _, fun _ t ht h1 => NO_lf hnc hk hg ht h1.symm hn⟩
  · rw [up_ne e]; exact hH q hq
theorem DGS_ev {nb nc k : Nat} {li g : Nat → Nat} (hk : k % 2 = 0) (h : DGS nb nc li k g) : ∀ e, e < nc → g (k * 4 + e) < nb := fun e he => (h e he).2 (fun z => by omega)
/-- the two beats: what is known while rows are gone over -/
def LOk (nb : Nat) (need : Nat → Nat) (nc : Nat) (li p F : Nat → Nat) (B k row : Nat) : Prop := ∀ t, DGS nb nc li k t → vlk nb nc li k t < row → ¬ PPb nb need nc li p F B k t
theorem LO_0 {nb : Nat} {need : Nat → Nat} {nc : Nat} {li p F st : Nat → Nat} {B k row : Nat} (hnc : nc ≤ 4) (hk : k % 2 = 0) (h : NRk nb need nc li p F k 0 row st) : LOk nb need nc li p F B k row :=
  fun t ht h1 hq => NR_cp hnc h (cp_of hnc ht (fun z => by omega)) (Nat.zero_le _) h1 hq.1
theorem PP_no {nb : Nat} {need : Nat → Nat} {nc : Nat} {li p F g t : Nat → Nat} {B k : Nat} (hB : k + 1 < B) (he : ∀ e, e < nc → g (k * 4 + e) = t (k * 4 + e)) (hn : NOb nb nc li (k + 1) 0 g (OKb nb need nc li p F (k + 1))) : ¬ PPb nb need nc li p F B k t := by
  intro hq
  obtain ⟨u, h1, h2⟩ := hq.2 hB
  exact hn u (cp_prev (fun e h => (he e h).symm) h1) h2
theorem LO_s {nb : Nat} {need : Nat → Nat} {nc : Nat} {li p F st g : Nat → Nat} {B k row row2 : Nat} (hnc : nc ≤ 4) (hk : k % 2 = 0) (hB : k + 1 < B) (h : LOk nb need nc li p F B k row) (hd : DGS nb nc li k g) (hv : vlk nb nc li k g = row) (hn : NOb nb nc li (k + 1) 0 g (OKb nb need nc li p F (k + 1))) (h2 : NRk nb need nc li p F k (row + 1) row2 st) : LOk nb need nc li p F B k row2 := by
  intro t ht h1 hq
  rcases Nat.lt_trichotomy (vlk nb nc li k t) row with h3 | h3 | h3
  · exact h t ht h3 hq
  · exact PP_no hB (vlk_inj hd ht (hv.trans h3.symm)) hn hq
  · exact NR_cp hnc h2 (cp_of hnc ht (fun z => by omega)) h3 h1 hq.1
theorem two_no {nb : Nat} {need : Nat → Nat} {nc : Nat} {li p F : Nat → Nat} {B k : Nat} (h : LOk nb need nc li p F B k (cnq nb (frk li k) nc)) : NFb nb need nc li p F B k :=
  fun st t ht hq => h t (cp_DGS ht) (vlk_lt (cp_DGS ht)) hq
theorem two_last {nb : Nat} {need : Nat → Nat} {nc : Nat} {li p F g : Nat → Nat} {B k row : Nat} (hnc : nc ≤ 4) (hk : k % 2 = 0) (hB : ¬ k + 1 < B) (h : LOk nb need nc li p F B k row) (hd : DGS nb nc li k g) (hv : vlk nb nc li k g = row) (hok : OKb nb need nc li p F k g) : FSTb nb need nc li p F B g k :=
  ⟨⟨cp_of hnc hd (fun z => by omega), ⟨hok, fun z => absurd z hB⟩, fun t ht hq hl => h t (cp_DGS ht) (by have := vlk_mono (cp_DGS ht) hd hl; omega) hq⟩, fun z => absurd z hB⟩
theorem two_both {nb : Nat} {need : Nat → Nat} {nc : Nat} {li p F g g2 : Nat → Nat} {B k row row2 : Nat} (hnc : nc ≤ 4) (hk : k % 2 = 0) (h : LOk nb need nc li p F B k row) (hd : DGS nb nc li k g) (hv : vlk nb nc li k g = row) (hok : OKb nb need nc li p F k g) (hL : LBk nb nc li (k + 1) row2 g g2) (hok2 : OKb nb need nc li p F (k + 1) g2) (hm : NRk nb need nc li p F (k + 1) 0 row2 g) : FSTb nb need nc li p F B g2 k := by
  have he : ∀ e, e < nc → g2 (k * 4 + e) = g (k * 4 + e) := fun e he => hL.1 _ (Or.inl (by omega))
  have hd2 : DGS nb nc li k g2 := fun e h1 => by rw [he e h1]; exact hd e h1
  have hv2 : vlk nb nc li k g2 = row := by rw [← hv]; exact vqx_congr nc (fun e _ h1 => he e (by omega))
  have hm2 := row_min hnc hL hok2 hm
  refine ⟨⟨cp_of hnc hd2 (fun z => by omega), ⟨(OK_even hk he).mpr hok, fun _ => ⟨g2, cp_prev (fun e h1 => (he e h1).symm) hm2.1, hok2⟩⟩, fun t ht hq hl => h t (cp_DGS ht) (by have := vlk_mono (cp_DGS ht) hd2 hl; omega) hq⟩, fun _ => min_prev (fun e h1 => (he e h1).symm) hm2⟩
/-- how many rows: the sum over numbers -/
theorem sm_mul {g : Nat → Nat} {b : Nat} : ∀ a, sm g (a * b) = sm (fun x => sm (fun y => g (x * b + y)) b) a := by
  have key : ∀ a n, sm g (a + n) = sm g a + sm (fun y => g (a + y)) n := by
    intro a n
    induction n with
    | zero => rfl
    | succ n ih => rw [← Nat.add_assoc, sm_s, ih, sm_s, Nat.add_assoc]
  intro a
  induction a with
  | zero => rw [Nat.zero_mul]; rfl
  | succ a ih => rw [Nat.succ_mul, key, ih, sm_s]
def digf (nb nc r : Nat) : Nat → Nat := fun p => r / nb ^ (nc - 1 - p) % nb
theorem frk_0 {li : Nat → Nat} {d : Nat} : ¬ frk li 0 d = 0 := frk_f (fun z => absurd z.1 (by decide))
theorem cnq_0 {nb : Nat} {li : Nat → Nat} : ∀ n, cnq nb (frk li 0) n = nb ^ n := by
  intro n
  induction n with
  | zero => rfl
  | succ n ih => rw [cnq_f frk_0, ih, Nat.pow_succ]
theorem digf_v {nb nc r : Nat} {li : Nat → Nat} (hr : r < nb ^ nc) : ∀ n, n ≤ nc → vqx nb (frk li 0) (fun e => digf nb nc r (0 * 4 + e)) 0 0 n = r / nb ^ (nc - n) := by
  intro n
  induction n with
  | zero => intro _; rw [Nat.sub_zero, Nat.div_eq_of_lt hr]; rfl
  | succ n ih =>
    intro hn
    rw [vqx_f frk_0, ih (by omega)]
    show _ = r / nb ^ (nc - (n + 1))
    have h1 : nc - n = (nc - (n + 1)) + 1 := by omega
    have h2 : digf nb nc r (0 * 4 + (0 + n)) = r / nb ^ (nc - (n + 1)) % nb := by
      show r / nb ^ (nc - 1 - (0 * 4 + (0 + n))) % nb = _
      rw [show nc - 1 - (0 * 4 + (0 + n)) = nc - (n + 1) by omega]
    rw [h2, h1, Nat.pow_succ, ← Nat.div_div_eq_div_mul]
    exact Nat.div_add_mod' _ _
theorem digf_LB {nb nc r : Nat} {li st : Nat → Nat} (hnc : nc ≤ 4) (hnb : 0 < nb) (hr : r < nb ^ nc) : LBk nb nc li 0 r st (mix 0 st (digf nb nc r)) := by
  have hd : DGS nb nc li 0 (digf nb nc r) := fun e _ => ⟨fun z => absurd z.1 (by decide), fun _ => Nat.mod_lt _ hnb⟩
  have h := mix_LB (st := st) hnc hd
  have e : vlk nb nc li 0 (digf nb nc r) = r := by
    have := digf_v (li := li) hr nc (Nat.le_refl _)
    rw [Nat.sub_self, Nat.pow_zero, Nat.div_one] at this
    exact this
  rw [e] at h
  exact h
def icr (nb : Nat) (need : Nat → Nat) (nc : Nat) (li p : Nat → Nat) (f r : Nat) : Nat := if FE nb need nc li p (digf nb nc r) 0 = f then 1 else 0
theorem FE_row {nb : Nat} {need : Nat → Nat} {nc : Nat} {li p g : Nat → Nat} {r : Nat} {st : Nat → Nat} (hnc : nc ≤ 4) (hnb : 0 < nb) (hr : r < nb ^ nc) (h : LBk nb nc li 0 r st g) : FE nb need nc li p g 0 = FE nb need nc li p (digf nb nc r) 0 := by
  have h1 := digf_LB (li := li) (st := st) hnc hnb hr
  refine FE_congr (fun e he => ⟨?_, rfl⟩)
  unfold tr
  rw [if_neg (fun z => absurd z.1 (by decide)), if_neg (fun z => absurd z.1 (by decide)), vlk_inj h.2.1 h1.2.1 (h.2.2.trans h1.2.2.symm) e he]
  exact mix_in (by omega)
theorem cr_rows {nb : Nat} {need : Nat → Nat} {nc : Nat} {li p : Nat → Nat} {f : Nat} (hnc : nc ≤ 4) (hnb : 0 < nb) : ∀ m st P, m ≤ nc → P < nb ^ (nc - m) → (∀ e, e < nc - m → st (0 * 4 + e) < nb) → vqx nb (frk li 0) (fun e => st (0 * 4 + e)) 0 0 (nc - m) = P → cr nb need nc li p f m st = sm (fun q => icr nb need nc li p f (P * nb ^ m + q)) (nb ^ m) := by
  intro m
  induction m with
  | zero =>
    intro st P _ hP hd hv
    rw [Nat.sub_zero] at hP hd hv
    rw [Nat.pow_zero, Nat.mul_one]
    show (if _ then _ else _) = 0 + icr nb need nc li p f (P + 0)
    have hL : LBk nb nc li 0 P st st := ⟨fun _ _ => rfl, fun e he => ⟨fun z => absurd z.1 (by decide), fun _ => hd e he⟩, hv⟩
    rw [FE_row hnc hnb hP hL, Nat.zero_add]
    rfl
  | succ m ih =>
    intro st P hm hP hd hv
    show sm (fun b => cr nb need nc li p f m (va_up st (0 * 4 + (nc - (m + 1))) b)) nb = _
    rw [Nat.pow_succ, Nat.mul_comm (nb ^ m) nb, sm_mul]
    refine sm_congr (fun b hb => ?_)
    have e1 : nc - m = nc - (m + 1) + 1 := by omega
    rw [ih (va_up st (0 * 4 + (nc - (m + 1))) b) (P * nb + b) (by omega) ?_ ?_ ?_]
    · refine sm_congr (fun q _ => ?_)
      congr 1
      rw [Nat.add_mul, Nat.mul_assoc, Nat.mul_comm nb, Nat.add_assoc, Nat.mul_comm (nb ^ m) nb]
    · rw [e1, Nat.pow_succ]
      have : (P + 1) * nb ≤ nb ^ (nc - (m + 1)) * nb := Nat.mul_le_mul_right nb hP
      rw [Nat.succ_mul] at this
      omega
    · intro e he
      by_cases h1 : e = nc - (m + 1)
      · subst h1; rw [up_eq]; exact hb
      · rw [up_ne (by omega)]; exact hd e (by omega)
    · have e2 : vqx nb (frk li 0) (fun e => va_up st (0 * 4 + (nc - (m + 1))) b (0 * 4 + e)) 0 0 (nc - (m + 1)) = P := (vqx_congr (x' := fun e => st (0 * 4 + e)) (nc - (m + 1)) (fun e _ he => up_ne (by omega))).trans hv
      have e3 : va_up st (0 * 4 + (nc - (m + 1))) b (0 * 4 + (0 + (nc - (m + 1)))) = b := by
        have e4 : 0 * 4 + (0 + (nc - (m + 1))) = 0 * 4 + (nc - (m + 1)) := by omega
        rw [e4]; exact up_eq
      rw [e1, vqx_f frk_0, e2]
      exact congrArg (fun z => P * nb + z) e3
theorem cr_all {nb : Nat} {need : Nat → Nat} {nc : Nat} {li p st : Nat → Nat} {f : Nat} (hnc : nc ≤ 4) (hnb : 0 < nb) : cr nb need nc li p f nc st = sm (icr nb need nc li p f) (nb ^ nc) := by
  rw [cr_rows hnc hnb nc st 0 (Nat.le_refl _) (Nat.two_pow_pos 0 |> fun _ => Nat.pos_of_ne_zero (by rw [Nat.sub_self, Nat.pow_zero]; decide)) (fun e he => by omega) (by rw [Nat.sub_self]; rfl)]
  exact sm_congr (fun q _ => by rw [Nat.zero_mul, Nat.zero_add])
theorem icr_le {nb : Nat} {need : Nat → Nat} {nc : Nat} {li p : Nat → Nat} {f r : Nat} : icr nb need nc li p f r ≤ 1 := by unfold icr; split <;> decide
