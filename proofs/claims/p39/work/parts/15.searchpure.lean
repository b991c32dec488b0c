/-! ===== the search for the first plan ===== -/
theorem sm_eq0 {f : Nat → Nat} {n : Nat} (h : sm f n = 0) : ∀ d, d < n → f d = 0 := by
  induction n with
  | zero => intro d hd; exact absurd hd (Nat.not_lt_zero _)
  | succ n ih =>
    rw [sm_s] at h
    exact lt_s (ih (by omega)) (by omega)
theorem sm_swap (h : Nat → Nat → Nat) (n m : Nat) : sm (fun b => sm (fun e => h e b) n) m = sm (fun e => sm (fun b => h e b) m) n := by
  induction m with
  | zero => exact (sm_zero (fun d _ => rfl)).symm
  | succ m ih => rw [sm_s, ih, ← sm_add]; rfl
theorem sm_pt (t x n : Nat) : sm (fun b => if t = b then x else 0) n ≤ x := by
  have key : ∀ n, sm (fun b => if t = b then x else 0) n = if t < n then x else 0 := by
    intro n
    induction n with
    | zero => rfl
    | succ n ih =>
      rw [sm_s, ih]
      by_cases h1 : t < n
      · rw [if_pos h1, if_neg (by omega), if_pos (by omega)]; rfl
      · by_cases h2 : t = n
        · rw [if_neg h1, if_pos h2, if_pos (by omega)]; omega
        · rw [if_neg h1, if_neg h2, if_neg (by omega)]
  rw [key]
  split <;> omega
theorem FE_congr {nb : Nat} {need : Nat → Nat} {nc : Nat} {li p li' p' st st' : Nat → Nat} {k : Nat} (h : ∀ e, e < nc → tr li st k e = tr li' st' k e ∧ p e = p' e) : FE nb need nc li p st k = FE nb need nc li' p' st' k := by
  refine fe_congr nb (fun b _ => ⟨sm_congr (fun d hd => ?_), rfl⟩)
  rw [(h d hd).1, (h d hd).2]
theorem FE_bit {nb : Nat} {need : Nat → Nat} {nc : Nat} {li p st : Nat → Nat} {k b : Nat} (hb : b < nb) : FE nb need nc li p st k / 2 ^ b % 2 = 1 ↔ need b ≤ sm (fun d => if tr li st k d = b then p d else 0) nc := by
  have h := fe_bit (fun b => sm (fun d => if tr li st k d = b then p d else 0) nc) need nb b
  rw [Nat.testBit_eq_decide_div_mod_eq, decide_eq_true hb, Bool.true_and, decide_eq_decide] at h
  exact h
/-- what is open when all are there is danced -/
theorem opn_ok {nb : Nat} {need : Nat → Nat} {nc : Nat} {li p st : Nat → Nat} {f k : Nat} (hf : f < 2 ^ nb) (h : opn nb need nc li p st f k nc) : FE nb need nc li p st k = f := by
  obtain ⟨h1, h2⟩ := h
  rw [wtc_0] at h2
  have h3 := sm_eq0 (Nat.le_zero.mp h2)
  apply Nat.eq_of_testBit_eq
  intro b
  by_cases hb : b < nb
  · rw [Nat.testBit_eq_decide_div_mod_eq, Nat.testBit_eq_decide_div_mod_eq, decide_eq_decide, FE_bit hb, ← LD_all (p := p) (li := li) (fun d _ => ⟨rfl, rfl⟩)]
    have h4 := h3 b hb
    have h5 := h1 b hb
    constructor
    · intro h6
      by_cases h7 : f / 2 ^ b % 2 = 1
      · exact h7
      · have := h5 (by omega); omega
    · intro h6
      rw [if_pos h6] at h4
      omega
  · rw [Nat.testBit_lt_two_pow (Nat.lt_of_lt_of_le hf (Nat.pow_le_pow_right (by decide) (Nat.not_lt.mp hb))), Nat.testBit_lt_two_pow (Nat.lt_of_lt_of_le (FE_lt _ _ _ _ _ _ _) (Nat.pow_le_pow_right (by decide) (Nat.not_lt.mp hb)))]
/-- what can be danced in the end is open all along -/
theorem opn_of {nb : Nat} {need : Nat → Nat} {nc : Nat} {li p st t : Nat → Nat} {f k d : Nat} (hf : FE nb need nc li p t k = f) (ht : ∀ e, e < nc → (k % 2 = 1 ∧ li e ≠ 0) ∨ e < d → tr li t k e = tr li st k e) : opn nb need nc li p st f k d := by
  have hL : ∀ b, LD p li st k d nc b ≤ sm (fun e => if tr li t k e = b then p e else 0) nc := by
    intro b
    refine sm_mono (fun e he => ?_)
    unfold ldt
    by_cases h1 : ((k % 2 = 1 ∧ li e ≠ 0) ∨ e < d) ∧ tr li st k e = b
    · rw [if_pos h1, if_pos (by rw [ht e he h1.1]; exact h1.2)]; exact Nat.le_refl _
    · rw [if_neg h1]; exact Nat.zero_le _
  have hU : ∀ b, sm (fun e => if tr li t k e = b then p e else 0) nc ≤ LD p li st k d nc b + sm (fun e => if tr li t k e = b then (if d ≤ e ∧ ¬ (k % 2 = 1 ∧ li e ≠ 0) then p e else 0) else 0) nc := by
    intro b
    unfold LD
    rw [← sm_add]
    refine sm_mono (fun e he => ?_)
    unfold ldt
    by_cases h0 : tr li t k e = b
    · rw [if_pos h0, if_pos h0]
      by_cases h1 : (k % 2 = 1 ∧ li e ≠ 0) ∨ e < d
      · rw [if_pos ⟨h1, by rw [← ht e he h1]; exact h0⟩]; omega
      · rw [if_pos (show d ≤ e ∧ ¬ (k % 2 = 1 ∧ li e ≠ 0) from ⟨by omega, fun z => h1 (Or.inl z)⟩)]; omega
    · rw [if_neg h0]; exact Nat.zero_le _
  refine ⟨fun b hb h0 => ?_, ?_⟩
  · have h1 : ¬ f / 2 ^ b % 2 = 1 := by omega
    rw [← hf, FE_bit hb] at h1
    have := hL b
    omega
  · refine Nat.le_trans (sm_mono (g := fun b => sm (fun e => if tr li t k e = b then (if d ≤ e ∧ ¬ (k % 2 = 1 ∧ li e ≠ 0) then p e else 0) else 0) nc) (fun b hb => ?_)) ?_
    · by_cases h1 : f / 2 ^ b % 2 = 1
      · rw [if_pos h1]
        rw [← hf, FE_bit hb] at h1
        have := hU b
        omega
      · rw [if_neg h1]; exact Nat.zero_le _
    · rw [sm_swap (fun e b => if tr li t k e = b then (if d ≤ e ∧ ¬ (k % 2 = 1 ∧ li e ≠ 0) then p e else 0) else 0)]
      exact sm_mono (fun e he => sm_pt _ _ _)
/-- a row of a beat, from dancer d on -/
def cp (nb nc : Nat) (li : Nat → Nat) (k d : Nat) (st t : Nat → Nat) : Prop :=
  (k % 2 = 1 → ∀ e, e < nc → t ((k - 1) * 4 + e) = st ((k - 1) * 4 + e)) ∧ (∀ e, e < d → t (k * 4 + e) = st (k * 4 + e)) ∧
  ∀ e, d ≤ e → e < nc → (k % 2 = 1 ∧ li e ≠ 0 → t (k * 4 + e) = 0) ∧ (¬ (k % 2 = 1 ∧ li e ≠ 0) → t (k * 4 + e) < nb)
def OKb (nb : Nat) (need : Nat → Nat) (nc : Nat) (li p F : Nat → Nat) (k : Nat) (t : Nat → Nat) : Prop := FE nb need nc li p t k = F k
def PPb (nb : Nat) (need : Nat → Nat) (nc : Nat) (li p F : Nat → Nat) (B k : Nat) (t : Nat → Nat) : Prop :=
  OKb nb need nc li p F k t ∧ (k + 1 < B → ∃ t', cp nb nc li (k + 1) 0 t t' ∧ OKb nb need nc li p F (k + 1) t')
def lx (nc k : Nat) (t t' : Nat → Nat) : Prop := ∃ e, e < nc ∧ t (k * 4 + e) < t' (k * 4 + e) ∧ ∀ j, j < e → t (k * 4 + j) = t' (k * 4 + j)
def MINb (nb nc : Nat) (li : Nat → Nat) (k d : Nat) (st : Nat → Nat) (Q : (Nat → Nat) → Prop) (g : Nat → Nat) : Prop :=
  cp nb nc li k d st g ∧ Q g ∧ ∀ t, cp nb nc li k d st t → Q t → ¬ lx nc k t g
def NOb (nb nc : Nat) (li : Nat → Nat) (k d : Nat) (st : Nat → Nat) (Q : (Nat → Nat) → Prop) : Prop := ∀ t, cp nb nc li k d st t → ¬ Q t
/-- agreement up to a dancer of a beat -/
def agr (k d : Nat) (g st : Nat → Nat) : Prop := ∀ q, q < k * 4 + d → g q = st q
theorem agr_rf {k d : Nat} {g : Nat → Nat} : agr k d g g := fun _ _ => rfl
theorem agr_tr {k d : Nat} {f g h : Nat → Nat} (h1 : agr k d f g) (h2 : agr k d g h) : agr k d f h := fun q hq => (h1 q hq).trans (h2 q hq)
theorem agr_up {k d x : Nat} {f g : Nat → Nat} (h1 : agr k (d + 1) f (va_up g (k * 4 + d) x)) : agr k d f g := fun q hq => (h1 q (by omega)).trans (by simp [va_up, show q ≠ k * 4 + d by omega])
theorem tr_cp {nb nc d k e : Nat} {li st t : Nat → Nat} (hk : k % 2 = 1 → 1 ≤ k) (h : cp nb nc li k d st t) (he : e < nc) (h2 : (k % 2 = 1 ∧ li e ≠ 0) ∨ e < d) : tr li t k e = tr li st k e := by
  unfold tr
  by_cases h1 : k % 2 = 1 ∧ li e ≠ 0
  · rw [if_pos h1, if_pos h1]; exact h.1 h1.1 e he
  · rw [if_neg h1, if_neg h1]; exact h.2.1 e (h2.resolve_left h1)
theorem odd_pos {k : Nat} (h : k % 2 = 1) : 1 ≤ k := by omega
/-- none there is, where it isn't open -/
theorem no_opn {nb : Nat} {need : Nat → Nat} {nc : Nat} {li p F st : Nat → Nat} {k d f : Nat} (hf : f = F k) (h : ¬ opn nb need nc li p st f k d) : NOb nb nc li k d st (OKb nb need nc li p F k) :=
  fun t ht hq => h (opn_of (hq.trans hf.symm) (fun e he h2 => tr_cp odd_pos ht he h2))
theorem no_PP {nb : Nat} {need : Nat → Nat} {nc : Nat} {li p F st : Nat → Nat} {k d B : Nat} (h : NOb nb nc li k d st (OKb nb need nc li p F k)) : NOb nb nc li k d st (PPb nb need nc li p F B k) := fun t ht hq => h t ht hq.1
theorem lx_no {nc k : Nat} {t g : Nat → Nat} (h : ∀ e, e < nc → t (k * 4 + e) = g (k * 4 + e)) : ¬ lx nc k t g := by
  rintro ⟨e, he, h1, -⟩
  have := h e he
  omega
theorem cp_self {nb nc k : Nat} {li st : Nat → Nat} : cp nb nc li k nc st st := ⟨fun _ _ _ => rfl, fun _ _ => rfl, fun e h1 h2 => by omega⟩
/-- all are there -/
theorem min_all {nb nc k : Nat} {li st : Nat → Nat} {Q : (Nat → Nat) → Prop} (hQ : Q st) : MINb nb nc li k nc st Q st :=
  ⟨cp_self, hQ, fun t ht _ => lx_no (fun e he => ht.2.1 e he)⟩
theorem OK_cp {nb : Nat} {need : Nat → Nat} {nc : Nat} {li p F st t : Nat → Nat} {k : Nat} (ht : cp nb nc li k nc st t) : OKb nb need nc li p F k t ↔ OKb nb need nc li p F k st := by
  unfold OKb
  rw [FE_congr (li' := li) (p' := p) (st' := st) (fun e he => ⟨tr_cp odd_pos ht he (Or.inr he), rfl⟩)]
/-- one dancer more: nc is at most 4, so that a beat's places are apart from the next one's -/
theorem cp_up {nb nc k d x : Nat} {li st g t : Nat → Nat} (hnc : nc ≤ 4) (ha : agr k d g st) (ht : cp nb nc li k d st t) (hx : t (k * 4 + d) = x) : cp nb nc li k (d + 1) (va_up g (k * 4 + d) x) t := by
  refine ⟨fun hk e he => ?_, fun e he => ?_, fun e h1 h2 => ht.2.2 e (by omega) h2⟩
  · have h1 := ht.1 hk e he
    have h2 : (k - 1) * 4 + e < k * 4 + d := by omega
    rw [h1, ← ha _ h2]; simp [va_up, show (k - 1) * 4 + e ≠ k * 4 + d by omega]
  · rcases Nat.lt_or_ge e d with h1 | h1
    · rw [ht.2.1 e h1, ← ha _ (by omega)]; exact (up_ne (by omega)).symm
    · rw [show e = d by omega, hx]; simp [va_up]
theorem cp_dn {nb nc k d x : Nat} {li st g t : Nat → Nat} (hnc : nc ≤ 4) (ha : agr k d g st) (ht : cp nb nc li k (d + 1) (va_up g (k * 4 + d) x) t) (h0 : k % 2 = 1 ∧ li d ≠ 0 → x = 0) (h1 : ¬ (k % 2 = 1 ∧ li d ≠ 0) → x < nb) : cp nb nc li k d st t ∧ t (k * 4 + d) = x := by
  have hx : t (k * 4 + d) = x := by rw [ht.2.1 d (by omega)]; simp [va_up]
  refine ⟨⟨fun hk e he => ?_, fun e he => ?_, fun e h2 h3 => ?_⟩, hx⟩
  · rw [ht.1 hk e he, ← ha _ (by omega)]; simp [va_up, show (k - 1) * 4 + e ≠ k * 4 + d by omega]
  · rw [ht.2.1 e (by omega), ← ha _ (by omega)]; exact up_ne (by omega)
  · rcases Nat.lt_or_ge d e with h4 | h4
    · exact ht.2.2 e h4 h3
    · rw [show e = d by omega, hx]; exact ⟨h0, h1⟩
theorem min_up {nb nc k d i : Nat} {li st g g' : Nat → Nat} {Q : (Nat → Nat) → Prop} (hnc : nc ≤ 4) (ha : agr k d g st) (h0 : k % 2 = 1 ∧ li d ≠ 0 → i = 0) (h1 : ¬ (k % 2 = 1 ∧ li d ≠ 0) → i < nb)
    (hlo : ∀ t, cp nb nc li k d st t → t (k * 4 + d) < i → ¬ Q t) (hm : MINb nb nc li k (d + 1) (va_up g (k * 4 + d) i) Q g') : MINb nb nc li k d st Q g' := by
  obtain ⟨m1, m2, m3⟩ := hm
  obtain ⟨c1, c2⟩ := cp_dn hnc ha m1 h0 h1
  refine ⟨c1, m2, fun t ht hq hl => ?_⟩
  obtain ⟨e, he, l1, l2⟩ := hl
  have hd : ¬ t (k * 4 + d) < i := fun z => hlo t ht z hq
  rcases Nat.lt_trichotomy e d with h | h | h
  · rw [ht.2.1 e h, c1.2.1 e h] at l1; omega
  · subst h; omega
  · have h3 := l2 d h
    exact m3 t (cp_up hnc ha ht (by rw [h3, c2])) hq ⟨e, he, l1, l2⟩
theorem no_up {nb nc k d i : Nat} {li st g : Nat → Nat} {Q : (Nat → Nat) → Prop} (hnc : nc ≤ 4) (ha : agr k d g st)
    (hlo : ∀ t, cp nb nc li k d st t → t (k * 4 + d) < i → ¬ Q t) (hm : NOb nb nc li k (d + 1) (va_up g (k * 4 + d) i) Q) : ∀ t, cp nb nc li k d st t → t (k * 4 + d) < i + 1 → ¬ Q t := by
  intro t ht hi hq
  rcases Nat.lt_or_ge (t (k * 4 + d)) i with h | h
  · exact hlo t ht h hq
  · exact hm t (cp_up hnc ha ht (by omega)) hq
theorem no_bound {nb nc k d : Nat} {li st g : Nat → Nat} {Q : (Nat → Nat) → Prop} (hnc : nc ≤ 4) (hd : d < nc) (ha : agr k d g st) (hb : k % 2 = 1 ∧ li d ≠ 0) (hm : NOb nb nc li k (d + 1) (va_up g (k * 4 + d) 0) Q) : NOb nb nc li k d st Q :=
  fun t ht hq => hm t (cp_up hnc ha ht ((ht.2.2 d (Nat.le_refl _) hd).1 hb)) hq
theorem no_loop {nb nc k d : Nat} {li st : Nat → Nat} {Q : (Nat → Nat) → Prop} (hd : d < nc) (hb : ¬ (k % 2 = 1 ∧ li d ≠ 0)) (h : ∀ t, cp nb nc li k d st t → t (k * 4 + d) < nb → ¬ Q t) : NOb nb nc li k d st Q :=
  fun t ht hq => h t ht ((ht.2.2 d (Nat.le_refl _) hd).2 hb) hq
/-- the beat behind speaks of the beat ahead alone -/
theorem cp_prev {nb nc k : Nat} {li st st' t : Nat → Nat} (h : ∀ e, e < nc → st (k * 4 + e) = st' (k * 4 + e)) (ht : cp nb nc li (k + 1) 0 st t) : cp nb nc li (k + 1) 0 st' t :=
  ⟨fun hk e he => by have h1 := ht.1 hk e he; rw [Nat.add_sub_cancel] at h1 ⊢; rw [h1, h e he], fun e he => absurd he (Nat.not_lt_zero _), ht.2.2⟩
theorem min_prev {nb nc k : Nat} {li st st' g : Nat → Nat} {Q : (Nat → Nat) → Prop} (h : ∀ e, e < nc → st (k * 4 + e) = st' (k * 4 + e)) (hm : MINb nb nc li (k + 1) 0 st Q g) : MINb nb nc li (k + 1) 0 st' Q g :=
  ⟨cp_prev h hm.1, hm.2.1, fun t ht hq => hm.2.2 t (cp_prev (fun e he => (h e he).symm) ht) hq⟩
/-- both beats are laid -/
theorem min_two {nb : Nat} {need : Nat → Nat} {nc : Nat} {li p F st g : Nat → Nat} {k B : Nat} (hnc : nc ≤ 4) (hok : OKb nb need nc li p F k st) (hk : k % 2 = 0) (ha : agr (k + 1) 0 g st) (hm : MINb nb nc li (k + 1) 0 st (OKb nb need nc li p F (k + 1)) g) :
    MINb nb nc li k nc st (PPb nb need nc li p F B k) g ∧ MINb nb nc li (k + 1) 0 g (OKb nb need nc li p F (k + 1)) g := by
  have he : ∀ e, e < nc → g (k * 4 + e) = st (k * 4 + e) := fun e he => ha _ (by omega)
  have hc : cp nb nc li k nc st g := ⟨fun h => by omega, he, fun e h1 h2 => by omega⟩
  refine ⟨⟨hc, ⟨(OK_cp hc).mpr hok, fun _ => ⟨g, cp_prev (fun e h => (he e h).symm) hm.1, hm.2.1⟩⟩, fun t ht _ => lx_no (fun e h => (ht.2.1 e h).trans (he e h).symm)⟩, min_prev (fun e h => (he e h).symm) hm⟩
theorem no_two {nb : Nat} {need : Nat → Nat} {nc : Nat} {li p F st : Nat → Nat} {k B : Nat} (hB : k + 1 < B) (hn : NOb nb nc li (k + 1) 0 st (OKb nb need nc li p F (k + 1))) : NOb nb nc li k nc st (PPb nb need nc li p F B k) := by
  intro t ht hq
  obtain ⟨t', h1, h2⟩ := hq.2 hB
  exact hn t' (cp_prev (fun e he => ht.2.1 e he) h1) h2
/-- the marks of what failed behind -/
def hbit (h : Nat → Nat) (r : Nat) : Prop := h (r / 64) / 2 ^ (r % 64) % 2 = 1
def HIb (nb : Nat) (need : Nat → Nat) (nc : Nat) (li p F : Nat → Nat) (k : Nat) (h : Nat → Nat) : Prop :=
  ∀ r, r < 2401 → hbit h r → ∀ t, (∀ e, e < nc → t (k * 4 + e) < nb) → lrow li t k nc = r → NOb nb nc li (k + 1) 0 t (OKb nb need nc li p F (k + 1))
theorem lrow_inj {li t u : Nat → Nat} {k : Nat} : ∀ n, (∀ e, e < n → t (k * 4 + e) < 7 ∧ u (k * 4 + e) < 7) → lrow li t k n = lrow li u k n → ∀ e, e < n → li e ≠ 0 → t (k * 4 + e) = u (k * 4 + e) := by
  intro n
  induction n with
  | zero => intro _ _ e he; exact absurd he (Nat.not_lt_zero _)
  | succ n ih =>
    intro h hr e he hl
    rw [lrow_s, lrow_s] at hr
    have h1 := h n (by omega)
    have hd : lrow li t k n = lrow li u k n ∧ (if li n ≠ 0 then t (k * 4 + n) else 0) = (if li n ≠ 0 then u (k * 4 + n) else 0) := by
      by_cases hn : li n ≠ 0
      · rw [if_pos hn, if_pos hn] at hr ⊢; omega
      · rw [if_neg hn, if_neg hn] at hr ⊢; omega
    rcases Nat.lt_or_ge e n with h2 | h2
    · exact ih (fun e he => h e (by omega)) hd.1 e h2 hl
    · have : e = n := by omega
      subst this
      rw [if_pos hl, if_pos hl] at hd
      exact hd.2
theorem HI_set {nb : Nat} {need : Nat → Nat} {nc : Nat} {li p F h h' st : Nat → Nat} {k : Nat} (hnb : nb ≤ 7) (hk : k % 2 = 0) (hH : HIb nb need nc li p F k h) (hst : ∀ e, e < nc → st (k * 4 + e) < nb) (hb : ∀ r, r < 2401 → hbit h' r → hbit h r ∨ r = lrow li st k nc) (hno : NOb nb nc li (k + 1) 0 st (OKb nb need nc li p F (k + 1))) (hnc : nc ≤ 4) : HIb nb need nc li p F k h' := by
  intro r hr hbit t ht hrow
  rcases hb r hr hbit with h1 | h1
  · exact hH r hr h1 t ht hrow
  · have hinj := lrow_inj nc (fun e he => ⟨Nat.lt_of_lt_of_le (ht e he) hnb, Nat.lt_of_lt_of_le (hst e he) hnb⟩) (hrow.trans h1)
    intro t' h2 h3
    have hd : ∀ e, e < nc → tr li (fun q => if q < (k + 1) * 4 then st q else t' q) (k + 1) e = tr li t' (k + 1) e := by
      intro e he
      unfold tr
      by_cases hl : (k + 1) % 2 = 1 ∧ li e ≠ 0
      · rw [if_pos hl, if_pos hl]
        show (if _ then _ else _) = _
        rw [if_pos (by omega)]
        rw [h2.1 hl.1 e he, Nat.add_sub_cancel]
        exact (hinj e he hl.2).symm
      · rw [if_neg hl, if_neg hl]
        show (if _ then _ else _) = _
        rw [if_neg (by omega)]
    refine hno (fun q => if q < (k + 1) * 4 then st q else t' q) ⟨fun _ e he => if_pos (by omega), fun e he => absurd he (Nat.not_lt_zero _), fun e h4 h5 => ?_⟩ ?_
    · have h6 := h2.2.2 e h4 h5
      show (_ → (if _ then _ else _) = 0) ∧ (_ → (if _ then _ else _) < nb)
      rw [if_neg (by omega)]
      exact h6
    · unfold OKb at h3 ⊢
      rw [FE_congr (li' := li) (p' := p) (st' := t') (fun e he => ⟨hd e he, rfl⟩)]
      exact h3
theorem hbit_set {h : Nat → Nat} {r0 r : Nat} (hh : hbit (va_up h (r0 / 64) (h (r0 / 64) ||| 1 * 2 ^ (r0 % 64))) r) : hbit h r ∨ r = r0 := by
  unfold hbit at hh ⊢
  by_cases hw : r / 64 = r0 / 64
  · rw [hw] at hh ⊢
    have e : va_up h (r0 / 64) (h (r0 / 64) ||| 1 * 2 ^ (r0 % 64)) (r0 / 64) = h (r0 / 64) ||| 1 * 2 ^ (r0 % 64) := by simp [va_up]
    rw [e] at hh
    have h2 : (h (r0 / 64) ||| 1 * 2 ^ (r0 % 64)).testBit (r % 64) = true := by rw [Nat.testBit_eq_decide_div_mod_eq, decide_eq_true hh]
    rw [Nat.testBit_or, Nat.one_mul, Bool.or_eq_true] at h2
    rcases h2 with h2 | h2
    · rw [Nat.testBit_eq_decide_div_mod_eq] at h2
      exact Or.inl (of_decide_eq_true h2)
    · rw [Nat.testBit_two_pow] at h2
      have := of_decide_eq_true h2
      exact Or.inr (by omega)
  · have e : va_up h (r0 / 64) (h (r0 / 64) ||| 1 * 2 ^ (r0 % 64)) (r / 64) = h (r / 64) := by simp [va_up, hw]
    rw [e] at hh
    exact Or.inl hh
theorem HI_0 {nb : Nat} {need : Nat → Nat} {nc : Nat} {li p F : Nat → Nat} {k : Nat} {h : Nat → Nat} (h0 : ∀ q, q < 38 → h q = 0) : HIb nb need nc li p F k h := by
  intro r hr hb
  unfold hbit at hb
  rw [h0 _ (by omega)] at hb
  simp at hb
