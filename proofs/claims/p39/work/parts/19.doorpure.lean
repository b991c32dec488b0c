/-! ===== doors: sets of them, how far apart ===== -/
/-- the bars of all doors -/
def abr (nbt : Nat → Nat) : Nat → Nat
  | 0 => 0
  | n + 1 => abr nbt n ||| (2 ^ nbt n - 1) * 2 ^ (n * 6)
theorem abr_lt {nbt : Nat → Nat} : ∀ n, n ≤ 4 → (∀ d, d < n → nbt d ≤ 6) → abr nbt n < 2 ^ 24 := by
  intro n
  induction n with
  | zero => intro _ _; exact Nat.two_pow_pos _
  | succ n ih =>
    intro hn h
    exact Nat.or_lt_two_pow (ih (by omega) (fun d hd => h d (by omega))) (bars_lt (h n (by omega)) (by omega))
/-- the doors of which it holds -/
noncomputable def dset (P : Nat → Prop) : Nat → Nat
  | 0 => 0
  | n + 1 => dset P n ||| (@ite Nat (P n) (Classical.propDecidable (P n)) (2 ^ n) 0)
theorem dset_y {P : Nat → Prop} {n : Nat} (h : P n) : dset P (n + 1) = dset P n ||| 2 ^ n := by show _ ||| _ = _; rw [if_pos h]
theorem dset_n {P : Nat → Prop} {n : Nat} (h : ¬ P n) : dset P (n + 1) = dset P n := by show _ ||| _ = _; rw [if_neg h, Nat.or_zero]
theorem dset_congr {P P' : Nat → Prop} : ∀ n, (∀ d, d < n → (P d ↔ P' d)) → dset P n = dset P' n := by
  intro n
  induction n with
  | zero => intro _; rfl
  | succ n ih =>
    intro h
    by_cases hp : P n
    · rw [dset_y hp, dset_y ((h n (by omega)).mp hp), ih (fun d hd => h d (by omega))]
    · rw [dset_n hp, dset_n (fun z => hp ((h n (by omega)).mpr z)), ih (fun d hd => h d (by omega))]
theorem dset_lt {P : Nat → Prop} : ∀ n, dset P n < 2 ^ n := by
  intro n
  induction n with
  | zero => exact Nat.one_pos
  | succ n ih =>
    have h1 : (2 : Nat) ^ n < 2 ^ (n + 1) := Nat.pow_lt_pow_right (by decide) (by omega)
    by_cases hp : P n
    · rw [dset_y hp]; exact Nat.or_lt_two_pow (Nat.lt_trans ih h1) h1
    · rw [dset_n hp]; exact Nat.lt_trans ih h1
theorem or_idem {a b : Nat} : a ||| b ||| b = a ||| b := by rw [Nat.or_assoc, Nat.or_self]
/-- a beat alike -/
def ulk (bd bo : Nat) (f g : Nat → Nat) (k : Nat) : Nat := if (k < bd ∧ k < bo ∧ f k = g k) ∨ (bd ≤ k ∧ bo ≤ k) then 0 else 1
def ulN (bd bo : Nat) (f g : Nat → Nat) (n : Nat) : Nat := sm (ulk bd bo f g) n
theorem ulN_le {bd bo : Nat} {f g : Nat → Nat} {n : Nat} : ulN bd bo f g n ≤ n := by
  have := sm_le (f := ulk bd bo f g) (c := 1) (n := n) (fun k _ => by unfold ulk; split <;> omega)
  unfold ulN; omega
theorem ulk_0 {bd bo : Nat} {f g : Nat → Nat} {k : Nat} (h : (k < bd ∧ k < bo ∧ f k = g k) ∨ (bd ≤ k ∧ bo ≤ k)) : ulk bd bo f g k = 0 := if_pos h
theorem ulk_1 {bd bo : Nat} {f g : Nat → Nat} {k : Nat} (h : ¬ ((k < bd ∧ k < bo ∧ f k = g k) ∨ (bd ≤ k ∧ bo ≤ k))) : ulk bd bo f g k = 1 := if_neg h
theorem ulN_s {bd bo : Nat} {f g : Nat → Nat} {n : Nat} : ulN bd bo f g (n + 1) = ulN bd bo f g n + ulk bd bo f g n := rfl
theorem ulN_ge {bd bo : Nat} {f g : Nat → Nat} {n : Nat} (h : bd ≤ n) (h2 : bo ≤ n) : ∀ m, ulN bd bo f g (n + m) = ulN bd bo f g n := by
  intro m
  induction m with
  | zero => rfl
  | succ m ih => rw [← Nat.add_assoc, ulN_s, ih, ulk_0 (Or.inr ⟨by omega, by omega⟩), Nat.add_zero]
theorem ulN_congr {bd bo : Nat} {f g f' g' : Nat → Nat} {n : Nat} (hf : ∀ k, k < bd → f k = f' k) (hg : ∀ k, k < bo → g k = g' k) : ulN bd bo f g n = ulN bd bo f' g' n := by
  refine sm_congr (fun k _ => ?_)
  unfold ulk
  by_cases h1 : k < bd ∧ k < bo
  · rw [hf k h1.1, hg k h1.2]
  · have e : (k < bd ∧ k < bo ∧ f k = g k) ↔ (k < bd ∧ k < bo ∧ f' k = g' k) := ⟨fun z => absurd ⟨z.1, z.2.1⟩ h1, fun z => absurd ⟨z.1, z.2.1⟩ h1⟩
    by_cases h2 : bd ≤ k ∧ bo ≤ k
    · rw [if_pos (Or.inr h2), if_pos (Or.inr h2)]
    · rw [if_neg (fun z => z.elim (fun y => h1 ⟨y.1, y.2.1⟩) h2), if_neg (fun z => z.elim (fun y => h1 ⟨y.1, y.2.1⟩) h2)]
/-- a figure begins another one -/
theorem ulN_beg {bd bo : Nat} {f g : Nat → Nat} (h : bd ≤ bo) (h6 : bo ≤ 6) : ulN bd bo f g 6 = bo - bd ↔ ∀ k, k < bd → f k = g k := by
  have hm : ∀ m, m ≤ bo - bd → ulN bd bo f g (bd + m) = ulN bd bo f g bd + m := by
    intro m
    induction m with
    | zero => intro _; rfl
    | succ m ih => intro hm; rw [← Nat.add_assoc, ulN_s, ih (by omega), ulk_1 (by omega)]; omega
  have h1 : ulN bd bo f g bo = ulN bd bo f g bd + (bo - bd) := by have := hm (bo - bd) (Nat.le_refl _); rw [show bd + (bo - bd) = bo by omega] at this; exact this
  have h2 : ulN bd bo f g 6 = ulN bd bo f g bo := by have := ulN_ge (f := f) (g := g) h (Nat.le_refl bo) (6 - bo); rw [show bo + (6 - bo) = 6 by omega] at this; exact this
  rw [h2, h1]
  constructor
  · intro e k hk
    have h4 : ulN bd bo f g bd = 0 := by omega
    have h3 := sm_eq0 h4 k hk
    refine Classical.byContradiction (fun z => ?_)
    rw [ulk_1 (fun y => by rcases y with y | y; exact z y.2.2; omega)] at h3
    omega
  · intro e
    have h3 : ulN bd bo f g bd = 0 := sm_zero (fun k hk => ulk_0 (Or.inl ⟨hk, by omega, e k hk⟩))
    omega
/-- the nearest: how far (7: none yet), which -/
def lu (U : Nat → Nat) (d : Nat) : Nat → Nat × Nat
  | 0 => (7, 0)
  | n + 1 => if n ≠ d ∧ U n < (lu U d n).1 then (U n, n) else lu U d n
theorem lu_y {U : Nat → Nat} {d n : Nat} (h : n ≠ d ∧ U n < (lu U d n).1) : lu U d (n + 1) = (U n, n) := by show (if _ then _ else _) = _; rw [if_pos h]
theorem lu_n {U : Nat → Nat} {d n : Nat} (h : ¬ (n ≠ d ∧ U n < (lu U d n).1)) : lu U d (n + 1) = lu U d n := by show (if _ then _ else _) = _; rw [if_neg h]
theorem lu_congr {U U' : Nat → Nat} {d : Nat} : ∀ n, (∀ k, k < n → U k = U' k) → lu U d n = lu U' d n := by
  intro n
  induction n with
  | zero => intro _; rfl
  | succ n ih =>
    intro h
    show (if _ then _ else _) = (if _ then _ else _)
    rw [ih (fun k hk => h k (by omega)), h n (by omega)]
/-- sets among sets, for an int that may be any -/
theorem sub_iff {x : Int32} {K : Nat} (hK : K < 2147483648) : x &&& (nI K ^^^ -1) = 0 ↔ ∃ j, j ≤ K ∧ j &&& K = j ∧ x = nI j := by
  constructor
  · intro h
    rw [i_andn] at h
    have h1 : x = x &&& nI K := by
      have := congrArg (fun z => z + (x &&& nI K)) h
      simpa [Int32.sub_add_cancel] using this
    obtain ⟨n, hn, rfl⟩ : ∃ n, n < 4294967296 ∧ x = nI n := ⟨x.toBitVec.toNat, x.toBitVec.isLt, Int32.toBitVec_inj.mp (by show _ = BitVec.ofNat 32 _; simp)⟩
    rw [nx_and] at h1
    have h2 : n &&& K ≤ K := Nat.and_le_right
    refine ⟨n &&& K, h2, ?_, h1⟩
    rw [Nat.and_assoc, Nat.and_self]
  · rintro ⟨j, -, h2, rfl⟩
    rw [n_andn, h2, Nat.sub_self]
    rfl
theorem or_iff {x : Int32} {K : Nat} (hK : K < 2147483648) : x ||| nI K = nI K ↔ x &&& (nI K ^^^ -1) = 0 := by
  obtain ⟨n, hn, rfl⟩ : ∃ n, n < 4294967296 ∧ x = nI n := ⟨x.toBitVec.toNat, x.toBitVec.isLt, Int32.toBitVec_inj.mp (by show _ = BitVec.ofNat 32 _; simp)⟩
  have hor : n ||| K < 2 ^ 32 := Nat.or_lt_two_pow hn (by omega)
  have big : ∀ {a b : Nat}, a < 4294967296 → b < 4294967296 → (nI a = nI b ↔ a = b) := by
    intro a b ha hb
    constructor
    · intro e
      have := congrArg (fun z : Int32 => z.toBitVec.toNat) e
      show a = b
      have e2 : (BitVec.ofNat 32 a).toNat = (BitVec.ofNat 32 b).toNat := this
      rw [BitVec.toNat_ofNat, BitVec.toNat_ofNat, Nat.mod_eq_of_lt ha, Nat.mod_eq_of_lt hb] at e2
      exact e2
    · intro e; rw [e]
  have hz : nI (n - (n &&& K)) = 0 ↔ n - (n &&& K) = 0 := big (b := 0) (by omega) (by decide)
  rw [nx_or, n_andn, hz, big hor (by omega)]
  have hle : n &&& K ≤ n := Nat.and_le_left
  constructor
  · intro e
    have : n &&& K = n := by
      apply Nat.eq_of_testBit_eq; intro i
      have e2 := congrArg (fun z => z.testBit i) e
      simp only [Nat.testBit_or] at e2
      rw [Nat.testBit_and]
      revert e2
      cases n.testBit i <;> cases K.testBit i <;> simp
    omega
  · intro e
    have e1 : n &&& K = n := by omega
    apply Nat.eq_of_testBit_eq; intro i
    have e2 := congrArg (fun z => z.testBit i) e1
    simp only [Nat.testBit_and] at e2
    rw [Nat.testBit_or]
    revert e2
    cases n.testBit i <;> cases K.testBit i <;> simp
theorem and_mask {j n : Nat} : j &&& (2 ^ n - 1) = j ↔ j < 2 ^ n := by
  rw [Nat.and_two_pow_sub_one_eq_mod]
  constructor
  · intro h; rw [← h]; exact Nat.mod_lt _ (Nat.two_pow_pos n)
  · intro h; exact Nat.mod_eq_of_lt h
/-- bits up to n alone -/
theorem mask_iff {x : Int32} {n : Nat} (hn : n ≤ 7) : x &&& (nI (2 ^ n - 1) ^^^ -1) = 0 ↔ ∃ j, j < 2 ^ n ∧ x = nI j := by
  have h1 := pow_le_128 hn
  rw [sub_iff (by omega)]
  constructor
  · rintro ⟨j, -, h2, rfl⟩; exact ⟨j, and_mask.mp h2, rfl⟩
  · rintro ⟨j, h2, rfl⟩; exact ⟨j, by omega, and_mask.mpr h2, rfl⟩
