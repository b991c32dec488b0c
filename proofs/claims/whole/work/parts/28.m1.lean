/-! ===== the model: what it is, its small methods ===== -/
def vM (w : Nat → Nat → Nat) : Nat → Nat → Nat := fun i => match i with
  | 0 => fun j => if j = 8 then w 0 0 else 0
  | 3 => w 3
  | 11 => fun j => if j = 0 then w 5 0 else w 6 0
  | 12 => w 7
  | 13 => w 8
  | 14 => w 9
  | 15 => fun _ => w 16 0
  | 16 => w 17
  | 17 => w 18
  | 18 => w 19
  | 23 => fun _ => w 22 0
  | 24 => w 23
  | _ => fun _ => 0
def cM (d : Nat → Nat → Int32) : Nat → Nat → Int32 := fun i => match i with
  | 0 => fun _ => d 1 0
  | 2 => fun k => if d 2 k = -9 then -1 else d 2 k
  | 4 => d 4
  | _ => fun _ => 0
def MI (v : Nat → Nat → Nat) (c : Nat → Nat → Int32) : Prop := XI (vM v) ∧ v 20 0 = 0 ∧ ∀ k, k < 4 → c 2 k = -9 ∨ ∃ s1, s1 < 3 ∧ c 2 k = nI s1
theorem MX_o {v : Nat → Nat → Nat} (h : XI (vM v)) : v 5 0 ≤ 7 ∧ v 6 0 ≤ 4 ∧ (∀ d, d < v 6 0 → 1 ≤ v 8 d ∧ v 8 d ≤ 6) ∧ (∀ d k, d < v 6 0 → k < v 8 d → v 9 (d * 6 + k) < 2 ^ v 5 0) ∧ (∀ b, b < v 5 0 → 1 ≤ v 7 b ∧ v 7 b ≤ 9) ∧ v 16 0 ≤ 4 ∧ (∀ d, d < v 16 0 → v 17 d ≤ 2 ∧ 1 ≤ v 18 d ∧ v 18 d ≤ 9) ∧ v 22 0 ≤ 6 ∧ (∀ f, f < v 22 0 → v 23 f < 16777216) ∧ (∀ k, k < 4 → v 3 k ≤ 80) ∧ (v 6 0 = 0 ∨ 2 ≤ v 5 0) ∧ (v 16 0 = 0 ∨ 0 < v 6 0) ∧ (∀ q, q < 24 → v 19 q < 8) := h
theorem MX_i {v : Nat → Nat → Nat} (h : v 5 0 ≤ 7 ∧ v 6 0 ≤ 4 ∧ (∀ d, d < v 6 0 → 1 ≤ v 8 d ∧ v 8 d ≤ 6) ∧ (∀ d k, d < v 6 0 → k < v 8 d → v 9 (d * 6 + k) < 2 ^ v 5 0) ∧ (∀ b, b < v 5 0 → 1 ≤ v 7 b ∧ v 7 b ≤ 9) ∧ v 16 0 ≤ 4 ∧ (∀ d, d < v 16 0 → v 17 d ≤ 2 ∧ 1 ≤ v 18 d ∧ v 18 d ≤ 9) ∧ v 22 0 ≤ 6 ∧ (∀ f, f < v 22 0 → v 23 f < 16777216) ∧ (∀ k, k < 4 → v 3 k ≤ 80) ∧ (v 6 0 = 0 ∨ 2 ≤ v 5 0) ∧ (v 16 0 = 0 ∨ 0 < v 6 0) ∧ (∀ q, q < 24 → v 19 q < 8)) : XI (vM v) := h
theorem MI_o {v : Nat → Nat → Nat} {c : Nat → Nat → Int32} (h : MI v c) : v 5 0 ≤ 7 ∧ v 6 0 ≤ 4 ∧ (∀ d, d < v 6 0 → 1 ≤ v 8 d ∧ v 8 d ≤ 6) ∧ (∀ d k, d < v 6 0 → k < v 8 d → v 9 (d * 6 + k) < 2 ^ v 5 0) ∧ (∀ b, b < v 5 0 → 1 ≤ v 7 b ∧ v 7 b ≤ 9) ∧ v 16 0 ≤ 4 ∧ (∀ d, d < v 16 0 → v 17 d ≤ 2 ∧ 1 ≤ v 18 d ∧ v 18 d ≤ 9) ∧ v 22 0 ≤ 6 ∧ (∀ f, f < v 22 0 → v 23 f < 16777216) ∧ (∀ k, k < 4 → v 3 k ≤ 80) ∧ (v 6 0 = 0 ∨ 2 ≤ v 5 0) ∧ (v 16 0 = 0 ∨ 0 < v 6 0) ∧ (∀ q, q < 24 → v 19 q < 8) := h.1
theorem MI_mk {v w : Nat → Nat → Nat} {c d : Nat → Nat → Int32} (h : MI v c) (e : w 5 0 = v 5 0 ∧ w 6 0 = v 6 0 ∧ w 7 = v 7 ∧ w 8 = v 8 ∧ w 9 = v 9 ∧ w 16 0 = v 16 0 ∧ w 17 = v 17 ∧ w 18 = v 18 ∧ w 22 0 = v 22 0 ∧ w 23 = v 23) (h3 : ∀ k, k < 4 → w 3 k ≤ 80) (h19 : ∀ q, q < 24 → w 19 q < 8) (h20 : w 20 0 = 0) (h2 : ∀ k, k < 4 → d 2 k = -9 ∨ ∃ s1, s1 < 3 ∧ d 2 k = nI s1) : MI w d := by
  obtain ⟨hnb, hnd, hbt, hfg, hne, hnc, hdk, hnf, hkn, hln, hst, hdc, hsp⟩ := MI_o h
  obtain ⟨e5, e6, e7, e8, e9, e16, e17, e18, e22, e23⟩ := e
  refine ⟨MX_i ?_, h20, h2⟩
  rw [e5, e6, e7, e8, e9, e16, e17, e18, e22, e23]
  exact ⟨hnb, hnd, hbt, hfg, hne, hnc, hdk, hnf, hkn, h3, hst, hdc, h19⟩
theorem MI_rd {v w : Nat → Nat → Nat} {c d : Nat → Nat → Int32} (h : MI v c) (e : w 5 0 = v 5 0 ∧ w 6 0 = v 6 0 ∧ w 7 = v 7 ∧ w 8 = v 8 ∧ w 9 = v 9 ∧ w 16 0 = v 16 0 ∧ w 17 = v 17 ∧ w 18 = v 18 ∧ w 22 0 = v 22 0 ∧ w 23 = v 23 ∧ w 3 = v 3 ∧ w 20 0 = v 20 0 ∧ d 2 = c 2) (h19 : ∀ q, q < 24 → w 19 q < 8) : MI w d :=
  MI_mk h ⟨e.1, e.2.1, e.2.2.1, e.2.2.2.1, e.2.2.2.2.1, e.2.2.2.2.2.1, e.2.2.2.2.2.2.1, e.2.2.2.2.2.2.2.1, e.2.2.2.2.2.2.2.2.1, e.2.2.2.2.2.2.2.2.2.1⟩ (by rw [e.2.2.2.2.2.2.2.2.2.2.1]; exact (MI_o h).2.2.2.2.2.2.2.2.2.1) h19 (by rw [e.2.2.2.2.2.2.2.2.2.2.2.1]; exact h.2.1) (by rw [e.2.2.2.2.2.2.2.2.2.2.2.2]; exact h.2.2)
theorem up_all {α : Type} {P : α → Prop} {f : Nat → α} {i N : Nat} {x : α} (h : ∀ q, q < N → P (f q)) (hx : P x) : ∀ q, q < N → P (va_up f i x q) := by
  intro q hq
  by_cases e : q = i
  · subst e; simp only [va_up, if_pos]; exact hx
  · simp only [va_up, if_neg e]; exact h q hq
theorem cM_s {d : Nat → Int32} {k : Nat} {x : Int32} (h : x ≠ -9) : (fun q => if va_up d k x q = -9 then -1 else va_up d k x q) = va_up (fun q => if d q = -9 then -1 else d q) k x := by
  funext q
  by_cases e : q = k
  · subst e; simp only [va_up, if_pos, if_neg h]
  · simp only [va_up, if_neg e]
theorem cM_l {d : Nat → Int32} {k : Nat} : (fun q => if va_up d k (-9) q = -9 then -1 else va_up d k (-9) q) = va_up (fun q => if d q = -9 then -1 else d q) k (-1) := by
  funext q
  by_cases e : q = k
  · subst e; simp only [va_up, if_pos]
  · simp only [va_up, if_neg e]
theorem nI_m9 {s1 : Nat} (h : s1 < 3) : nI s1 ≠ -9 := n_neg (by omega) (by decide)
theorem m_no {c : Nat → Nat → Int32} {k : Nat} (h : c 2 k = -9) : cM c 2 k = -1 := if_pos h
theorem m_nn {v : Nat → Nat → Nat} {c : Nat → Nat → Int32} {k : Nat} (hI : MI v c) (hk : k < 4) (h : ¬ c 2 k = -9) : ¬ cM c 2 k = -1 := by
  rcases hI.2.2 k hk with e | ⟨s1, h1, e⟩
  · exact absurd e h
  · show ¬ (if _ then _ else _) = _
    rw [if_neg h, e]; exact nI_m1 h1
theorem m_has {c : Nat → Nat → Int32} {k s1 : Nat} (hs : s1 < 3) (h : c 2 k = nI s1) : cM c 2 k = nI s1 := by
  show (if _ then _ else _) = _
  rw [if_neg (by rw [h]; exact nI_m9 hs)]; exact h
theorem m_hn {c : Nat → Nat → Int32} {k s1 : Nat} (h0 : ¬ c 2 k = -9) (h : ¬ c 2 k = nI s1) : ¬ cM c 2 k = nI s1 := by
  show ¬ (if _ then _ else _) = _
  rw [if_neg h0]; exact h
theorem m_eq {c : Nat → Nat → Int32} {k : Nat} (h0 : ¬ c 2 k = -9) : cM c 2 k = c 2 k := if_neg h0
theorem wi_ex {x : Int32} {lo hi : Nat} (hB : hi < 2147483648) (h1 : (lo : Int) ≤ x.toInt) (h2 : x.toInt ≤ hi) : ∃ q, lo ≤ q ∧ q ≤ hi ∧ x = nI q := by
  obtain ⟨q, hq, rfl⟩ := r_nat (x := x) (by omega)
  rw [n_tI hq] at h1 h2
  exact ⟨q, by omega, by omega, rfl⟩
theorem pcf_more : ∀ {n x : Nat}, x < 2 ^ n → pcf (n + 1) x = pcf n x := by
  intro n
  induction n with
  | zero => intro x h; have : x = 0 := by have : (2 : Nat) ^ 0 = 1 := rfl; omega
            subst this; rfl
  | succ n ih =>
    intro x h
    show x % 2 + pcf (n + 1) (x / 2) = x % 2 + pcf n (x / 2)
    rw [ih (by rw [Nat.pow_succ] at h; omega)]
theorem pc_half {x : Nat} (h : x < 16777216) : pc x = x % 2 + pc (x / 2) := by
  show x % 2 + pcf 23 (x / 2) = x % 2 + pcf 24 (x / 2)
  rw [pcf_more (n := 23) (by have : (2 : Nat) ^ 23 = 8388608 := rfl; omega)]
theorem bg_of {n m i : Nat} {f g : Nat → Nat} (h0 : i ≤ 6) (e : i = n) (h : ∀ k, k < i → k < m ∧ f k = g k) : n ≤ m ∧ ∀ k, k < n → f k = g k := by
  subst e
  refine ⟨?_, fun k hk => (h k hk).2⟩
  rcases Nat.eq_zero_or_pos i with h1 | h1
  · omega
  · have := (h (i - 1) (by omega)).1; omega
set_option maxHeartbeats 4000000 in
set_option maxRecDepth 100000 in
theorem m_fails (l : Launch) (D : va_G) (b : Nat → Nat) (cI cJ cZ : ClassId) (A : Nat → Prop) (v : Nat → Nat → Nat) (c : Nat → Nat → Int32) (f : Nat) :
    mI l yX7_fails wsX7_fails 0 0 [.ref (b 0), .int (nI f)] D (xT cI cJ cZ) A (mW b cI cJ cZ v c) (fun u : ((Nat → Nat → Nat) × (Nat → Nat → Int32)) => mW b cI cJ cZ u.1 u.2)
    (fun (r : Int32) (u : ((Nat → Nat → Nat) × (Nat → Nat → Int32))) => r = (-10) - (nI (f)) ∧ u = (va_up v 0 (va_up (v 0) 0 (f)), c)) := by
  refine w_bI cX7_fails 2 .int (by decide) rfl (Nat.le_of_ble_eq_true rfl) (Or.inl rfl) ?_
  intro p e s m args below meth c0 ls Q hx hb hml hts hown hK hN hA hret hP hD hS hl
  have hl : lv_has ls 2 [(0, .ref (b 0)), (1, .int (nI (f)))] := hl
  have hinX7 : ∀ w ∈ wsX70, w ∈ wsX7_fails := fun w h => List.mem_cons_of_mem _ (List.mem_append_right _ h)
  refine lv_aload_n hx hb dX7_fails_0 rfl (lv_at hl 0 rfl) ?_
  refine lv_iload_n hx hb dX7_fails_1 rfl (lv_at hl 1 rfl) ?_
  refine va_put (D := D) (ci := 7) (v := .int (nI (f))) (ty := .int) (C := RX7) (T := TX7) (N := 24) hx hb hts hinX7 tyX7 tyX7_ok nmX7 hown hK hP hD hS 0 rfl rfl 0 (by decide) (hts (.fieldLink RX7 53 "DancedLockModel" "fault" "I") (List.mem_of_getElem? (i := 1) rfl)) (fun _ h9 => h9) rfl (by decide +kernel) rfl (rfl) (Nat.le_of_ble_eq_true rfl) dX7_fails_2 (fun H locs hP hD hS => ?_)
  have hP : va_P D vwCl (mW b cI cJ cZ (va_up v 0 (va_up (v 0) 0 (f))) c) H := hP
  have hD : va_D A (mW b cI cJ cZ (va_up v 0 (va_up (v 0) 0 (f))) c) := hD
  refine lv_bipush (v := -10) hx hb dX7_fails_5 (by decide) ?_
  refine lv_iload_n hx hb dX7_fails_7 rfl (lv_at hl 1 rfl) ?_
  refine lv_isub hx hb dX7_fails_8 ?_
  exact hret ((-10) - (nI (f))) (va_up v 0 (va_up (v 0) 0 (f)), c) _ _ 9 _ dX7_fails_9 rfl (by exact ⟨rfl, rfl⟩) hP hD hS

set_option maxHeartbeats 4000000 in
set_option maxRecDepth 100000 in
theorem m_lost (l : Launch) (D : va_G) (b : Nat → Nat) (cI cJ cZ : ClassId) (A : Nat → Prop) (v : Nat → Nat → Nat) (c : Nat → Nat → Int32) (f : Nat) :
    mJ l yX7_lost wsX7_lost 0 0 [.ref (b 0), .int (nI f)] D (xT cI cJ cZ) A (mW b cI cJ cZ v c) (fun u : ((Nat → Nat → Nat) × (Nat → Nat → Int32)) => mW b cI cJ cZ u.1 u.2)
    (fun (r : Int64) (u : ((Nat → Nat → Nat) × (Nat → Nat → Int32))) => r = (-9223372036854775808) ∧ u = (va_up v 0 (va_up (v 0) 0 (f)), c)) := by
  refine w_bJ cX7_lost 2 (by decide) rfl (Nat.le_of_ble_eq_true rfl) ?_
  intro p e s m args below meth c0 ls Q hx hb hml hts hown hK hN hA hret hP hD hS hl
  have hl : lv_has ls 2 [(0, .ref (b 0)), (1, .int (nI (f)))] := hl
  have hinX7 : ∀ w ∈ wsX70, w ∈ wsX7_lost := fun w h => List.mem_cons_of_mem _ (List.mem_append_right _ h)
  refine lv_aload_n hx hb dX7_lost_0 rfl (lv_at hl 0 rfl) ?_
  refine lv_iload_n hx hb dX7_lost_1 rfl (lv_at hl 1 rfl) ?_
  refine va_put (D := D) (ci := 7) (v := .int (nI (f))) (ty := .int) (C := RX7) (T := TX7) (N := 24) hx hb hts hinX7 tyX7 tyX7_ok nmX7 hown hK hP hD hS 0 rfl rfl 0 (by decide) (hts (.fieldLink RX7 53 "DancedLockModel" "fault" "I") (List.mem_of_getElem? (i := 1) rfl)) (fun _ h9 => h9) rfl (by decide +kernel) rfl (rfl) (Nat.le_of_ble_eq_true rfl) dX7_lost_2 (fun H locs hP hD hS => ?_)
  have hP : va_P D vwCl (mW b cI cJ cZ (va_up v 0 (va_up (v 0) 0 (f))) c) H := hP
  have hD : va_D A (mW b cI cJ cZ (va_up v 0 (va_up (v 0) 0 (f))) c) := hD
  refine lv_ldc2 (own := RX7) hx hb hown (hts (.constantLong RX7 57 (-9223372036854775808)) (List.mem_of_getElem? (i := 2) rfl)) dX7_lost_5 ?_
  exact hret ((-9223372036854775808)) (va_up v 0 (va_up (v 0) 0 (f)), c) _ _ 8 _ dX7_lost_8 (by exact ⟨rfl, rfl⟩) hP hD hS

set_option maxHeartbeats 4000000 in
set_option maxRecDepth 100000 in
theorem m_tellsBy (l : Launch) (D : va_G) (b : Nat → Nat) (cI cJ cZ : ClassId) (A : Nat → Prop) (v : Nat → Nat → Nat) (c : Nat → Nat → Int32) (f : Nat) :
    mV l yX7_tellsBy wsX7_tellsBy 0 0 [.ref (b 0), .int (nI f)] D (xT cI cJ cZ) A (mW b cI cJ cZ v c) (fun u : ((Nat → Nat → Nat) × (Nat → Nat → Int32)) => mW b cI cJ cZ u.1 u.2)
    (fun (u : ((Nat → Nat → Nat) × (Nat → Nat → Int32))) => u = (v, va_up c 1 (va_up (c 1) 0 ((nI (31)) * (c 1 0) + (nI (f)))))) := by
  refine w_bV cX7_tellsBy 2 (by decide) rfl (Nat.le_of_ble_eq_true rfl) ?_
  intro p e s m args below meth c0 ls Q hx hb hml hts hown hK hN hA hret hP hD hS hl
  have hl : lv_has ls 2 [(0, .ref (b 0)), (1, .int (nI (f)))] := hl
  have hinX7 : ∀ w ∈ wsX70, w ∈ wsX7_tellsBy := fun w h => List.mem_cons_of_mem _ (List.mem_append_right _ h)
  refine lv_aload_n hx hb dX7_tellsBy_0 rfl (lv_at hl 0 rfl) ?_
  refine lv_bipush (v := nI (31)) hx hb dX7_tellsBy_1 (by decide) ?_
  refine lv_aload_n hx hb dX7_tellsBy_3 rfl (lv_at hl 0 rfl) ?_
  refine va_get (D := D) (ci := 7) (v := .int (c 1 0)) (C := RX7) (T := TX7) (N := 24) hx hb hts hinX7 hown hK hP 0 rfl rfl 1 (by decide) (hts (.fieldLink RX7 207 "DancedLockModel" "trace" "I") (List.mem_of_getElem? (i := 1) rfl)) (fun _ h9 => h9) rfl dX7_tellsBy_4 ?_
  refine lv_imul hx hb dX7_tellsBy_7 ?_
  refine lv_iload_n hx hb dX7_tellsBy_8 rfl (lv_at hl 1 rfl) ?_
  refine lv_iadd hx hb dX7_tellsBy_9 ?_
  refine va_put (D := D) (ci := 7) (v := .int (((nI (31)) * (c 1 0)) + (nI (f)))) (ty := .int) (C := RX7) (T := TX7) (N := 24) hx hb hts hinX7 tyX7 tyX7_ok nmX7 hown hK hP hD hS 0 rfl rfl 1 (by decide) (hts (.fieldLink RX7 207 "DancedLockModel" "trace" "I") (List.mem_of_getElem? (i := 1) rfl)) (fun _ h9 => h9) rfl (by decide +kernel) rfl (rfl) (Nat.le_of_ble_eq_true rfl) dX7_tellsBy_10 (fun H locs hP hD hS => ?_)
  have hP : va_P D vwCl (mW b cI cJ cZ v (va_up c 1 (va_up (c 1) 0 (((nI (31)) * (c 1 0)) + (nI (f)))))) H := hP
  have hD : va_D A (mW b cI cJ cZ v (va_up c 1 (va_up (c 1) 0 (((nI (31)) * (c 1 0)) + (nI (f)))))) := hD
  exact hret (v, va_up c 1 (va_up (c 1) 0 (((nI (31)) * (c 1 0)) + (nI (f))))) _ _ 13 _ dX7_tellsBy_13 (by rfl) hP hD hS

set_option maxHeartbeats 4000000 in
set_option maxRecDepth 100000 in
theorem m_within_N (l : Launch) (D : va_G) (b : Nat → Nat) (cI cJ cZ : ClassId) (A : Nat → Prop) (v : Nat → Nat → Nat) (c : Nat → Nat → Int32) (x : Int32) (lo : Nat) (hi : Nat) (hB1 : lo < 2147483648) (hB2 : hi < 2147483648) :
    mI l yX7_within wsX7_within 0 0 [.int x, .int (nI lo), .int (nI hi)] D (xT cI cJ cZ) A (mW b cI cJ cZ v c) (fun _ : Unit => mW b cI cJ cZ v c)
    (fun (r : Int32) (u : Unit) => (∃ j : Nat, r = nI (1) ∧ lo ≤ j ∧ j ≤ hi ∧ x = nI j) ∨ (r = nI (0) ∧ (x.toInt < lo ∨ (hi : Int) < x.toInt))) := by
  refine w_bI cX7_within 3 .boolean (by decide) rfl (Nat.le_of_ble_eq_true rfl) (Or.inr rfl) ?_
  intro p e s m args below meth c0 ls Q hx hb hml hts hown hK hN hA hret hP hD hS hl
  have hl : lv_has ls 3 [(0, .int x), (1, .int (nI (lo))), (2, .int (nI (hi)))] := hl
  have lT := n_tI hB1
  have hT := n_tI hB2
  refine lv_iload_n hx hb dX7_within_0 rfl (lv_at hl 0 rfl) ?_
  refine lv_iload_n hx hb dX7_within_1 rfl (lv_at hl 1 rfl) ?_
  refine r_icmp_lt (x := x) (y := nI (lo)) hx hb dX7_within_2 (tgt := 14) (by decide) (fun c2 => ?_) (fun c2 => ?_)
  · skip
    refine lv_iconst (v := nI (0)) hx hb dX7_within_14 (by decide) ?_
    exact hret (nI (0)) () _ _ 15 _ dX7_within_15 rfl (by exact Or.inr ⟨rfl, by omega⟩) hP hD hS
  · skip
    refine lv_iload_n hx hb dX7_within_5 rfl (lv_at hl 0 rfl) ?_
    refine lv_iload_n hx hb dX7_within_6 rfl (lv_at hl 2 rfl) ?_
    refine r_icmp_gt (x := x) (y := nI (hi)) hx hb dX7_within_7 (tgt := 14) (by decide) (fun c7 => ?_) (fun c7 => ?_)
    · skip
      refine lv_iconst (v := nI (0)) hx hb dX7_within_14 (by decide) ?_
      exact hret (nI (0)) () _ _ 15 _ dX7_within_15 rfl (by exact Or.inr ⟨rfl, by omega⟩) hP hD hS
    · skip
      refine lv_iconst (v := nI (1)) hx hb dX7_within_10 (by decide) ?_
      refine lv_goto (tgt := 15) hx hb dX7_within_11 (by decide) ?_
      exact hret (nI (1)) () _ _ 15 _ dX7_within_15 rfl (by obtain ⟨q, hq1, hq2, hq3⟩ := wi_ex hB2 (x := x) (lo := lo) (by omega) (by omega); exact Or.inl ⟨q, rfl, hq1, hq2, hq3⟩) hP hD hS

set_option maxHeartbeats 4000000 in
set_option maxRecDepth 100000 in
theorem m_within_R (l : Launch) (D : va_G) (b : Nat → Nat) (cI cJ cZ : ClassId) (A : Nat → Prop) (v : Nat → Nat → Nat) (c : Nat → Nat → Int32) (x : Int32) (lo : Nat) (hi : Int32) (hB1 : lo < 2147483648) :
    mI l yX7_within wsX7_within 0 0 [.int x, .int (nI lo), .int hi] D (xT cI cJ cZ) A (mW b cI cJ cZ v c) (fun _ : Unit => mW b cI cJ cZ v c)
    (fun (r : Int32) (u : Unit) => (∃ j : Nat, r = nI (1) ∧ lo ≤ j ∧ (j : Int) ≤ hi.toInt ∧ j < 2147483648 ∧ x = nI j) ∨ (r = nI (0) ∧ (x.toInt < lo ∨ hi.toInt < x.toInt))) := by
  refine w_bI cX7_within 3 .boolean (by decide) rfl (Nat.le_of_ble_eq_true rfl) (Or.inr rfl) ?_
  intro p e s m args below meth c0 ls Q hx hb hml hts hown hK hN hA hret hP hD hS hl
  have hl : lv_has ls 3 [(0, .int x), (1, .int (nI (lo))), (2, .int hi)] := hl
  have lT := n_tI hB1
  refine lv_iload_n hx hb dX7_within_0 rfl (lv_at hl 0 rfl) ?_
  refine lv_iload_n hx hb dX7_within_1 rfl (lv_at hl 1 rfl) ?_
  refine r_icmp_lt (x := x) (y := nI (lo)) hx hb dX7_within_2 (tgt := 14) (by decide) (fun c2 => ?_) (fun c2 => ?_)
  · skip
    refine lv_iconst (v := nI (0)) hx hb dX7_within_14 (by decide) ?_
    exact hret (nI (0)) () _ _ 15 _ dX7_within_15 rfl (by exact Or.inr ⟨rfl, by omega⟩) hP hD hS
  · skip
    refine lv_iload_n hx hb dX7_within_5 rfl (lv_at hl 0 rfl) ?_
    refine lv_iload_n hx hb dX7_within_6 rfl (lv_at hl 2 rfl) ?_
    refine r_icmp_gt (x := x) (y := hi) hx hb dX7_within_7 (tgt := 14) (by decide) (fun c7 => ?_) (fun c7 => ?_)
    · skip
      refine lv_iconst (v := nI (0)) hx hb dX7_within_14 (by decide) ?_
      exact hret (nI (0)) () _ _ 15 _ dX7_within_15 rfl (by exact Or.inr ⟨rfl, by omega⟩) hP hD hS
    · skip
      refine lv_iconst (v := nI (1)) hx hb dX7_within_10 (by decide) ?_
      refine lv_goto (tgt := 15) hx hb dX7_within_11 (by decide) ?_
      exact hret (nI (1)) () _ _ 15 _ dX7_within_15 rfl (by obtain ⟨q, hq1, hq2⟩ := in_ge (x := x) (by omega); subst hq2; have h9 := n_tI hq1; exact Or.inl ⟨q, rfl, by omega, by omega, hq1, rfl⟩) hP hD hS

set_option maxHeartbeats 4000000 in
set_option maxRecDepth 100000 in
theorem m_isSheet (l : Launch) (D : va_G) (b : Nat → Nat) (cI cJ cZ : ClassId) (A : Nat → Prop) (v : Nat → Nat → Nat) (c : Nat → Nat → Int32) (x : Int32) :
    mI l yX7_isSheet wsX7_isSheet 1 22 [.int x] D (xT cI cJ cZ) A (mW b cI cJ cZ v c) (fun _ : Unit => mW b cI cJ cZ v c)
    (fun (r : Int32) (u : Unit) => (∃ j : Nat, r = nI (1) ∧ j < 4 ∧ x = nI j) ∨ (r = nI (0) ∧ (x.toInt < 0 ∨ 4 ≤ x.toInt))) := by
  refine w_bI cX7_isSheet 1 .boolean (by decide) rfl (Nat.le_of_ble_eq_true rfl) (Or.inr rfl) ?_
  intro p e s m args below meth c0 ls Q hx hb hml hts hown hK hN hA hret hP hD hS hl
  have hl : lv_has ls 1 [(0, .int x)] := hl
  refine lv_iload_n hx hb dX7_isSheet_0 rfl (lv_at hl 0 rfl) ?_
  refine lv_iconst (v := nI (0)) hx hb dX7_isSheet_1 (by decide) ?_
  refine lv_iconst (v := nI (3)) hx hb dX7_isSheet_2 (by decide) ?_
  refine w_cSi (rest := []) hx hb hml hown hts (m_within_N l D b cI cJ cZ A v c x 0 3  (by first | assumption | omega) (by first | assumption | omega)) 3 gX7_isSheet_X7_within rfl hdX7_within ⟨Nat.le_of_ble_eq_true rfl, Nat.le_of_ble_eq_true rfl⟩ hK hN hP hD hS hA rfl hl.1 rfl (Nat.le_of_ble_eq_true rfl) dX7_isSheet_3 ⟨Nat.le_of_ble_eq_true rfl, Nat.le_of_ble_eq_true rfl⟩ (fun r u H locs hq hP hD hS => ?_)
  rcases hq with ⟨j_3, rfl, h1_3, h_3, hs_x_3⟩ | ⟨rfl, h_3⟩
  · skip
    have hP : va_P D vwCl (mW b cI cJ cZ v c) H := hP
    have hD : va_D A (mW b cI cJ cZ v c) := hD
    subst hs_x_3
    have j_3T := n_tI (k := j_3) (by omega)
    exact hret (nI (1)) () _ _ 6 _ dX7_isSheet_6 rfl (by exact Or.inl ⟨_, rfl, by omega, rfl⟩) hP hD hS
  · skip
    have hP : va_P D vwCl (mW b cI cJ cZ v c) H := hP
    have hD : va_D A (mW b cI cJ cZ v c) := hD
    exact hret (nI (0)) () _ _ 6 _ dX7_isSheet_6 rfl (by exact Or.inr ⟨rfl, by omega⟩) hP hD hS

set_option maxHeartbeats 4000000 in
set_option maxRecDepth 100000 in
theorem m_isSort (l : Launch) (D : va_G) (b : Nat → Nat) (cI cJ cZ : ClassId) (A : Nat → Prop) (v : Nat → Nat → Nat) (c : Nat → Nat → Int32) (x : Int32) :
    mI l yX7_isSort wsX7_isSort 1 22 [.int x] D (xT cI cJ cZ) A (mW b cI cJ cZ v c) (fun _ : Unit => mW b cI cJ cZ v c)
    (fun (r : Int32) (u : Unit) => (∃ j : Nat, r = nI (1) ∧ j < 3 ∧ x = nI j) ∨ (r = nI (0) ∧ (x.toInt < 0 ∨ 3 ≤ x.toInt))) := by
  refine w_bI cX7_isSort 1 .boolean (by decide) rfl (Nat.le_of_ble_eq_true rfl) (Or.inr rfl) ?_
  intro p e s m args below meth c0 ls Q hx hb hml hts hown hK hN hA hret hP hD hS hl
  have hl : lv_has ls 1 [(0, .int x)] := hl
  refine lv_iload_n hx hb dX7_isSort_0 rfl (lv_at hl 0 rfl) ?_
  refine lv_iconst (v := nI (0)) hx hb dX7_isSort_1 (by decide) ?_
  refine lv_iconst (v := nI (2)) hx hb dX7_isSort_2 (by decide) ?_
  refine w_cSi (rest := []) hx hb hml hown hts (m_within_N l D b cI cJ cZ A v c x 0 2  (by first | assumption | omega) (by first | assumption | omega)) 3 gX7_isSort_X7_within rfl hdX7_within ⟨Nat.le_of_ble_eq_true rfl, Nat.le_of_ble_eq_true rfl⟩ hK hN hP hD hS hA rfl hl.1 rfl (Nat.le_of_ble_eq_true rfl) dX7_isSort_3 ⟨Nat.le_of_ble_eq_true rfl, Nat.le_of_ble_eq_true rfl⟩ (fun r u H locs hq hP hD hS => ?_)
  rcases hq with ⟨j_3, rfl, h1_3, h_3, hs_x_3⟩ | ⟨rfl, h_3⟩
  · skip
    have hP : va_P D vwCl (mW b cI cJ cZ v c) H := hP
    have hD : va_D A (mW b cI cJ cZ v c) := hD
    subst hs_x_3
    have j_3T := n_tI (k := j_3) (by omega)
    exact hret (nI (1)) () _ _ 6 _ dX7_isSort_6 rfl (by exact Or.inl ⟨_, rfl, by omega, rfl⟩) hP hD hS
  · skip
    have hP : va_P D vwCl (mW b cI cJ cZ v c) H := hP
    have hD : va_D A (mW b cI cJ cZ v c) := hD
    exact hret (nI (0)) () _ _ 6 _ dX7_isSort_6 rfl (by exact Or.inr ⟨rfl, by omega⟩) hP hD hS

set_option maxHeartbeats 4000000 in
set_option maxRecDepth 100000 in
theorem m_isBoard_N (l : Launch) (D : va_G) (b : Nat → Nat) (cI cJ cZ : ClassId) (A : Nat → Prop) (v : Nat → Nat → Nat) (c : Nat → Nat → Int32) (x : Nat) (hlim : v 5 0 ≤ 7) (hB : x < 2147483648) :
    mI l yX7_isBoard wsX7_isBoard 0 0 [.ref (b 0), .int (nI x)] D (xT cI cJ cZ) A (mW b cI cJ cZ v c) (fun _ : Unit => mW b cI cJ cZ v c)
    (fun (r : Int32) (u : Unit) => (r = nI (1) ∧ x < v 5 0) ∨ (r = nI (0) ∧ v 5 0 ≤ x)) := by
  refine w_bI cX7_isBoard 2 .boolean (by decide) rfl (Nat.le_of_ble_eq_true rfl) (Or.inr rfl) ?_
  intro p e s m args below meth c0 ls Q hx hb hml hts hown hK hN hA hret hP hD hS hl
  have hl : lv_has ls 2 [(0, .ref (b 0)), (1, .int (nI (x)))] := hl
  have hinX7 : ∀ w ∈ wsX70, w ∈ wsX7_isBoard := fun w h => List.mem_cons_of_mem _ (List.mem_append_right _ h)
  refine lv_iload_n hx hb dX7_isBoard_0 rfl (lv_at hl 1 rfl) ?_
  refine w_if_lt (x := x) hx hb dX7_isBoard_1 (tgt := 16) (by decide) (by omega) ?_
  refine lv_iload_n hx hb dX7_isBoard_4 rfl (lv_at hl 1 rfl) ?_
  refine lv_aload_n hx hb dX7_isBoard_5 rfl (lv_at hl 0 rfl) ?_
  refine va_get (D := D) (ci := 7) (v := .int (nI (v 5 0))) (C := RX7) (T := TX7) (N := 24) hx hb hts hinX7 hown hK hP 0 rfl rfl 5 (by decide) (hts (.fieldLink RX7 63 "DancedLockModel" "boards" "I") (List.mem_of_getElem? (i := 1) rfl)) (fun _ h9 => h9) rfl dX7_isBoard_6 ?_
  refine w_icmp_ge (x := x) (y := v 5 0) hx hb dX7_isBoard_9 (tgt := 16) (by decide) (by omega) (by omega) (fun c9 => ?_) (fun c9 => ?_)
  · skip
    refine lv_iconst (v := nI (0)) hx hb dX7_isBoard_16 (by decide) ?_
    exact hret (nI (0)) () _ _ 17 _ dX7_isBoard_17 rfl (by exact Or.inr ⟨rfl, by omega⟩) hP hD hS
  · skip
    refine lv_iconst (v := nI (1)) hx hb dX7_isBoard_12 (by decide) ?_
    refine lv_goto (tgt := 17) hx hb dX7_isBoard_13 (by decide) ?_
    exact hret (nI (1)) () _ _ 17 _ dX7_isBoard_17 rfl (by exact Or.inl ⟨rfl, by omega⟩) hP hD hS

set_option maxHeartbeats 4000000 in
set_option maxRecDepth 100000 in
theorem m_isBoard_R (l : Launch) (D : va_G) (b : Nat → Nat) (cI cJ cZ : ClassId) (A : Nat → Prop) (v : Nat → Nat → Nat) (c : Nat → Nat → Int32) (x : Int32) (hlim : v 5 0 ≤ 7) :
    mI l yX7_isBoard wsX7_isBoard 0 0 [.ref (b 0), .int x] D (xT cI cJ cZ) A (mW b cI cJ cZ v c) (fun _ : Unit => mW b cI cJ cZ v c)
    (fun (r : Int32) (u : Unit) => (∃ j : Nat, r = nI (1) ∧ j < v 5 0 ∧ x = nI j) ∨ (r = nI (0) ∧ (x.toInt < 0 ∨ (v 5 0 : Int) ≤ x.toInt))) := by
  refine w_bI cX7_isBoard 2 .boolean (by decide) rfl (Nat.le_of_ble_eq_true rfl) (Or.inr rfl) ?_
  intro p e s m args below meth c0 ls Q hx hb hml hts hown hK hN hA hret hP hD hS hl
  have hl : lv_has ls 2 [(0, .ref (b 0)), (1, .int x)] := hl
  have hinX7 : ∀ w ∈ wsX70, w ∈ wsX7_isBoard := fun w h => List.mem_cons_of_mem _ (List.mem_append_right _ h)
  refine lv_iload_n hx hb dX7_isBoard_0 rfl (lv_at hl 1 rfl) ?_
  refine r_if_lt hx hb dX7_isBoard_1 (tgt := 16) (by decide) (fun c1 => ?_) (fun c1 => ?_)
  · skip
    refine lv_iconst (v := nI (0)) hx hb dX7_isBoard_16 (by decide) ?_
    exact hret (nI (0)) () _ _ 17 _ dX7_isBoard_17 rfl (by exact Or.inr ⟨rfl, by omega⟩) hP hD hS
  · skip
    obtain ⟨x', x'B, rfl⟩ := r_nat c1
    have x'T := n_tI x'B
    refine lv_iload_n hx hb dX7_isBoard_4 rfl (lv_at hl 1 rfl) ?_
    refine lv_aload_n hx hb dX7_isBoard_5 rfl (lv_at hl 0 rfl) ?_
    refine va_get (D := D) (ci := 7) (v := .int (nI (v 5 0))) (C := RX7) (T := TX7) (N := 24) hx hb hts hinX7 hown hK hP 0 rfl rfl 5 (by decide) (hts (.fieldLink RX7 63 "DancedLockModel" "boards" "I") (List.mem_of_getElem? (i := 1) rfl)) (fun _ h9 => h9) rfl dX7_isBoard_6 ?_
    refine w_icmp_ge (x := x') (y := v 5 0) hx hb dX7_isBoard_9 (tgt := 16) (by decide) (by omega) (by omega) (fun c9 => ?_) (fun c9 => ?_)
    · skip
      refine lv_iconst (v := nI (0)) hx hb dX7_isBoard_16 (by decide) ?_
      exact hret (nI (0)) () _ _ 17 _ dX7_isBoard_17 rfl (by exact Or.inr ⟨rfl, by omega⟩) hP hD hS
    · skip
      refine lv_iconst (v := nI (1)) hx hb dX7_isBoard_12 (by decide) ?_
      refine lv_goto (tgt := 17) hx hb dX7_isBoard_13 (by decide) ?_
      exact hret (nI (1)) () _ _ 17 _ dX7_isBoard_17 rfl (by exact Or.inl ⟨x', rfl, by omega, rfl⟩) hP hD hS

set_option maxHeartbeats 4000000 in
set_option maxRecDepth 100000 in
theorem m_isDoor_N (l : Launch) (D : va_G) (b : Nat → Nat) (cI cJ cZ : ClassId) (A : Nat → Prop) (v : Nat → Nat → Nat) (c : Nat → Nat → Int32) (x : Nat) (hlim : v 6 0 ≤ 7) (hB : x < 2147483648) :
    mI l yX7_isDoor wsX7_isDoor 0 0 [.ref (b 0), .int (nI x)] D (xT cI cJ cZ) A (mW b cI cJ cZ v c) (fun _ : Unit => mW b cI cJ cZ v c)
    (fun (r : Int32) (u : Unit) => (r = nI (1) ∧ x < v 6 0) ∨ (r = nI (0) ∧ v 6 0 ≤ x)) := by
  refine w_bI cX7_isDoor 2 .boolean (by decide) rfl (Nat.le_of_ble_eq_true rfl) (Or.inr rfl) ?_
  intro p e s m args below meth c0 ls Q hx hb hml hts hown hK hN hA hret hP hD hS hl
  have hl : lv_has ls 2 [(0, .ref (b 0)), (1, .int (nI (x)))] := hl
  have hinX7 : ∀ w ∈ wsX70, w ∈ wsX7_isDoor := fun w h => List.mem_cons_of_mem _ (List.mem_append_right _ h)
  refine lv_iload_n hx hb dX7_isDoor_0 rfl (lv_at hl 1 rfl) ?_
  refine w_if_lt (x := x) hx hb dX7_isDoor_1 (tgt := 16) (by decide) (by omega) ?_
  refine lv_iload_n hx hb dX7_isDoor_4 rfl (lv_at hl 1 rfl) ?_
  refine lv_aload_n hx hb dX7_isDoor_5 rfl (lv_at hl 0 rfl) ?_
  refine va_get (D := D) (ci := 7) (v := .int (nI (v 6 0))) (C := RX7) (T := TX7) (N := 24) hx hb hts hinX7 hown hK hP 0 rfl rfl 6 (by decide) (hts (.fieldLink RX7 66 "DancedLockModel" "doors" "I") (List.mem_of_getElem? (i := 1) rfl)) (fun _ h9 => h9) rfl dX7_isDoor_6 ?_
  refine w_icmp_ge (x := x) (y := v 6 0) hx hb dX7_isDoor_9 (tgt := 16) (by decide) (by omega) (by omega) (fun c9 => ?_) (fun c9 => ?_)
  · skip
    refine lv_iconst (v := nI (0)) hx hb dX7_isDoor_16 (by decide) ?_
    exact hret (nI (0)) () _ _ 17 _ dX7_isDoor_17 rfl (by exact Or.inr ⟨rfl, by omega⟩) hP hD hS
  · skip
    refine lv_iconst (v := nI (1)) hx hb dX7_isDoor_12 (by decide) ?_
    refine lv_goto (tgt := 17) hx hb dX7_isDoor_13 (by decide) ?_
    exact hret (nI (1)) () _ _ 17 _ dX7_isDoor_17 rfl (by exact Or.inl ⟨rfl, by omega⟩) hP hD hS

set_option maxHeartbeats 4000000 in
set_option maxRecDepth 100000 in
theorem m_isDoor_R (l : Launch) (D : va_G) (b : Nat → Nat) (cI cJ cZ : ClassId) (A : Nat → Prop) (v : Nat → Nat → Nat) (c : Nat → Nat → Int32) (x : Int32) (hlim : v 6 0 ≤ 7) :
    mI l yX7_isDoor wsX7_isDoor 0 0 [.ref (b 0), .int x] D (xT cI cJ cZ) A (mW b cI cJ cZ v c) (fun _ : Unit => mW b cI cJ cZ v c)
    (fun (r : Int32) (u : Unit) => (∃ j : Nat, r = nI (1) ∧ j < v 6 0 ∧ x = nI j) ∨ (r = nI (0) ∧ (x.toInt < 0 ∨ (v 6 0 : Int) ≤ x.toInt))) := by
  refine w_bI cX7_isDoor 2 .boolean (by decide) rfl (Nat.le_of_ble_eq_true rfl) (Or.inr rfl) ?_
  intro p e s m args below meth c0 ls Q hx hb hml hts hown hK hN hA hret hP hD hS hl
  have hl : lv_has ls 2 [(0, .ref (b 0)), (1, .int x)] := hl
  have hinX7 : ∀ w ∈ wsX70, w ∈ wsX7_isDoor := fun w h => List.mem_cons_of_mem _ (List.mem_append_right _ h)
  refine lv_iload_n hx hb dX7_isDoor_0 rfl (lv_at hl 1 rfl) ?_
  refine r_if_lt hx hb dX7_isDoor_1 (tgt := 16) (by decide) (fun c1 => ?_) (fun c1 => ?_)
  · skip
    refine lv_iconst (v := nI (0)) hx hb dX7_isDoor_16 (by decide) ?_
    exact hret (nI (0)) () _ _ 17 _ dX7_isDoor_17 rfl (by exact Or.inr ⟨rfl, by omega⟩) hP hD hS
  · skip
    obtain ⟨x', x'B, rfl⟩ := r_nat c1
    have x'T := n_tI x'B
    refine lv_iload_n hx hb dX7_isDoor_4 rfl (lv_at hl 1 rfl) ?_
    refine lv_aload_n hx hb dX7_isDoor_5 rfl (lv_at hl 0 rfl) ?_
    refine va_get (D := D) (ci := 7) (v := .int (nI (v 6 0))) (C := RX7) (T := TX7) (N := 24) hx hb hts hinX7 hown hK hP 0 rfl rfl 6 (by decide) (hts (.fieldLink RX7 66 "DancedLockModel" "doors" "I") (List.mem_of_getElem? (i := 1) rfl)) (fun _ h9 => h9) rfl dX7_isDoor_6 ?_
    refine w_icmp_ge (x := x') (y := v 6 0) hx hb dX7_isDoor_9 (tgt := 16) (by decide) (by omega) (by omega) (fun c9 => ?_) (fun c9 => ?_)
    · skip
      refine lv_iconst (v := nI (0)) hx hb dX7_isDoor_16 (by decide) ?_
      exact hret (nI (0)) () _ _ 17 _ dX7_isDoor_17 rfl (by exact Or.inr ⟨rfl, by omega⟩) hP hD hS
    · skip
      refine lv_iconst (v := nI (1)) hx hb dX7_isDoor_12 (by decide) ?_
      refine lv_goto (tgt := 17) hx hb dX7_isDoor_13 (by decide) ?_
      exact hret (nI (1)) () _ _ 17 _ dX7_isDoor_17 rfl (by exact Or.inl ⟨x', rfl, by omega, rfl⟩) hP hD hS

set_option maxHeartbeats 4000000 in
set_option maxRecDepth 100000 in
theorem m_isDancer_N (l : Launch) (D : va_G) (b : Nat → Nat) (cI cJ cZ : ClassId) (A : Nat → Prop) (v : Nat → Nat → Nat) (c : Nat → Nat → Int32) (x : Nat) (hlim : v 16 0 ≤ 7) (hB : x < 2147483648) :
    mI l yX7_isDancer wsX7_isDancer 0 0 [.ref (b 0), .int (nI x)] D (xT cI cJ cZ) A (mW b cI cJ cZ v c) (fun _ : Unit => mW b cI cJ cZ v c)
    (fun (r : Int32) (u : Unit) => (r = nI (1) ∧ x < v 16 0) ∨ (r = nI (0) ∧ v 16 0 ≤ x)) := by
  refine w_bI cX7_isDancer 2 .boolean (by decide) rfl (Nat.le_of_ble_eq_true rfl) (Or.inr rfl) ?_
  intro p e s m args below meth c0 ls Q hx hb hml hts hown hK hN hA hret hP hD hS hl
  have hl : lv_has ls 2 [(0, .ref (b 0)), (1, .int (nI (x)))] := hl
  have hinX7 : ∀ w ∈ wsX70, w ∈ wsX7_isDancer := fun w h => List.mem_cons_of_mem _ (List.mem_append_right _ h)
  refine lv_iload_n hx hb dX7_isDancer_0 rfl (lv_at hl 1 rfl) ?_
  refine w_if_lt (x := x) hx hb dX7_isDancer_1 (tgt := 16) (by decide) (by omega) ?_
  refine lv_iload_n hx hb dX7_isDancer_4 rfl (lv_at hl 1 rfl) ?_
  refine lv_aload_n hx hb dX7_isDancer_5 rfl (lv_at hl 0 rfl) ?_
  refine va_get (D := D) (ci := 7) (v := .int (nI (v 16 0))) (C := RX7) (T := TX7) (N := 24) hx hb hts hinX7 hown hK hP 0 rfl rfl 16 (by decide) (hts (.fieldLink RX7 103 "DancedLockModel" "dancers" "I") (List.mem_of_getElem? (i := 1) rfl)) (fun _ h9 => h9) rfl dX7_isDancer_6 ?_
  refine w_icmp_ge (x := x) (y := v 16 0) hx hb dX7_isDancer_9 (tgt := 16) (by decide) (by omega) (by omega) (fun c9 => ?_) (fun c9 => ?_)
  · skip
    refine lv_iconst (v := nI (0)) hx hb dX7_isDancer_16 (by decide) ?_
    exact hret (nI (0)) () _ _ 17 _ dX7_isDancer_17 rfl (by exact Or.inr ⟨rfl, by omega⟩) hP hD hS
  · skip
    refine lv_iconst (v := nI (1)) hx hb dX7_isDancer_12 (by decide) ?_
    refine lv_goto (tgt := 17) hx hb dX7_isDancer_13 (by decide) ?_
    exact hret (nI (1)) () _ _ 17 _ dX7_isDancer_17 rfl (by exact Or.inl ⟨rfl, by omega⟩) hP hD hS

set_option maxHeartbeats 4000000 in
set_option maxRecDepth 100000 in
theorem m_isDancer_R (l : Launch) (D : va_G) (b : Nat → Nat) (cI cJ cZ : ClassId) (A : Nat → Prop) (v : Nat → Nat → Nat) (c : Nat → Nat → Int32) (x : Int32) (hlim : v 16 0 ≤ 7) :
    mI l yX7_isDancer wsX7_isDancer 0 0 [.ref (b 0), .int x] D (xT cI cJ cZ) A (mW b cI cJ cZ v c) (fun _ : Unit => mW b cI cJ cZ v c)
    (fun (r : Int32) (u : Unit) => (∃ j : Nat, r = nI (1) ∧ j < v 16 0 ∧ x = nI j) ∨ (r = nI (0) ∧ (x.toInt < 0 ∨ (v 16 0 : Int) ≤ x.toInt))) := by
  refine w_bI cX7_isDancer 2 .boolean (by decide) rfl (Nat.le_of_ble_eq_true rfl) (Or.inr rfl) ?_
  intro p e s m args below meth c0 ls Q hx hb hml hts hown hK hN hA hret hP hD hS hl
  have hl : lv_has ls 2 [(0, .ref (b 0)), (1, .int x)] := hl
  have hinX7 : ∀ w ∈ wsX70, w ∈ wsX7_isDancer := fun w h => List.mem_cons_of_mem _ (List.mem_append_right _ h)
  refine lv_iload_n hx hb dX7_isDancer_0 rfl (lv_at hl 1 rfl) ?_
  refine r_if_lt hx hb dX7_isDancer_1 (tgt := 16) (by decide) (fun c1 => ?_) (fun c1 => ?_)
  · skip
    refine lv_iconst (v := nI (0)) hx hb dX7_isDancer_16 (by decide) ?_
    exact hret (nI (0)) () _ _ 17 _ dX7_isDancer_17 rfl (by exact Or.inr ⟨rfl, by omega⟩) hP hD hS
  · skip
    obtain ⟨x', x'B, rfl⟩ := r_nat c1
    have x'T := n_tI x'B
    refine lv_iload_n hx hb dX7_isDancer_4 rfl (lv_at hl 1 rfl) ?_
    refine lv_aload_n hx hb dX7_isDancer_5 rfl (lv_at hl 0 rfl) ?_
    refine va_get (D := D) (ci := 7) (v := .int (nI (v 16 0))) (C := RX7) (T := TX7) (N := 24) hx hb hts hinX7 hown hK hP 0 rfl rfl 16 (by decide) (hts (.fieldLink RX7 103 "DancedLockModel" "dancers" "I") (List.mem_of_getElem? (i := 1) rfl)) (fun _ h9 => h9) rfl dX7_isDancer_6 ?_
    refine w_icmp_ge (x := x') (y := v 16 0) hx hb dX7_isDancer_9 (tgt := 16) (by decide) (by omega) (by omega) (fun c9 => ?_) (fun c9 => ?_)
    · skip
      refine lv_iconst (v := nI (0)) hx hb dX7_isDancer_16 (by decide) ?_
      exact hret (nI (0)) () _ _ 17 _ dX7_isDancer_17 rfl (by exact Or.inr ⟨rfl, by omega⟩) hP hD hS
    · skip
      refine lv_iconst (v := nI (1)) hx hb dX7_isDancer_12 (by decide) ?_
      refine lv_goto (tgt := 17) hx hb dX7_isDancer_13 (by decide) ?_
      exact hret (nI (1)) () _ _ 17 _ dX7_isDancer_17 rfl (by exact Or.inl ⟨x', rfl, by omega, rfl⟩) hP hD hS

set_option maxHeartbeats 4000000 in
set_option maxRecDepth 100000 in
theorem m_isBeat_N (l : Launch) (D : va_G) (b : Nat → Nat) (cI cJ cZ : ClassId) (A : Nat → Prop) (v : Nat → Nat → Nat) (c : Nat → Nat → Int32) (d : Nat) (k : Nat) (hI : MI v c) (hd : d < v 6 0) (hB : k < 2147483648) :
    mI l yX7_isBeat wsX7_isBeat 1 21 [.ref (b 0), .int (nI d), .int (nI k)] D (xT cI cJ cZ) A (mW b cI cJ cZ v c) (fun _ : Unit => mW b cI cJ cZ v c)
    (fun (r : Int32) (u : Unit) => (r = nI (1) ∧ k < v 8 d) ∨ (r = nI (0) ∧ v 8 d ≤ k)) := by
  refine w_bI cX7_isBeat 3 .boolean (by decide) rfl (Nat.le_of_ble_eq_true rfl) (Or.inr rfl) ?_
  intro p e s m args below meth c0 ls Q hx hb hml hts hown hK hN hA hret hP hD hS hl
  have hl : lv_has ls 3 [(0, .ref (b 0)), (1, .int (nI (d))), (2, .int (nI (k)))] := hl
  have hinX7 : ∀ w ∈ wsX70, w ∈ wsX7_isBeat := fun w h => List.mem_cons_of_mem _ (List.mem_append_right _ h)
  obtain ⟨hnb, hnd, hbt, hfg, hne, hnc, hdk, hnf, hkn, hln, hst, hdc, hsp⟩ := MI_o hI
  have hbd := hbt d hd
  refine lv_aload_n hx hb dX7_isBeat_0 rfl (lv_at hl 0 rfl) ?_
  refine lv_iload_n hx hb dX7_isBeat_1 rfl (lv_at hl 1 rfl) ?_
  refine w_cVi (rest := []) hx hb hml hown hts (m_isDoor_N l D b cI cJ cZ A v c d  (by first | assumption | omega) (by first | assumption | omega)) 1 gX7_isBeat_X7_isDoor rfl hdX7_isDoor ⟨Nat.le_of_ble_eq_true rfl, Nat.le_of_ble_eq_true rfl⟩ hK hN hP hD hS hA 0 7 rfl rfl rfl rfl hl.1 rfl (Nat.le_of_ble_eq_true rfl) dX7_isBeat_2 ⟨Nat.le_of_ble_eq_true rfl, Nat.le_of_ble_eq_true rfl⟩ (fun r u H locs hq hP hD hS => ?_)
  rcases hq with ⟨rfl, h_2⟩ | ⟨rfl, h_2⟩
  · skip
    have hP : va_P D vwCl (mW b cI cJ cZ v c) H := hP
    have hD : va_D A (mW b cI cJ cZ v c) := hD
    refine w_if_eq (x := 1) hx hb dX7_isBeat_5 (tgt := 26) (by decide) (by decide) (fun h => absurd h (by decide)) (fun _ => ?_)
    refine lv_iload_n hx hb dX7_isBeat_8 rfl (lv_at hl 2 rfl) ?_
    refine w_if_lt (x := k) hx hb dX7_isBeat_9 (tgt := 26) (by decide) (by omega) ?_
    refine lv_iload_n hx hb dX7_isBeat_12 rfl (lv_at hl 2 rfl) ?_
    refine lv_aload_n hx hb dX7_isBeat_13 rfl (lv_at hl 0 rfl) ?_
    refine va_get (D := D) (ci := 7) (v := .ref (b 8)) (C := RX7) (T := TX7) (N := 24) hx hb hts hinX7 hown hK hP 0 rfl rfl 8 (by decide) (hts (.fieldLink RX7 22 "DancedLockModel" "beats" "[I") (List.mem_of_getElem? (i := 1) rfl)) (fun _ h9 => h9) rfl dX7_isBeat_14 ?_
    refine lv_iload_n hx hb dX7_isBeat_17 rfl (lv_at hl 1 rfl) ?_
    refine w_iald (f := v 8) hx hb hK hP 5 0 rfl rfl (i := d) (by omega) (by decide) dX7_isBeat_18 ?_
    refine w_icmp_ge (x := k) (y := v 8 d) hx hb dX7_isBeat_19 (tgt := 26) (by decide) (by omega) (by omega) (fun c19 => ?_) (fun c19 => ?_)
    · skip
      refine lv_iconst (v := nI (0)) hx hb dX7_isBeat_26 (by decide) ?_
      exact hret (nI (0)) () _ _ 27 _ dX7_isBeat_27 rfl (by exact Or.inr ⟨rfl, by omega⟩) hP hD hS
    · skip
      refine lv_iconst (v := nI (1)) hx hb dX7_isBeat_22 (by decide) ?_
      refine lv_goto (tgt := 27) hx hb dX7_isBeat_23 (by decide) ?_
      exact hret (nI (1)) () _ _ 27 _ dX7_isBeat_27 rfl (by exact Or.inl ⟨rfl, by omega⟩) hP hD hS
  · skip
    exfalso; omega

set_option maxHeartbeats 4000000 in
set_option maxRecDepth 100000 in
theorem m_isBeat_R (l : Launch) (D : va_G) (b : Nat → Nat) (cI cJ cZ : ClassId) (A : Nat → Prop) (v : Nat → Nat → Nat) (c : Nat → Nat → Int32) (d : Int32) (k : Int32) (hI : MI v c) :
    mI l yX7_isBeat wsX7_isBeat 1 21 [.ref (b 0), .int d, .int k] D (xT cI cJ cZ) A (mW b cI cJ cZ v c) (fun _ : Unit => mW b cI cJ cZ v c)
    (fun (r : Int32) (u : Unit) => (∃ i : Nat, ∃ j : Nat, r = nI (1) ∧ i < v 6 0 ∧ j < v 8 i ∧ d = nI i ∧ k = nI j) ∨ (r = nI (0) ∧ (d.toInt < 0 ∨ (v 6 0 : Int) ≤ d.toInt)) ∨ (∃ i : Nat, r = nI (0) ∧ i < v 6 0 ∧ d = nI i ∧ (k.toInt < 0 ∨ (v 8 i : Int) ≤ k.toInt))) := by
  refine w_bI cX7_isBeat 3 .boolean (by decide) rfl (Nat.le_of_ble_eq_true rfl) (Or.inr rfl) ?_
  intro p e s m args below meth c0 ls Q hx hb hml hts hown hK hN hA hret hP hD hS hl
  have hl : lv_has ls 3 [(0, .ref (b 0)), (1, .int d), (2, .int k)] := hl
  have hinX7 : ∀ w ∈ wsX70, w ∈ wsX7_isBeat := fun w h => List.mem_cons_of_mem _ (List.mem_append_right _ h)
  obtain ⟨hnb, hnd, hbt, hfg, hne, hnc, hdk, hnf, hkn, hln, hst, hdc, hsp⟩ := MI_o hI
  refine lv_aload_n hx hb dX7_isBeat_0 rfl (lv_at hl 0 rfl) ?_
  refine lv_iload_n hx hb dX7_isBeat_1 rfl (lv_at hl 1 rfl) ?_
  refine w_cVi (rest := []) hx hb hml hown hts (m_isDoor_R l D b cI cJ cZ A v c d  (by first | assumption | omega)) 1 gX7_isBeat_X7_isDoor rfl hdX7_isDoor ⟨Nat.le_of_ble_eq_true rfl, Nat.le_of_ble_eq_true rfl⟩ hK hN hP hD hS hA 0 7 rfl rfl rfl rfl hl.1 rfl (Nat.le_of_ble_eq_true rfl) dX7_isBeat_2 ⟨Nat.le_of_ble_eq_true rfl, Nat.le_of_ble_eq_true rfl⟩ (fun r u H locs hq hP hD hS => ?_)
  rcases hq with ⟨j_2, rfl, h_2, hs_x_2⟩ | ⟨rfl, h_2⟩
  · skip
    have hP : va_P D vwCl (mW b cI cJ cZ v c) H := hP
    have hD : va_D A (mW b cI cJ cZ v c) := hD
    subst hs_x_2
    have j_2T := n_tI (k := j_2) (by omega)
    refine w_if_eq (x := 1) hx hb dX7_isBeat_5 (tgt := 26) (by decide) (by decide) (fun h => absurd h (by decide)) (fun _ => ?_)
    have hbd := hbt j_2 h_2
    refine lv_iload_n hx hb dX7_isBeat_8 rfl (lv_at hl 2 rfl) ?_
    refine r_if_lt hx hb dX7_isBeat_9 (tgt := 26) (by decide) (fun c9 => ?_) (fun c9 => ?_)
    · skip
      refine lv_iconst (v := nI (0)) hx hb dX7_isBeat_26 (by decide) ?_
      exact hret (nI (0)) () _ _ 27 _ dX7_isBeat_27 rfl (by first | exact Or.inr (Or.inl ⟨rfl, h_2⟩) | exact Or.inr (Or.inr ⟨j_2, rfl, h_2, rfl, by omega⟩)) hP hD hS
    · skip
      obtain ⟨k', k'B, rfl⟩ := r_nat c9
      have k'T := n_tI k'B
      refine lv_iload_n hx hb dX7_isBeat_12 rfl (lv_at hl 2 rfl) ?_
      refine lv_aload_n hx hb dX7_isBeat_13 rfl (lv_at hl 0 rfl) ?_
      refine va_get (D := D) (ci := 7) (v := .ref (b 8)) (C := RX7) (T := TX7) (N := 24) hx hb hts hinX7 hown hK hP 0 rfl rfl 8 (by decide) (hts (.fieldLink RX7 22 "DancedLockModel" "beats" "[I") (List.mem_of_getElem? (i := 1) rfl)) (fun _ h9 => h9) rfl dX7_isBeat_14 ?_
      refine lv_iload_n hx hb dX7_isBeat_17 rfl (lv_at hl 1 rfl) ?_
      refine w_iald (f := v 8) hx hb hK hP 5 0 rfl rfl (i := j_2) (by omega) (by decide) dX7_isBeat_18 ?_
      refine w_icmp_ge (x := k') (y := v 8 j_2) hx hb dX7_isBeat_19 (tgt := 26) (by decide) (by omega) (by omega) (fun c19 => ?_) (fun c19 => ?_)
      · skip
        refine lv_iconst (v := nI (0)) hx hb dX7_isBeat_26 (by decide) ?_
        exact hret (nI (0)) () _ _ 27 _ dX7_isBeat_27 rfl (by first | exact Or.inr (Or.inl ⟨rfl, h_2⟩) | exact Or.inr (Or.inr ⟨j_2, rfl, h_2, rfl, by omega⟩)) hP hD hS
      · skip
        refine lv_iconst (v := nI (1)) hx hb dX7_isBeat_22 (by decide) ?_
        refine lv_goto (tgt := 27) hx hb dX7_isBeat_23 (by decide) ?_
        exact hret (nI (1)) () _ _ 27 _ dX7_isBeat_27 rfl (by exact Or.inl ⟨j_2, k', rfl, h_2, by omega, rfl, rfl⟩) hP hD hS
  · skip
    have hP : va_P D vwCl (mW b cI cJ cZ v c) H := hP
    have hD : va_D A (mW b cI cJ cZ v c) := hD
    refine w_if_eq (x := 0) hx hb dX7_isBeat_5 (tgt := 26) (by decide) (by decide) (fun _ => ?_) (fun h => absurd h (by decide))
    refine lv_iconst (v := nI (0)) hx hb dX7_isBeat_26 (by decide) ?_
    exact hret (nI (0)) () _ _ 27 _ dX7_isBeat_27 rfl (by first | exact Or.inr (Or.inl ⟨rfl, h_2⟩) | exact Or.inr (Or.inr ⟨j_2, rfl, h_2, rfl, by omega⟩)) hP hD hS

set_option maxHeartbeats 4000000 in
set_option maxRecDepth 100000 in
theorem m_isBeat_NR (l : Launch) (D : va_G) (b : Nat → Nat) (cI cJ cZ : ClassId) (A : Nat → Prop) (v : Nat → Nat → Nat) (c : Nat → Nat → Int32) (d : Nat) (k : Int32) (hI : MI v c) (hd : d < v 6 0) :
    mI l yX7_isBeat wsX7_isBeat 1 21 [.ref (b 0), .int (nI d), .int k] D (xT cI cJ cZ) A (mW b cI cJ cZ v c) (fun _ : Unit => mW b cI cJ cZ v c)
    (fun (r : Int32) (u : Unit) => (∃ j : Nat, r = nI (1) ∧ j < v 8 d ∧ k = nI j) ∨ (r = nI (0) ∧ (k.toInt < 0 ∨ (v 8 d : Int) ≤ k.toInt))) := by
  refine w_bI cX7_isBeat 3 .boolean (by decide) rfl (Nat.le_of_ble_eq_true rfl) (Or.inr rfl) ?_
  intro p e s m args below meth c0 ls Q hx hb hml hts hown hK hN hA hret hP hD hS hl
  have hl : lv_has ls 3 [(0, .ref (b 0)), (1, .int (nI (d))), (2, .int k)] := hl
  have hinX7 : ∀ w ∈ wsX70, w ∈ wsX7_isBeat := fun w h => List.mem_cons_of_mem _ (List.mem_append_right _ h)
  obtain ⟨hnb, hnd, hbt, hfg, hne, hnc, hdk, hnf, hkn, hln, hst, hdc, hsp⟩ := MI_o hI
  have hbd := hbt d hd
  refine lv_aload_n hx hb dX7_isBeat_0 rfl (lv_at hl 0 rfl) ?_
  refine lv_iload_n hx hb dX7_isBeat_1 rfl (lv_at hl 1 rfl) ?_
  refine w_cVi (rest := []) hx hb hml hown hts (m_isDoor_N l D b cI cJ cZ A v c d  (by first | assumption | omega) (by first | assumption | omega)) 1 gX7_isBeat_X7_isDoor rfl hdX7_isDoor ⟨Nat.le_of_ble_eq_true rfl, Nat.le_of_ble_eq_true rfl⟩ hK hN hP hD hS hA 0 7 rfl rfl rfl rfl hl.1 rfl (Nat.le_of_ble_eq_true rfl) dX7_isBeat_2 ⟨Nat.le_of_ble_eq_true rfl, Nat.le_of_ble_eq_true rfl⟩ (fun r u H locs hq hP hD hS => ?_)
  rcases hq with ⟨rfl, h_2⟩ | ⟨rfl, h_2⟩
  · skip
    have hP : va_P D vwCl (mW b cI cJ cZ v c) H := hP
    have hD : va_D A (mW b cI cJ cZ v c) := hD
    refine w_if_eq (x := 1) hx hb dX7_isBeat_5 (tgt := 26) (by decide) (by decide) (fun h => absurd h (by decide)) (fun _ => ?_)
    refine lv_iload_n hx hb dX7_isBeat_8 rfl (lv_at hl 2 rfl) ?_
    refine r_if_lt hx hb dX7_isBeat_9 (tgt := 26) (by decide) (fun c9 => ?_) (fun c9 => ?_)
    · skip
      refine lv_iconst (v := nI (0)) hx hb dX7_isBeat_26 (by decide) ?_
      exact hret (nI (0)) () _ _ 27 _ dX7_isBeat_27 rfl (by exact Or.inr ⟨rfl, by omega⟩) hP hD hS
    · skip
      obtain ⟨k', k'B, rfl⟩ := r_nat c9
      have k'T := n_tI k'B
      refine lv_iload_n hx hb dX7_isBeat_12 rfl (lv_at hl 2 rfl) ?_
      refine lv_aload_n hx hb dX7_isBeat_13 rfl (lv_at hl 0 rfl) ?_
      refine va_get (D := D) (ci := 7) (v := .ref (b 8)) (C := RX7) (T := TX7) (N := 24) hx hb hts hinX7 hown hK hP 0 rfl rfl 8 (by decide) (hts (.fieldLink RX7 22 "DancedLockModel" "beats" "[I") (List.mem_of_getElem? (i := 1) rfl)) (fun _ h9 => h9) rfl dX7_isBeat_14 ?_
      refine lv_iload_n hx hb dX7_isBeat_17 rfl (lv_at hl 1 rfl) ?_
      refine w_iald (f := v 8) hx hb hK hP 5 0 rfl rfl (i := d) (by omega) (by decide) dX7_isBeat_18 ?_
      refine w_icmp_ge (x := k') (y := v 8 d) hx hb dX7_isBeat_19 (tgt := 26) (by decide) (by omega) (by omega) (fun c19 => ?_) (fun c19 => ?_)
      · skip
        refine lv_iconst (v := nI (0)) hx hb dX7_isBeat_26 (by decide) ?_
        exact hret (nI (0)) () _ _ 27 _ dX7_isBeat_27 rfl (by exact Or.inr ⟨rfl, by omega⟩) hP hD hS
      · skip
        refine lv_iconst (v := nI (1)) hx hb dX7_isBeat_22 (by decide) ?_
        refine lv_goto (tgt := 27) hx hb dX7_isBeat_23 (by decide) ?_
        exact hret (nI (1)) () _ _ 27 _ dX7_isBeat_27 rfl (by exact Or.inl ⟨k', rfl, by omega, rfl⟩) hP hD hS
  · skip
    exfalso; omega

set_option maxHeartbeats 4000000 in
set_option maxRecDepth 100000 in
theorem m_spot (l : Launch) (D : va_G) (b : Nat → Nat) (cI cJ cZ : ClassId) (A : Nat → Prop) (v : Nat → Nat → Nat) (c : Nat → Nat → Int32) (dd : Nat) (k : Nat) :
    mI l yX7_spot wsX7_spot 0 0 [.int (nI dd), .int (nI k)] D (xT cI cJ cZ) A (mW b cI cJ cZ v c) (fun _ : Unit => mW b cI cJ cZ v c)
    (fun (r : Int32) (u : Unit) => r = nI (dd * 6 + k)) := by
  refine w_bI cX7_spot 2 .int (by decide) rfl (Nat.le_of_ble_eq_true rfl) (Or.inl rfl) ?_
  intro p e s m args below meth c0 ls Q hx hb hml hts hown hK hN hA hret hP hD hS hl
  have hl : lv_has ls 2 [(0, .int (nI (dd))), (1, .int (nI (k)))] := hl
  refine lv_bipush (v := nI (6)) hx hb dX7_spot_0 (by decide) ?_
  refine lv_iload_n hx hb dX7_spot_2 rfl (lv_at hl 0 rfl) ?_
  refine w_imul (x := 6) (y := dd) hx hb dX7_spot_3  ?_
  refine lv_iload_n hx hb dX7_spot_4 rfl (lv_at hl 1 rfl) ?_
  refine w_iadd (x := 6 * dd) (y := k) hx hb dX7_spot_5  ?_
  exact hret (nI (6 * dd + k)) () _ _ 6 _ dX7_spot_6 rfl (by rw [Nat.mul_comm]) hP hD hS

set_option maxHeartbeats 4000000 in
set_option maxRecDepth 100000 in
theorem m_size (l : Launch) (D : va_G) (b : Nat → Nat) (cI cJ cZ : ClassId) (A : Nat → Prop) (v : Nat → Nat → Nat) (c : Nat → Nat → Int32) (z : Nat) (hz : z < 16777216) :
    mI l yX7_size wsX7_size 0 0 [.int (nI z)] D (xT cI cJ cZ) A (mW b cI cJ cZ v c) (fun _ : Unit => mW b cI cJ cZ v c)
    (fun (r : Int32) (u : Unit) => r = nI (pc z)) := by
  refine w_bI cX7_size 3 .int (by decide) rfl (Nat.le_of_ble_eq_true rfl) (Or.inl rfl) ?_
  intro p e s m args below meth c0 ls Q hx hb hml hts hown hK hN hA hret hP hD hS hl
  have hl : lv_has ls 3 [(0, .int (nI (z)))] := hl
  refine lv_iconst (v := nI (0)) hx hb dX7_size_0 (by decide) ?_
  refine lv_istore_n (lv' := [(1, .int (nI (0))), (0, .int (nI (z)))]) hx hb dX7_size_1 rfl hl (by decide) rfl (fun ls hl => ?_)
  refine lv_iload_n hx hb dX7_size_2 rfl (lv_at hl 1 rfl) ?_
  refine lv_istore_n (lv' := [(2, .int (nI (z))), (1, .int (nI (0))), (0, .int (nI (z)))]) hx hb dX7_size_3 rfl hl (by decide) rfl (fun ls hl => ?_)
  have L4 : ∀ (n : Nat) (q : Nat) (y : Nat) (H : Heap) (locs : List Loc) (ls : Array Slot), y < n → (y < 16777216) → (q + pc y = pc z) → va_P D vwCl (mW b cI cJ cZ v c) H → va_D A (mW b cI cJ cZ v c) → va_S A s.heap H locs → lv_has ls 3 [(1, .int (nI (q))), (2, .int (nI (y))), (0, .int (nI (z)))] → W p l e { frames := 0, cells := 0, slots := 0, locals := 0 } s m args below meth c0 H locs 0 0 Q (F0 m 4 ls []) := by
    intro n
    induction n with
    | zero => intro q y H locs ls hm; exact absurd hm (Nat.not_lt_zero _)
    | succ n ih4 =>
      intro q y H locs ls hm4 h1 h2 hP hD hS hl
      refine lv_iload_n hx hb dX7_size_4 rfl (lv_at hl 1 rfl) ?_
      refine w_if_le (x := y) hx hb dX7_size_5 (tgt := 21) (by decide) (by omega) (fun c5 => ?_) (fun c5 => ?_)
      · skip
        refine lv_iload_n hx hb dX7_size_21 rfl (lv_at hl 0 rfl) ?_
        exact hret (nI (q)) () _ _ 22 _ dX7_size_22 rfl (by have e : y = 0 := (by omega); subst e; rw [← h2]; rfl) hP hD hS
      · skip
        refine lv_iload_n hx hb dX7_size_8 rfl (lv_at hl 0 rfl) ?_
        refine lv_iload_n hx hb dX7_size_9 rfl (lv_at hl 1 rfl) ?_
        refine lv_iconst (v := nI (1)) hx hb dX7_size_10 (by decide) ?_
        refine w_iand (x := y) (y := 1) hx hb dX7_size_11  ?_
        refine w_iadd (x := q) (y := y &&& 1) hx hb dX7_size_12  ?_
        refine lv_istore_n (lv' := [(1, .int (nI (q + (y &&& 1)))), (2, .int (nI (y))), (0, .int (nI (z)))]) hx hb dX7_size_13 rfl hl (by decide) rfl (fun ls hl => ?_)
        refine lv_iload_n hx hb dX7_size_14 rfl (lv_at hl 1 rfl) ?_
        refine lv_iconst (v := nI (1)) hx hb dX7_size_15 (by decide) ?_
        refine w_ishr (x := y) (y := 1) hx hb dX7_size_16 (by omega) (by omega) ?_
        refine lv_istore_n (lv' := [(2, .int (nI (y / 2 ^ 1))), (1, .int (nI (q + (y &&& 1)))), (0, .int (nI (z)))]) hx hb dX7_size_17 rfl hl (by decide) rfl (fun ls hl => ?_)
        refine lv_goto (tgt := 4) hx hb dX7_size_18 (by decide) ?_
        exact ih4 (q + (y &&& 1)) (y / 2 ^ 1) _ _ _ (by omega) (by omega) (by rw [← h2, pc_half h1, and1_mod]; show _ + pc (y / 2) = _; omega) hP hD hS (lv_sub hl [1, 0, 2] rfl)
  exact L4 (z + 1) 0 z _ _ _ (Nat.lt_succ_self _) (by omega) (by omega) hP hD hS (lv_sub hl [1, 0, 2] rfl)

set_option maxHeartbeats 4000000 in
set_option maxRecDepth 100000 in
theorem m_weighs (l : Launch) (D : va_G) (b : Nat → Nat) (cI cJ cZ : ClassId) (A : Nat → Prop) (v : Nat → Nat → Nat) (c : Nat → Nat → Int32) (dd : Nat) (hI : MI v c) (hd : dd < v 16 0) :
    mI l yX7_weighs wsX7_weighs 0 0 [.ref (b 0), .int (nI dd)] D (xT cI cJ cZ) A (mW b cI cJ cZ v c) (fun _ : Unit => mW b cI cJ cZ v c)
    (fun (r : Int32) (u : Unit) => r = nI (pA (v 17) (v 18) dd)) := by
  refine w_bI cX7_weighs 2 .int (by decide) rfl (Nat.le_of_ble_eq_true rfl) (Or.inl rfl) ?_
  intro p e s m args below meth c0 ls Q hx hb hml hts hown hK hN hA hret hP hD hS hl
  have hl : lv_has ls 2 [(0, .ref (b 0)), (1, .int (nI (dd)))] := hl
  have hinX7 : ∀ w ∈ wsX70, w ∈ wsX7_weighs := fun w h => List.mem_cons_of_mem _ (List.mem_append_right _ h)
  obtain ⟨hnb, hnd, hbt, hfg, hne, hnc, hdk, hnf, hkn, hln, hst, hdc, hsp⟩ := MI_o hI
  have hkd := hdk dd hd
  refine lv_aload_n hx hb dX7_weighs_0 rfl (lv_at hl 0 rfl) ?_
  refine va_get (D := D) (ci := 7) (v := .ref (b 17)) (C := RX7) (T := TX7) (N := 24) hx hb hts hinX7 hown hK hP 0 rfl rfl 17 (by decide) (hts (.fieldLink RX7 37 "DancedLockModel" "kind" "[I") (List.mem_of_getElem? (i := 1) rfl)) (fun _ h9 => h9) rfl dX7_weighs_1 ?_
  refine lv_iload_n hx hb dX7_weighs_4 rfl (lv_at hl 1 rfl) ?_
  refine w_iald (f := v 17) hx hb hK hP 10 0 rfl rfl (i := dd) (by omega) (by decide) dX7_weighs_5 ?_
  refine lv_iconst (v := nI (2)) hx hb dX7_weighs_6 (by decide) ?_
  refine w_icmp_ne (x := v 17 dd) (y := 2) hx hb dX7_weighs_7 (tgt := 21) (by decide) (by omega) (by omega) (fun c7 => ?_) (fun c7 => ?_)
  · skip
    refine lv_aload_n hx hb dX7_weighs_21 rfl (lv_at hl 0 rfl) ?_
    refine va_get (D := D) (ci := 7) (v := .ref (b 18)) (C := RX7) (T := TX7) (N := 24) hx hb hts hinX7 hown hK hP 0 rfl rfl 18 (by decide) (hts (.fieldLink RX7 40 "DancedLockModel" "weight" "[I") (List.mem_of_getElem? (i := 2) rfl)) (fun _ h9 => h9) rfl dX7_weighs_22 ?_
    refine lv_iload_n hx hb dX7_weighs_25 rfl (lv_at hl 1 rfl) ?_
    refine w_iald (f := v 18) hx hb hK hP 11 0 rfl rfl (i := dd) (by omega) (by decide) dX7_weighs_26 ?_
    exact hret (nI (v 18 dd)) () _ _ 27 _ dX7_weighs_27 rfl (by show _ = nI (if _ then _ else _); first | rw [if_pos c7] | rw [if_neg c7]) hP hD hS
  · skip
    refine lv_aload_n hx hb dX7_weighs_10 rfl (lv_at hl 0 rfl) ?_
    refine va_get (D := D) (ci := 7) (v := .ref (b 18)) (C := RX7) (T := TX7) (N := 24) hx hb hts hinX7 hown hK hP 0 rfl rfl 18 (by decide) (hts (.fieldLink RX7 40 "DancedLockModel" "weight" "[I") (List.mem_of_getElem? (i := 2) rfl)) (fun _ h9 => h9) rfl dX7_weighs_11 ?_
    refine lv_iload_n hx hb dX7_weighs_14 rfl (lv_at hl 1 rfl) ?_
    refine w_iald (f := v 18) hx hb hK hP 11 0 rfl rfl (i := dd) (by omega) (by decide) dX7_weighs_15 ?_
    refine lv_iconst (v := nI (2)) hx hb dX7_weighs_16 (by decide) ?_
    refine w_idiv (x := v 18 dd) (y := 2) hx hb dX7_weighs_17 (by omega) (by omega) (by omega) ?_
    refine lv_goto (tgt := 27) hx hb dX7_weighs_18 (by decide) ?_
    exact hret (nI ((v 18 dd) / 2)) () _ _ 27 _ dX7_weighs_27 rfl (by show _ = nI (if _ then _ else _); first | rw [if_pos c7] | rw [if_neg c7]) hP hD hS

set_option maxHeartbeats 4000000 in
set_option maxRecDepth 100000 in
theorem m_barsOf (l : Launch) (D : va_G) (b : Nat → Nat) (cI cJ cZ : ClassId) (A : Nat → Prop) (v : Nat → Nat → Nat) (c : Nat → Nat → Int32) (dd : Nat) (hI : MI v c) (hd : dd < v 6 0) :
    mI l yX7_barsOf wsX7_barsOf 0 0 [.ref (b 0), .int (nI dd)] D (xT cI cJ cZ) A (mW b cI cJ cZ v c) (fun _ : Unit => mW b cI cJ cZ v c)
    (fun (r : Int32) (u : Unit) => r = nI ((2 ^ v 8 dd - 1) * 2 ^ (dd * 6))) := by
  refine w_bI cX7_barsOf 2 .int (by decide) rfl (Nat.le_of_ble_eq_true rfl) (Or.inl rfl) ?_
  intro p e s m args below meth c0 ls Q hx hb hml hts hown hK hN hA hret hP hD hS hl
  have hl : lv_has ls 2 [(0, .ref (b 0)), (1, .int (nI (dd)))] := hl
  have hinX7 : ∀ w ∈ wsX70, w ∈ wsX7_barsOf := fun w h => List.mem_cons_of_mem _ (List.mem_append_right _ h)
  obtain ⟨hnb, hnd, hbt, hfg, hne, hnc, hdk, hnf, hkn, hln, hst, hdc, hsp⟩ := MI_o hI
  have hbd := hbt dd hd
  have hp := pow_le_64 hbd.2
  have hp1 := Nat.two_pow_pos (v 8 dd)
  have hq := pow_le_m18 (show dd ≤ 3 by omega)
  have hq2 := bars_lt hbd.2 (show dd ≤ 3 by omega)
  refine lv_iconst (v := nI (1)) hx hb dX7_barsOf_0 (by decide) ?_
  refine lv_aload_n hx hb dX7_barsOf_1 rfl (lv_at hl 0 rfl) ?_
  refine va_get (D := D) (ci := 7) (v := .ref (b 8)) (C := RX7) (T := TX7) (N := 24) hx hb hts hinX7 hown hK hP 0 rfl rfl 8 (by decide) (hts (.fieldLink RX7 22 "DancedLockModel" "beats" "[I") (List.mem_of_getElem? (i := 1) rfl)) (fun _ h9 => h9) rfl dX7_barsOf_2 ?_
  refine lv_iload_n hx hb dX7_barsOf_5 rfl (lv_at hl 1 rfl) ?_
  refine w_iald (f := v 8) hx hb hK hP 5 0 rfl rfl (i := dd) (by omega) (by decide) dX7_barsOf_6 ?_
  refine w_ishl (x := 1) (y := v 8 dd) hx hb dX7_barsOf_7 (by omega) (by omega) ?_
  refine lv_iconst (v := nI (1)) hx hb dX7_barsOf_8 (by decide) ?_
  refine w_isub (x := 1 * 2 ^ (v 8 dd)) (y := 1) hx hb dX7_barsOf_9 (by omega) ?_
  refine lv_bipush (v := nI (6)) hx hb dX7_barsOf_10 (by decide) ?_
  refine lv_iload_n hx hb dX7_barsOf_12 rfl (lv_at hl 1 rfl) ?_
  refine w_imul (x := 6) (y := dd) hx hb dX7_barsOf_13  ?_
  refine w_ishl (x := (1 * 2 ^ (v 8 dd)) - 1) (y := 6 * dd) hx hb dX7_barsOf_14 (by omega) (by rw [Nat.one_mul, Nat.mul_comm 6]; omega) ?_
  exact hret (nI (((1 * 2 ^ (v 8 dd)) - 1) * 2 ^ (6 * dd))) () _ _ 15 _ dX7_barsOf_15 rfl (by rw [Nat.one_mul, Nat.mul_comm 6]) hP hD hS

set_option maxHeartbeats 4000000 in
set_option maxRecDepth 100000 in
theorem m_allBars (l : Launch) (D : va_G) (b : Nat → Nat) (cI cJ cZ : ClassId) (A : Nat → Prop) (v : Nat → Nat → Nat) (c : Nat → Nat → Int32) (hI : MI v c) :
    mI l yX7_allBars wsX7_allBars 1 21 [.ref (b 0)] D (xT cI cJ cZ) A (mW b cI cJ cZ v c) (fun _ : Unit => mW b cI cJ cZ v c)
    (fun (r : Int32) (u : Unit) => r = nI (abr (v 8) (v 6 0))) := by
  refine w_bI cX7_allBars 3 .int (by decide) rfl (Nat.le_of_ble_eq_true rfl) (Or.inl rfl) ?_
  intro p e s m args below meth c0 ls Q hx hb hml hts hown hK hN hA hret hP hD hS hl
  have hl : lv_has ls 3 [(0, .ref (b 0))] := hl
  have hinX7 : ∀ w ∈ wsX70, w ∈ wsX7_allBars := fun w h => List.mem_cons_of_mem _ (List.mem_append_right _ h)
  obtain ⟨hnb, hnd, hbt, hfg, hne, hnc, hdk, hnf, hkn, hln, hst, hdc, hsp⟩ := MI_o hI
  refine lv_iconst (v := nI (0)) hx hb dX7_allBars_0 (by decide) ?_
  refine lv_istore_n (lv' := [(1, .int (nI (0))), (0, .ref (b 0))]) hx hb dX7_allBars_1 rfl hl (by decide) rfl (fun ls hl => ?_)
  refine lv_iconst (v := nI (0)) hx hb dX7_allBars_2 (by decide) ?_
  refine lv_istore_n (lv' := [(2, .int (nI (0))), (1, .int (nI (0))), (0, .ref (b 0))]) hx hb dX7_allBars_3 rfl hl (by decide) rfl (fun ls hl => ?_)
  have L4 : ∀ (n : Nat) (i : Nat) (g : Nat) (H : Heap) (locs : List Loc) (ls : Array Slot), v 6 0 - i < n → (i ≤ v 6 0) → (g = abr (v 8) i) → va_P D vwCl (mW b cI cJ cZ v c) H → va_D A (mW b cI cJ cZ v c) → va_S A s.heap H locs → lv_has ls 3 [(1, .int (nI (g))), (2, .int (nI (i))), (0, .ref (b 0))] → W p l e { frames := 1, cells := 0, slots := 0, locals := 21 } s m args below meth c0 H locs 0 0 Q (F0 m 4 ls []) := by
    intro n
    induction n with
    | zero => intro i g H locs ls hm; exact absurd hm (Nat.not_lt_zero _)
    | succ n ih4 =>
      intro i g H locs ls hm4 h1 h2 hP hD hS hl
      refine lv_iload_n hx hb dX7_allBars_4 rfl (lv_at hl 1 rfl) ?_
      refine lv_aload_n hx hb dX7_allBars_5 rfl (lv_at hl 2 rfl) ?_
      refine va_get (D := D) (ci := 7) (v := .int (nI (v 6 0))) (C := RX7) (T := TX7) (N := 24) hx hb hts hinX7 hown hK hP 0 rfl rfl 6 (by decide) (hts (.fieldLink RX7 66 "DancedLockModel" "doors" "I") (List.mem_of_getElem? (i := 1) rfl)) (fun _ h9 => h9) rfl dX7_allBars_6 ?_
      refine w_icmp_ge (x := i) (y := v 6 0) hx hb dX7_allBars_9 (tgt := 26) (by decide) (by omega) (by omega) (fun c9 => ?_) (fun c9 => ?_)
      · skip
        refine lv_iload_n hx hb dX7_allBars_26 rfl (lv_at hl 0 rfl) ?_
        exact hret (nI (g)) () _ _ 27 _ dX7_allBars_27 rfl (by have e : i = v 6 0 := (by omega); subst e; rw [h2]) hP hD hS
      · skip
        refine lv_iload_n hx hb dX7_allBars_12 rfl (lv_at hl 0 rfl) ?_
        refine lv_aload_n hx hb dX7_allBars_13 rfl (lv_at hl 2 rfl) ?_
        refine lv_iload_n hx hb dX7_allBars_14 rfl (lv_at hl 1 rfl) ?_
        refine w_cVi (rest := [.int (nI (g))]) hx hb hml hown hts (m_barsOf l D b cI cJ cZ A v c i  (by first | assumption | omega) (by first | assumption | omega)) 1 gX7_allBars_X7_barsOf rfl hdX7_barsOf ⟨Nat.le_of_ble_eq_true rfl, Nat.le_of_ble_eq_true rfl⟩ hK hN hP hD hS hA 0 7 rfl rfl rfl rfl hl.1 rfl (Nat.le_of_ble_eq_true rfl) dX7_allBars_15 ⟨Nat.le_of_ble_eq_true rfl, Nat.le_of_ble_eq_true rfl⟩ (fun r u H locs hq hP hD hS => ?_)
        obtain rfl := hq
        have hP : va_P D vwCl (mW b cI cJ cZ v c) H := hP
        have hD : va_D A (mW b cI cJ cZ v c) := hD
        refine w_ior (x := g) (y := (2 ^ (v 8) i - 1) * 2 ^ (i * 6)) hx hb dX7_allBars_18  ?_
        refine lv_istore_n (lv' := [(1, .int (nI (g ||| ((2 ^ (v 8) i - 1) * 2 ^ (i * 6))))), (2, .int (nI (i))), (0, .ref (b 0))]) hx hb dX7_allBars_19 rfl hl (by decide) rfl (fun ls hl => ?_)
        refine lv_iinc (v := nI (i + 1)) (lv' := [(2, .int (nI (i + 1))), (1, .int (nI (g ||| ((2 ^ (v 8) i - 1) * 2 ^ (i * 6))))), (0, .ref (b 0))]) hx hb dX7_allBars_20 hl (k := 1) rfl (nI_add i 1) (by decide) rfl (fun ls hl => ?_)
        refine lv_goto (tgt := 4) hx hb dX7_allBars_23 (by decide) ?_
        exact ih4 (i + 1) (g ||| ((2 ^ (v 8) i - 1) * 2 ^ (i * 6))) _ _ _ (by omega) (by omega) (by rw [h2]; rfl) hP hD hS (lv_sub hl [1, 0, 2] rfl)
  exact L4 ((v 6 0 - 0) + 1) 0 0 _ _ _ (Nat.lt_succ_self _) (by omega) (by rfl) hP hD hS (lv_sub hl [1, 0, 2] rfl)

set_option maxHeartbeats 4000000 in
set_option maxRecDepth 100000 in
theorem m_known (l : Launch) (D : va_G) (b : Nat → Nat) (cI cJ cZ : ClassId) (A : Nat → Prop) (v : Nat → Nat → Nat) (c : Nat → Nat → Int32) (z : Nat) (hI : MI v c) (hz : z < 2147483648) :
    mI l yX7_known wsX7_known 0 0 [.ref (b 0), .int (nI z)] D (xT cI cJ cZ) A (mW b cI cJ cZ v c) (fun _ : Unit => mW b cI cJ cZ v c)
    (fun (r : Int32) (u : Unit) => r = nI (kn (v 23) z (v 22 0))) := by
  refine w_bI cX7_known 4 .int (by decide) rfl (Nat.le_of_ble_eq_true rfl) (Or.inl rfl) ?_
  intro p e s m args below meth c0 ls Q hx hb hml hts hown hK hN hA hret hP hD hS hl
  have hl : lv_has ls 4 [(0, .ref (b 0)), (1, .int (nI (z)))] := hl
  have hinX7 : ∀ w ∈ wsX70, w ∈ wsX7_known := fun w h => List.mem_cons_of_mem _ (List.mem_append_right _ h)
  obtain ⟨hnb, hnd, hbt, hfg, hne, hnc, hdk, hnf, hkn, hln, hst, hdc, hsp⟩ := MI_o hI
  refine lv_iconst (v := nI (0)) hx hb dX7_known_0 (by decide) ?_
  refine lv_istore_n (lv' := [(2, .int (nI (0))), (0, .ref (b 0)), (1, .int (nI (z)))]) hx hb dX7_known_1 rfl hl (by decide) rfl (fun ls hl => ?_)
  refine lv_iconst (v := nI (0)) hx hb dX7_known_2 (by decide) ?_
  refine lv_istore_n (lv' := [(3, .int (nI (0))), (2, .int (nI (0))), (0, .ref (b 0)), (1, .int (nI (z)))]) hx hb dX7_known_3 rfl hl (by decide) rfl (fun ls hl => ?_)
  have L4 : ∀ (n : Nat) (i : Nat) (g : Nat) (H : Heap) (locs : List Loc) (ls : Array Slot), v 22 0 - i < n → (i ≤ v 22 0) → (g = kn (v 23) z i) → va_P D vwCl (mW b cI cJ cZ v c) H → va_D A (mW b cI cJ cZ v c) → va_S A s.heap H locs → lv_has ls 4 [(2, .int (nI (g))), (3, .int (nI (i))), (0, .ref (b 0)), (1, .int (nI (z)))] → W p l e { frames := 0, cells := 0, slots := 0, locals := 0 } s m args below meth c0 H locs 0 0 Q (F0 m 4 ls []) := by
    intro n
    induction n with
    | zero => intro i g H locs ls hm; exact absurd hm (Nat.not_lt_zero _)
    | succ n ih4 =>
      intro i g H locs ls hm4 h1 h2 hP hD hS hl
      refine lv_iload_n hx hb dX7_known_4 rfl (lv_at hl 1 rfl) ?_
      refine lv_aload_n hx hb dX7_known_5 rfl (lv_at hl 2 rfl) ?_
      refine va_get (D := D) (ci := 7) (v := .int (nI (v 22 0))) (C := RX7) (T := TX7) (N := 24) hx hb hts hinX7 hown hK hP 0 rfl rfl 22 (by decide) (hts (.fieldLink RX7 106 "DancedLockModel" "families" "I") (List.mem_of_getElem? (i := 1) rfl)) (fun _ h9 => h9) rfl dX7_known_6 ?_
      refine w_icmp_ge (x := i) (y := v 22 0) hx hb dX7_known_9 (tgt := 40) (by decide) (by omega) (by omega) (fun c9 => ?_) (fun c9 => ?_)
      · skip
        refine lv_iload_n hx hb dX7_known_40 rfl (lv_at hl 0 rfl) ?_
        exact hret (nI (g)) () _ _ 41 _ dX7_known_41 rfl (by have e : i = v 22 0 := (by omega); subst e; rw [h2]) hP hD hS
      · skip
        refine lv_iload_n hx hb dX7_known_12 rfl (lv_at hl 0 rfl) ?_
        refine lv_iload_n hx hb dX7_known_13 rfl (lv_at hl 3 rfl) ?_
        refine lv_iload_n hx hb dX7_known_14 rfl (lv_at hl 1 rfl) ?_
        refine w_ishr (x := z) (y := i) hx hb dX7_known_15 (by omega) (by omega) ?_
        refine lv_iconst (v := nI (1)) hx hb dX7_known_16 (by decide) ?_
        refine w_iand (x := z / 2 ^ i) (y := 1) hx hb dX7_known_17  ?_
        refine lv_iconst (v := nI (1)) hx hb dX7_known_18 (by decide) ?_
        refine w_icmp_ne (x := (z / 2 ^ i) &&& 1) (y := 1) hx hb dX7_known_19 (tgt := 31) (by decide) (by exact and1_lt _) (by omega) (fun c19 => ?_) (fun c19 => ?_)
        · skip
          refine lv_iconst (v := nI (0)) hx hb dX7_known_31 (by decide) ?_
          refine w_ior (x := g) (y := 0) hx hb dX7_known_32  ?_
          refine lv_istore_n (lv' := [(2, .int (nI (g ||| 0))), (3, .int (nI (i))), (0, .ref (b 0)), (1, .int (nI (z)))]) hx hb dX7_known_33 rfl hl (by decide) rfl (fun ls hl => ?_)
          refine lv_iinc (v := nI (i + 1)) (lv' := [(3, .int (nI (i + 1))), (2, .int (nI (g ||| 0))), (0, .ref (b 0)), (1, .int (nI (z)))]) hx hb dX7_known_34 hl (k := 1) rfl (nI_add i 1) (by decide) rfl (fun ls hl => ?_)
          refine lv_goto (tgt := 4) hx hb dX7_known_37 (by decide) ?_
          exact ih4 (i + 1) (g ||| 0) _ _ _ (by omega) (by omega) (by first | (rw [h2, kn_y (by rw [← and1_mod]; exact c19)]) | (rw [h2, kn_n (by rw [← and1_mod]; exact c19), Nat.or_zero])) hP hD hS (lv_sub hl [1, 0, 2, 3] rfl)
        · skip
          refine lv_aload_n hx hb dX7_known_22 rfl (lv_at hl 2 rfl) ?_
          refine va_get (D := D) (ci := 7) (v := .ref (b 23)) (C := RX7) (T := TX7) (N := 24) hx hb hts hinX7 hown hK hP 0 rfl rfl 23 (by decide) (hts (.fieldLink RX7 50 "DancedLockModel" "knows" "[I") (List.mem_of_getElem? (i := 2) rfl)) (fun _ h9 => h9) rfl dX7_known_23 ?_
          refine lv_iload_n hx hb dX7_known_26 rfl (lv_at hl 1 rfl) ?_
          refine w_iald (f := v 23) hx hb hK hP 14 0 rfl rfl (i := i) (by omega) (by decide) dX7_known_27 ?_
          refine lv_goto (tgt := 32) hx hb dX7_known_28 (by decide) ?_
          refine w_ior (x := g) (y := v 23 i) hx hb dX7_known_32  ?_
          refine lv_istore_n (lv' := [(2, .int (nI (g ||| (v 23 i)))), (3, .int (nI (i))), (0, .ref (b 0)), (1, .int (nI (z)))]) hx hb dX7_known_33 rfl hl (by decide) rfl (fun ls hl => ?_)
          refine lv_iinc (v := nI (i + 1)) (lv' := [(3, .int (nI (i + 1))), (2, .int (nI (g ||| (v 23 i)))), (0, .ref (b 0)), (1, .int (nI (z)))]) hx hb dX7_known_34 hl (k := 1) rfl (nI_add i 1) (by decide) rfl (fun ls hl => ?_)
          refine lv_goto (tgt := 4) hx hb dX7_known_37 (by decide) ?_
          exact ih4 (i + 1) (g ||| (v 23 i)) _ _ _ (by omega) (by omega) (by first | (rw [h2, kn_y (by rw [← and1_mod]; exact c19)]) | (rw [h2, kn_n (by rw [← and1_mod]; exact c19), Nat.or_zero])) hP hD hS (lv_sub hl [1, 0, 2, 3] rfl)
  exact L4 ((v 22 0 - 0) + 1) 0 0 _ _ _ (Nat.lt_succ_self _) (by omega) (by rfl) hP hD hS (lv_sub hl [1, 0, 2, 3] rfl)

set_option maxHeartbeats 4000000 in
set_option maxRecDepth 100000 in
theorem m_knowAll (l : Launch) (D : va_G) (b : Nat → Nat) (cI cJ cZ : ClassId) (A : Nat → Prop) (v : Nat → Nat → Nat) (c : Nat → Nat → Int32) (z : Nat) (dd : Nat) (hI : MI v c) (hz : z < 2147483648) (hd : dd < v 6 0) :
    mI l yX7_knowAll wsX7_knowAll 1 23 [.ref (b 0), .int (nI z), .int (nI dd)] D (xT cI cJ cZ) A (mW b cI cJ cZ v c) (fun _ : Unit => mW b cI cJ cZ v c)
    (fun (r : Int32) (u : Unit) => (r = nI (1) ∧ kn (v 23) z (v 22 0) &&& (2 ^ v 8 dd - 1) * 2 ^ (dd * 6) = (2 ^ v 8 dd - 1) * 2 ^ (dd * 6)) ∨ (r = nI (0) ∧ ¬ kn (v 23) z (v 22 0) &&& (2 ^ v 8 dd - 1) * 2 ^ (dd * 6) = (2 ^ v 8 dd - 1) * 2 ^ (dd * 6))) := by
  refine w_bI cX7_knowAll 3 .boolean (by decide) rfl (Nat.le_of_ble_eq_true rfl) (Or.inr rfl) ?_
  intro p e s m args below meth c0 ls Q hx hb hml hts hown hK hN hA hret hP hD hS hl
  have hl : lv_has ls 3 [(0, .ref (b 0)), (1, .int (nI (z))), (2, .int (nI (dd)))] := hl
  obtain ⟨hnb, hnd, hbt, hfg, hne, hnc, hdk, hnf, hkn, hln, hst, hdc, hsp⟩ := MI_o hI
  have hbd := hbt dd hd
  have hq2 := bars_lt hbd.2 (show dd ≤ 3 by omega)
  have hq3 : kn (v 23) z (v 22 0) &&& (2 ^ v 8 dd - 1) * 2 ^ (dd * 6) ≤ (2 ^ v 8 dd - 1) * 2 ^ (dd * 6) := Nat.and_le_right
  refine lv_aload_n hx hb dX7_knowAll_0 rfl (lv_at hl 0 rfl) ?_
  refine lv_iload_n hx hb dX7_knowAll_1 rfl (lv_at hl 1 rfl) ?_
  refine w_cVi (rest := []) hx hb hml hown hts (m_known l D b cI cJ cZ A v c z  (by first | assumption | omega) (by first | assumption | omega)) 1 gX7_knowAll_X7_known rfl hdX7_known ⟨Nat.le_of_ble_eq_true rfl, Nat.le_of_ble_eq_true rfl⟩ hK hN hP hD hS hA 0 7 rfl rfl rfl rfl hl.1 rfl (Nat.le_of_ble_eq_true rfl) dX7_knowAll_2 ⟨Nat.le_of_ble_eq_true rfl, Nat.le_of_ble_eq_true rfl⟩ (fun r u H locs hq hP hD hS => ?_)
  obtain rfl := hq
  have hP : va_P D vwCl (mW b cI cJ cZ v c) H := hP
  have hD : va_D A (mW b cI cJ cZ v c) := hD
  refine lv_aload_n hx hb dX7_knowAll_5 rfl (lv_at hl 0 rfl) ?_
  refine lv_iload_n hx hb dX7_knowAll_6 rfl (lv_at hl 2 rfl) ?_
  refine w_cVi (rest := [.int (nI (kn ((v 23)) z ((v 22 0))))]) hx hb hml hown hts (m_barsOf l D b cI cJ cZ A v c dd  (by first | assumption | omega) (by first | assumption | omega)) 1 gX7_knowAll_X7_barsOf rfl hdX7_barsOf ⟨Nat.le_of_ble_eq_true rfl, Nat.le_of_ble_eq_true rfl⟩ hK hN hP hD hS hA 0 7 rfl rfl rfl rfl hl.1 rfl (Nat.le_of_ble_eq_true rfl) dX7_knowAll_7 ⟨Nat.le_of_ble_eq_true rfl, Nat.le_of_ble_eq_true rfl⟩ (fun r u H locs hq hP hD hS => ?_)
  obtain rfl := hq
  have hP : va_P D vwCl (mW b cI cJ cZ v c) H := hP
  have hD : va_D A (mW b cI cJ cZ v c) := hD
  refine w_iand (x := kn ((v 23)) z ((v 22 0))) (y := (2 ^ (v 8) dd - 1) * 2 ^ (dd * 6)) hx hb dX7_knowAll_10  ?_
  refine lv_aload_n hx hb dX7_knowAll_11 rfl (lv_at hl 0 rfl) ?_
  refine lv_iload_n hx hb dX7_knowAll_12 rfl (lv_at hl 2 rfl) ?_
  refine w_cVi (rest := [.int (nI ((kn ((v 23)) z ((v 22 0))) &&& ((2 ^ (v 8) dd - 1) * 2 ^ (dd * 6))))]) hx hb hml hown hts (m_barsOf l D b cI cJ cZ A v c dd  (by first | assumption | omega) (by first | assumption | omega)) 1 gX7_knowAll_X7_barsOf rfl hdX7_barsOf ⟨Nat.le_of_ble_eq_true rfl, Nat.le_of_ble_eq_true rfl⟩ hK hN hP hD hS hA 0 7 rfl rfl rfl rfl hl.1 rfl (Nat.le_of_ble_eq_true rfl) dX7_knowAll_13 ⟨Nat.le_of_ble_eq_true rfl, Nat.le_of_ble_eq_true rfl⟩ (fun r u H locs hq hP hD hS => ?_)
  obtain rfl := hq
  have hP : va_P D vwCl (mW b cI cJ cZ v c) H := hP
  have hD : va_D A (mW b cI cJ cZ v c) := hD
  refine w_icmp_ne (x := (kn ((v 23)) z ((v 22 0))) &&& ((2 ^ (v 8) dd - 1) * 2 ^ (dd * 6))) (y := (2 ^ (v 8) dd - 1) * 2 ^ (dd * 6)) hx hb dX7_knowAll_16 (tgt := 23) (by decide) (by omega) (by omega) (fun c16 => ?_) (fun c16 => ?_)
  · skip
    refine lv_iconst (v := nI (0)) hx hb dX7_knowAll_23 (by decide) ?_
    exact hret (nI (0)) () _ _ 24 _ dX7_knowAll_24 rfl (by exact Or.inr ⟨rfl, c16⟩) hP hD hS
  · skip
    refine lv_iconst (v := nI (1)) hx hb dX7_knowAll_19 (by decide) ?_
    refine lv_goto (tgt := 24) hx hb dX7_knowAll_20 (by decide) ?_
    exact hret (nI (1)) () _ _ 24 _ dX7_knowAll_24 rfl (by exact Or.inl ⟨rfl, c16⟩) hP hD hS

set_option maxHeartbeats 4000000 in
set_option maxRecDepth 100000 in
theorem m_areWithin (l : Launch) (D : va_G) (b : Nat → Nat) (cI cJ cZ : ClassId) (A : Nat → Prop) (v : Nat → Nat → Nat) (c : Nat → Nat → Int32) (z : Nat) (fr : Nat) (nn : Nat) (hfn : fr + nn ≤ 320) :
    mI l yX7_areWithin wsX7_areWithin 0 0 [.ref (b 0), .int (nI z), .int (nI fr), .int (nI nn)] D (xT cI cJ cZ) A (mW b cI cJ cZ v c) (fun _ : Unit => mW b cI cJ cZ v c)
    (fun (r : Int32) (u : Unit) => (r = nI (1) ∧ (∀ e, e < nn → c 4 (fr + e) ||| nI z = nI z)) ∨ (r = nI (0) ∧ (¬ (∀ e, e < nn → c 4 (fr + e) ||| nI z = nI z)))) := by
  refine w_bI cX7_areWithin 5 .boolean (by decide) rfl (Nat.le_of_ble_eq_true rfl) (Or.inr rfl) ?_
  intro p e s m args below meth c0 ls Q hx hb hml hts hown hK hN hA hret hP hD hS hl
  have hl : lv_has ls 5 [(0, .ref (b 0)), (1, .int (nI (z))), (2, .int (nI (fr))), (3, .int (nI (nn)))] := hl
  have hinX7 : ∀ w ∈ wsX70, w ∈ wsX7_areWithin := fun w h => List.mem_cons_of_mem _ (List.mem_append_right _ h)
  refine lv_iconst (v := nI (0)) hx hb dX7_areWithin_0 (by decide) ?_
  refine lv_istore (lv' := [(4, .int (nI (0))), (0, .ref (b 0)), (1, .int (nI (z))), (2, .int (nI (fr))), (3, .int (nI (nn)))]) hx hb dX7_areWithin_1 hl (by decide) rfl (fun ls hl => ?_)
  have L3 : ∀ (n : Nat) (i : Nat) (H : Heap) (locs : List Loc) (ls : Array Slot), nn - i < n → (i ≤ nn) → (∀ e, e < i → c 4 (fr + e) ||| nI z = nI z) → va_P D vwCl (mW b cI cJ cZ v c) H → va_D A (mW b cI cJ cZ v c) → va_S A s.heap H locs → lv_has ls 5 [(4, .int (nI (i))), (0, .ref (b 0)), (1, .int (nI (z))), (2, .int (nI (fr))), (3, .int (nI (nn)))] → W p l e { frames := 0, cells := 0, slots := 0, locals := 0 } s m args below meth c0 H locs 0 0 Q (F0 m 3 ls []) := by
    intro n
    induction n with
    | zero => intro i H locs ls hm; exact absurd hm (Nat.not_lt_zero _)
    | succ n ih3 =>
      intro i H locs ls hm3 h1 h2 hP hD hS hl
      refine lv_iload hx hb dX7_areWithin_3 (lv_at hl 0 rfl) ?_
      refine lv_iload_n hx hb dX7_areWithin_5 rfl (lv_at hl 4 rfl) ?_
      refine w_icmp_ge (x := i) (y := nn) hx hb dX7_areWithin_6 (tgt := 32) (by decide) (by omega) (by omega) (fun c6 => ?_) (fun c6 => ?_)
      · skip
        refine lv_iconst (v := nI (1)) hx hb dX7_areWithin_32 (by decide) ?_
        exact hret (nI (1)) () _ _ 33 _ dX7_areWithin_33 rfl (by have e : i = nn := (by omega); exact Or.inl ⟨rfl, by rw [← e]; exact h2⟩) hP hD hS
      · skip
        refine lv_aload_n hx hb dX7_areWithin_9 rfl (lv_at hl 1 rfl) ?_
        refine va_get (D := D) (ci := 7) (v := .ref (b 4)) (C := RX7) (T := TX7) (N := 24) hx hb hts hinX7 hown hK hP 0 rfl rfl 4 (by decide) (hts (.fieldLink RX7 16 "DancedLockModel" "cells" "[I") (List.mem_of_getElem? (i := 1) rfl)) (fun _ h9 => h9) rfl dX7_areWithin_10 ?_
        refine lv_iload_n hx hb dX7_areWithin_13 rfl (lv_at hl 3 rfl) ?_
        refine lv_iload hx hb dX7_areWithin_14 (lv_at hl 0 rfl) ?_
        refine w_iadd (x := fr) (y := i) hx hb dX7_areWithin_16  ?_
        refine r_iald (f := c 4) hx hb hK hP 3 0 rfl rfl (i := fr + i) (by omega) (by decide) dX7_areWithin_17 ?_
        refine lv_iload_n hx hb dX7_areWithin_18 rfl (lv_at hl 2 rfl) ?_
        refine lv_ior hx hb dX7_areWithin_19 ?_
        refine lv_iload_n hx hb dX7_areWithin_20 rfl (lv_at hl 2 rfl) ?_
        refine lv_icmp_eq (x := (c 4 (fr + i)) ||| (nI (z))) (y := nI (z)) hx hb dX7_areWithin_21 (tgt := 26) (by decide) (fun c21 => ?_) (fun c21 => ?_)
        · skip
          refine lv_iinc (v := nI (i + 1)) (lv' := [(4, .int (nI (i + 1))), (0, .ref (b 0)), (1, .int (nI (z))), (2, .int (nI (fr))), (3, .int (nI (nn)))]) hx hb dX7_areWithin_26 hl (k := 0) rfl (nI_add i 1) (by decide) rfl (fun ls hl => ?_)
          refine lv_goto (tgt := 3) hx hb dX7_areWithin_29 (by decide) ?_
          exact ih3 (i + 1) _ _ _ (by omega) (by omega) (by exact lt_s h2 c21) hP hD hS (lv_sub hl [0, 1, 2, 3, 4] rfl)
        · skip
          refine lv_iconst (v := nI (0)) hx hb dX7_areWithin_24 (by decide) ?_
          exact hret (nI (0)) () _ _ 25 _ dX7_areWithin_25 rfl (by exact Or.inr ⟨rfl, fun z9 => c21 (z9 i (by omega))⟩) hP hD hS
  exact L3 ((nn - 0) + 1) 0 _ _ _ (Nat.lt_succ_self _) (by omega) (by exact fun e he => absurd he (Nat.not_lt_zero _)) hP hD hS (lv_sub hl [0, 1, 2, 3, 4] rfl)

set_option maxHeartbeats 4000000 in
set_option maxRecDepth 100000 in
theorem m_begins (l : Launch) (D : va_G) (b : Nat → Nat) (cI cJ cZ : ClassId) (A : Nat → Prop) (v : Nat → Nat → Nat) (c : Nat → Nat → Int32) (a1 : Nat) (b1 : Nat) (hI : MI v c) (ha1 : a1 < v 6 0) (hb1 : b1 < v 6 0) :
    mI l yX7_begins wsX7_begins 2 43 [.ref (b 0), .int (nI a1), .int (nI b1)] D (xT cI cJ cZ) A (mW b cI cJ cZ v c) (fun _ : Unit => mW b cI cJ cZ v c)
    (fun (r : Int32) (u : Unit) => (r = nI (1) ∧ (v 8 a1 ≤ v 8 b1 ∧ ∀ k, k < v 8 a1 → v 9 (a1 * 6 + k) = v 9 (b1 * 6 + k))) ∨ (r = nI (0) ∧ (¬ (v 8 a1 ≤ v 8 b1 ∧ ∀ k, k < v 8 a1 → v 9 (a1 * 6 + k) = v 9 (b1 * 6 + k))))) := by
  refine w_bI cX7_begins 4 .boolean (by decide) rfl (Nat.le_of_ble_eq_true rfl) (Or.inr rfl) ?_
  intro p e s m args below meth c0 ls Q hx hb hml hts hown hK hN hA hret hP hD hS hl
  have hl : lv_has ls 4 [(0, .ref (b 0)), (1, .int (nI (a1))), (2, .int (nI (b1)))] := hl
  have hinX7 : ∀ w ∈ wsX70, w ∈ wsX7_begins := fun w h => List.mem_cons_of_mem _ (List.mem_append_right _ h)
  obtain ⟨hnb, hnd, hbt, hfg, hne, hnc, hdk, hnf, hkn, hln, hst, hdc, hsp⟩ := MI_o hI
  have hba := hbt a1 ha1
  have hbb := hbt b1 hb1
  have hp7 := pow_le_128 hnb
  refine lv_iconst (v := nI (0)) hx hb dX7_begins_0 (by decide) ?_
  refine lv_istore_n (lv' := [(3, .int (nI (0))), (0, .ref (b 0)), (1, .int (nI (a1))), (2, .int (nI (b1)))]) hx hb dX7_begins_1 rfl hl (by decide) rfl (fun ls hl => ?_)
  have L2 : ∀ (n : Nat) (i : Nat) (H : Heap) (locs : List Loc) (ls : Array Slot), v 8 a1 - i < n → (i ≤ v 8 a1) → (∀ k, k < i → k < v 8 b1 ∧ v 9 (a1 * 6 + k) = v 9 (b1 * 6 + k)) → va_P D vwCl (mW b cI cJ cZ v c) H → va_D A (mW b cI cJ cZ v c) → va_S A s.heap H locs → lv_has ls 4 [(3, .int (nI (i))), (0, .ref (b 0)), (1, .int (nI (a1))), (2, .int (nI (b1)))] → W p l e { frames := 2, cells := 0, slots := 0, locals := 43 } s m args below meth c0 H locs 0 0 Q (F0 m 2 ls []) := by
    intro n
    induction n with
    | zero => intro i H locs ls hm; exact absurd hm (Nat.not_lt_zero _)
    | succ n ih2 =>
      intro i H locs ls hm2 h1 h2 hP hD hS hl
      refine lv_iload_n hx hb dX7_begins_2 rfl (lv_at hl 0 rfl) ?_
      refine lv_aload_n hx hb dX7_begins_3 rfl (lv_at hl 1 rfl) ?_
      refine va_get (D := D) (ci := 7) (v := .ref (b 8)) (C := RX7) (T := TX7) (N := 24) hx hb hts hinX7 hown hK hP 0 rfl rfl 8 (by decide) (hts (.fieldLink RX7 22 "DancedLockModel" "beats" "[I") (List.mem_of_getElem? (i := 1) rfl)) (fun _ h9 => h9) rfl dX7_begins_4 ?_
      refine lv_iload_n hx hb dX7_begins_7 rfl (lv_at hl 2 rfl) ?_
      refine w_iald (f := v 8) hx hb hK hP 5 0 rfl rfl (i := a1) (by omega) (by decide) dX7_begins_8 ?_
      refine w_icmp_ge (x := i) (y := v 8 a1) hx hb dX7_begins_9 (tgt := 52) (by decide) (by omega) (by omega) (fun c9 => ?_) (fun c9 => ?_)
      · skip
        refine lv_iconst (v := nI (1)) hx hb dX7_begins_52 (by decide) ?_
        exact hret (nI (1)) () _ _ 53 _ dX7_begins_53 rfl (by have e : i = v 8 a1 := (by omega); exact Or.inl ⟨rfl, bg_of (by omega) e h2⟩) hP hD hS
      · skip
        refine lv_aload_n hx hb dX7_begins_12 rfl (lv_at hl 1 rfl) ?_
        refine lv_iload_n hx hb dX7_begins_13 rfl (lv_at hl 3 rfl) ?_
        refine lv_iload_n hx hb dX7_begins_14 rfl (lv_at hl 0 rfl) ?_
        refine w_cVi (rest := []) hx hb hml hown hts (m_isBeat_N l D b cI cJ cZ A v c b1 i  (by first | assumption | omega) (by first | assumption | omega) (by first | assumption | omega)) 2 gX7_begins_X7_isBeat rfl hdX7_isBeat ⟨Nat.le_of_ble_eq_true rfl, Nat.le_of_ble_eq_true rfl⟩ hK hN hP hD hS hA 0 7 rfl rfl rfl rfl hl.1 rfl (Nat.le_of_ble_eq_true rfl) dX7_begins_15 ⟨Nat.le_of_ble_eq_true rfl, Nat.le_of_ble_eq_true rfl⟩ (fun r u H locs hq hP hD hS => ?_)
        rcases hq with ⟨rfl, h_15⟩ | ⟨rfl, h_15⟩
        · skip
          have hP : va_P D vwCl (mW b cI cJ cZ v c) H := hP
          have hD : va_D A (mW b cI cJ cZ v c) := hD
          refine w_if_eq (x := 1) hx hb dX7_begins_18 (tgt := 44) (by decide) (by decide) (fun h => absurd h (by decide)) (fun _ => ?_)
          refine lv_aload_n hx hb dX7_begins_21 rfl (lv_at hl 1 rfl) ?_
          refine va_get (D := D) (ci := 7) (v := .ref (b 9)) (C := RX7) (T := TX7) (N := 24) hx hb hts hinX7 hown hK hP 0 rfl rfl 9 (by decide) (hts (.fieldLink RX7 25 "DancedLockModel" "figure" "[I") (List.mem_of_getElem? (i := 2) rfl)) (fun _ h9 => h9) rfl dX7_begins_22 ?_
          refine lv_iload_n hx hb dX7_begins_25 rfl (lv_at hl 2 rfl) ?_
          refine lv_iload_n hx hb dX7_begins_26 rfl (lv_at hl 0 rfl) ?_
          refine w_cSi (rest := [.ref (b 9)]) hx hb hml hown hts (m_spot l D b cI cJ cZ A v c a1 i  ) 2 gX7_begins_X7_spot rfl hdX7_spot ⟨Nat.le_of_ble_eq_true rfl, Nat.le_of_ble_eq_true rfl⟩ hK hN hP hD hS hA rfl hl.1 rfl (Nat.le_of_ble_eq_true rfl) dX7_begins_27 ⟨Nat.le_of_ble_eq_true rfl, Nat.le_of_ble_eq_true rfl⟩ (fun r u H locs hq hP hD hS => ?_)
          obtain rfl := hq
          have hP : va_P D vwCl (mW b cI cJ cZ v c) H := hP
          have hD : va_D A (mW b cI cJ cZ v c) := hD
          refine w_iald (f := v 9) hx hb hK hP 6 0 rfl rfl (i := a1 * 6 + i) (by omega) (by decide) dX7_begins_30 ?_
          refine lv_aload_n hx hb dX7_begins_31 rfl (lv_at hl 1 rfl) ?_
          refine va_get (D := D) (ci := 7) (v := .ref (b 9)) (C := RX7) (T := TX7) (N := 24) hx hb hts hinX7 hown hK hP 0 rfl rfl 9 (by decide) (hts (.fieldLink RX7 25 "DancedLockModel" "figure" "[I") (List.mem_of_getElem? (i := 2) rfl)) (fun _ h9 => h9) rfl dX7_begins_32 ?_
          refine lv_iload_n hx hb dX7_begins_35 rfl (lv_at hl 3 rfl) ?_
          refine lv_iload_n hx hb dX7_begins_36 rfl (lv_at hl 0 rfl) ?_
          refine w_cSi (rest := [.ref (b 9), .int (nI (v 9 (a1 * 6 + i)))]) hx hb hml hown hts (m_spot l D b cI cJ cZ A v c b1 i  ) 2 gX7_begins_X7_spot rfl hdX7_spot ⟨Nat.le_of_ble_eq_true rfl, Nat.le_of_ble_eq_true rfl⟩ hK hN hP hD hS hA rfl hl.1 rfl (Nat.le_of_ble_eq_true rfl) dX7_begins_37 ⟨Nat.le_of_ble_eq_true rfl, Nat.le_of_ble_eq_true rfl⟩ (fun r u H locs hq hP hD hS => ?_)
          obtain rfl := hq
          have hP : va_P D vwCl (mW b cI cJ cZ v c) H := hP
          have hD : va_D A (mW b cI cJ cZ v c) := hD
          refine w_iald (f := v 9) hx hb hK hP 6 0 rfl rfl (i := b1 * 6 + i) (by omega) (by decide) dX7_begins_40 ?_
          have hfa := hfg a1 i ha1 (by omega)
          have hfb := hfg b1 i hb1 (by omega)
          refine w_icmp_eq (x := v 9 (a1 * 6 + i)) (y := v 9 (b1 * 6 + i)) hx hb dX7_begins_41 (tgt := 46) (by decide) (by omega) (by omega) (fun c41 => ?_) (fun c41 => ?_)
          · skip
            refine lv_iinc (v := nI (i + 1)) (lv' := [(3, .int (nI (i + 1))), (0, .ref (b 0)), (1, .int (nI (a1))), (2, .int (nI (b1)))]) hx hb dX7_begins_46 hl (k := 0) rfl (nI_add i 1) (by decide) rfl (fun ls hl => ?_)
            refine lv_goto (tgt := 2) hx hb dX7_begins_49 (by decide) ?_
            exact ih2 (i + 1) _ _ _ (by omega) (by omega) (by exact lt_s h2 ⟨h_15, c41⟩) hP hD hS (lv_sub hl [0, 1, 2, 3] rfl)
          · skip
            refine lv_iconst (v := nI (0)) hx hb dX7_begins_44 (by decide) ?_
            exact hret (nI (0)) () _ _ 45 _ dX7_begins_45 rfl (by first | exact Or.inr ⟨rfl, fun z9 => c41 (z9.2 i (by omega))⟩ | exact Or.inr ⟨rfl, fun z9 => by have h9 := z9.1; omega⟩) hP hD hS
        · skip
          have hP : va_P D vwCl (mW b cI cJ cZ v c) H := hP
          have hD : va_D A (mW b cI cJ cZ v c) := hD
          refine w_if_eq (x := 0) hx hb dX7_begins_18 (tgt := 44) (by decide) (by decide) (fun _ => ?_) (fun h => absurd h (by decide))
          refine lv_iconst (v := nI (0)) hx hb dX7_begins_44 (by decide) ?_
          exact hret (nI (0)) () _ _ 45 _ dX7_begins_45 rfl (by first | exact Or.inr ⟨rfl, fun z9 => c41 (z9.2 i (by omega))⟩ | exact Or.inr ⟨rfl, fun z9 => by have h9 := z9.1; omega⟩) hP hD hS
  exact L2 ((v 8 a1 - 0) + 1) 0 _ _ _ (Nat.lt_succ_self _) (by omega) (by exact fun e he => absurd he (Nat.not_lt_zero _)) hP hD hS (lv_sub hl [0, 1, 2, 3] rfl)

set_option maxHeartbeats 4000000 in
set_option maxRecDepth 100000 in
theorem m_apartOf (l : Launch) (D : va_G) (b : Nat → Nat) (cI cJ cZ : ClassId) (A : Nat → Prop) (v : Nat → Nat → Nat) (c : Nat → Nat → Int32) (a1 : Nat) (b1 : Nat) (hI : MI v c) (ha1 : a1 < v 6 0) (hb1 : b1 < v 6 0) :
    mI l yX7_apartOf wsX7_apartOf 2 43 [.ref (b 0), .int (nI a1), .int (nI b1)] D (xT cI cJ cZ) A (mW b cI cJ cZ v c) (fun _ : Unit => mW b cI cJ cZ v c)
    (fun (r : Int32) (u : Unit) => r = nI (ulN (v 8 a1) (v 8 b1) (fun k => v 9 (a1 * 6 + k)) (fun k => v 9 (b1 * 6 + k)) 6)) := by
  refine w_bI cX7_apartOf 7 .int (by decide) rfl (Nat.le_of_ble_eq_true rfl) (Or.inl rfl) ?_
  intro p e s m args below meth c0 ls Q hx hb hml hts hown hK hN hA hret hP hD hS hl
  have hl : lv_has ls 7 [(0, .ref (b 0)), (1, .int (nI (a1))), (2, .int (nI (b1)))] := hl
  have hinX7 : ∀ w ∈ wsX70, w ∈ wsX7_apartOf := fun w h => List.mem_cons_of_mem _ (List.mem_append_right _ h)
  obtain ⟨hnb, hnd, hbt, hfg, hne, hnc, hdk, hnf, hkn, hln, hst, hdc, hsp⟩ := MI_o hI
  have hba := hbt a1 ha1
  have hbb := hbt b1 hb1
  have hp7 := pow_le_128 hnb
  refine lv_aload_n hx hb dX7_apartOf_0 rfl (lv_at hl 0 rfl) ?_
  refine va_get (D := D) (ci := 7) (v := .ref (b 8)) (C := RX7) (T := TX7) (N := 24) hx hb hts hinX7 hown hK hP 0 rfl rfl 8 (by decide) (hts (.fieldLink RX7 22 "DancedLockModel" "beats" "[I") (List.mem_of_getElem? (i := 1) rfl)) (fun _ h9 => h9) rfl dX7_apartOf_1 ?_
  refine lv_iload_n hx hb dX7_apartOf_4 rfl (lv_at hl 1 rfl) ?_
  refine w_iald (f := v 8) hx hb hK hP 5 0 rfl rfl (i := a1) (by omega) (by decide) dX7_apartOf_5 ?_
  refine lv_aload_n hx hb dX7_apartOf_6 rfl (lv_at hl 0 rfl) ?_
  refine va_get (D := D) (ci := 7) (v := .ref (b 8)) (C := RX7) (T := TX7) (N := 24) hx hb hts hinX7 hown hK hP 0 rfl rfl 8 (by decide) (hts (.fieldLink RX7 22 "DancedLockModel" "beats" "[I") (List.mem_of_getElem? (i := 1) rfl)) (fun _ h9 => h9) rfl dX7_apartOf_7 ?_
  refine lv_iload_n hx hb dX7_apartOf_10 rfl (lv_at hl 2 rfl) ?_
  refine w_iald (f := v 8) hx hb hK hP 5 0 rfl rfl (i := b1) (by omega) (by decide) dX7_apartOf_11 ?_
  refine w_icmp_le (x := v 8 a1) (y := v 8 b1) hx hb dX7_apartOf_12 (tgt := 24) (by decide) (by omega) (by omega) (fun c12 => ?_) (fun c12 => ?_)
  · skip
    refine lv_aload_n hx hb dX7_apartOf_24 rfl (lv_at hl 0 rfl) ?_
    refine va_get (D := D) (ci := 7) (v := .ref (b 8)) (C := RX7) (T := TX7) (N := 24) hx hb hts hinX7 hown hK hP 0 rfl rfl 8 (by decide) (hts (.fieldLink RX7 22 "DancedLockModel" "beats" "[I") (List.mem_of_getElem? (i := 1) rfl)) (fun _ h9 => h9) rfl dX7_apartOf_25 ?_
    refine lv_iload_n hx hb dX7_apartOf_28 rfl (lv_at hl 2 rfl) ?_
    refine w_iald (f := v 8) hx hb hK hP 5 0 rfl rfl (i := b1) (by omega) (by decide) dX7_apartOf_29 ?_
    refine lv_istore_n (lv' := [(3, .int (nI (v 8 b1))), (0, .ref (b 0)), (1, .int (nI (a1))), (2, .int (nI (b1)))]) hx hb dX7_apartOf_30 rfl hl (by decide) rfl (fun ls hl => ?_)
    refine lv_iconst (v := nI (0)) hx hb dX7_apartOf_31 (by decide) ?_
    refine lv_istore (lv' := [(4, .int (nI (0))), (3, .int (nI (v 8 b1))), (0, .ref (b 0)), (1, .int (nI (a1))), (2, .int (nI (b1)))]) hx hb dX7_apartOf_32 hl (by decide) rfl (fun ls hl => ?_)
    refine lv_iconst (v := nI (0)) hx hb dX7_apartOf_34 (by decide) ?_
    refine lv_istore (lv' := [(5, .int (nI (0))), (4, .int (nI (0))), (3, .int (nI (v 8 b1))), (0, .ref (b 0)), (1, .int (nI (a1))), (2, .int (nI (b1)))]) hx hb dX7_apartOf_35 hl (by decide) rfl (fun ls hl => ?_)
    have L37 : ∀ (n : Nat) (i : Nat) (q : Nat) (L1 : Nat) (H : Heap) (locs : List Loc) (ls : Array Slot), L1 - i < n → ((v 8 a1 ≤ L1 ∧ v 8 b1 ≤ L1) ∧ L1 ≤ 6) → (i ≤ L1) → (L1 ≤ v 8 a1 ∨ L1 ≤ v 8 b1) → (q = ulN (v 8 a1) (v 8 b1) (fun k => v 9 (a1 * 6 + k)) (fun k => v 9 (b1 * 6 + k)) i) → va_P D vwCl (mW b cI cJ cZ v c) H → va_D A (mW b cI cJ cZ v c) → va_S A s.heap H locs → lv_has ls 7 [(3, .int (nI (L1))), (4, .int (nI (q))), (5, .int (nI (i))), (0, .ref (b 0)), (1, .int (nI (a1))), (2, .int (nI (b1)))] → W p l e { frames := 2, cells := 0, slots := 0, locals := 43 } s m args below meth c0 H locs 0 0 Q (F0 m 37 ls []) := by
      intro n
      induction n with
      | zero => intro i q L1 H locs ls hm; exact absurd hm (Nat.not_lt_zero _)
      | succ n ih37 =>
        intro i q L1 H locs ls hm37 hL h1 hl0 h2 hP hD hS hl
        refine lv_iload hx hb dX7_apartOf_37 (lv_at hl 2 rfl) ?_
        refine lv_iload_n hx hb dX7_apartOf_39 rfl (lv_at hl 0 rfl) ?_
        refine w_icmp_ge (x := i) (y := L1) hx hb dX7_apartOf_40 (tgt := 116) (by decide) (by omega) (by omega) (fun c40 => ?_) (fun c40 => ?_)
        · skip
          refine lv_iload hx hb dX7_apartOf_116 (lv_at hl 1 rfl) ?_
          exact hret (nI (q)) () _ _ 118 _ dX7_apartOf_118 rfl (by have e : i = L1 := (by omega); subst e; rw [h2, ← ulN_ge hL.1.1 hL.1.2 (6 - i), show i + (6 - i) = 6 by omega]) hP hD hS
        · skip
          refine lv_aload_n hx hb dX7_apartOf_43 rfl (lv_at hl 3 rfl) ?_
          refine lv_iload_n hx hb dX7_apartOf_44 rfl (lv_at hl 4 rfl) ?_
          refine lv_iload hx hb dX7_apartOf_45 (lv_at hl 2 rfl) ?_
          refine w_cVi (rest := []) hx hb hml hown hts (m_isBeat_N l D b cI cJ cZ A v c a1 i  (by first | assumption | omega) (by first | assumption | omega) (by first | assumption | omega)) 2 gX7_apartOf_X7_isBeat rfl hdX7_isBeat ⟨Nat.le_of_ble_eq_true rfl, Nat.le_of_ble_eq_true rfl⟩ hK hN hP hD hS hA 0 7 rfl rfl rfl rfl hl.1 rfl (Nat.le_of_ble_eq_true rfl) dX7_apartOf_47 ⟨Nat.le_of_ble_eq_true rfl, Nat.le_of_ble_eq_true rfl⟩ (fun r u H locs hq hP hD hS => ?_)
          rcases hq with ⟨rfl, h_47⟩ | ⟨rfl, h_47⟩
          · skip
            have hP : va_P D vwCl (mW b cI cJ cZ v c) H := hP
            have hD : va_D A (mW b cI cJ cZ v c) := hD
            refine w_if_eq (x := 1) hx hb dX7_apartOf_50 (tgt := 67) (by decide) (by decide) (fun h => absurd h (by decide)) (fun _ => ?_)
            refine lv_aload_n hx hb dX7_apartOf_53 rfl (lv_at hl 3 rfl) ?_
            refine lv_iload_n hx hb dX7_apartOf_54 rfl (lv_at hl 5 rfl) ?_
            refine lv_iload hx hb dX7_apartOf_55 (lv_at hl 2 rfl) ?_
            refine w_cVi (rest := []) hx hb hml hown hts (m_isBeat_N l D b cI cJ cZ A v c b1 i  (by first | assumption | omega) (by first | assumption | omega) (by first | assumption | omega)) 2 gX7_apartOf_X7_isBeat rfl hdX7_isBeat ⟨Nat.le_of_ble_eq_true rfl, Nat.le_of_ble_eq_true rfl⟩ hK hN hP hD hS hA 0 7 rfl rfl rfl rfl hl.1 rfl (Nat.le_of_ble_eq_true rfl) dX7_apartOf_57 ⟨Nat.le_of_ble_eq_true rfl, Nat.le_of_ble_eq_true rfl⟩ (fun r u H locs hq hP hD hS => ?_)
            rcases hq with ⟨rfl, h_57⟩ | ⟨rfl, h_57⟩
            · skip
              have hP : va_P D vwCl (mW b cI cJ cZ v c) H := hP
              have hD : va_D A (mW b cI cJ cZ v c) := hD
              refine w_if_eq (x := 1) hx hb dX7_apartOf_60 (tgt := 67) (by decide) (by decide) (fun h => absurd h (by decide)) (fun _ => ?_)
              refine lv_iconst (v := nI (1)) hx hb dX7_apartOf_63 (by decide) ?_
              refine lv_goto (tgt := 68) hx hb dX7_apartOf_64 (by decide) ?_
              refine lv_istore (lv' := [(6, .int (nI (1))), (3, .int (nI (L1))), (4, .int (nI (q))), (5, .int (nI (i))), (0, .ref (b 0)), (1, .int (nI (a1))), (2, .int (nI (b1)))]) hx hb dX7_apartOf_68 hl (by decide) rfl (fun ls hl => ?_)
              refine lv_iload hx hb dX7_apartOf_70 (lv_at hl 2 rfl) ?_
              refine lv_iload hx hb dX7_apartOf_72 (lv_at hl 0 rfl) ?_
              refine w_if_eq (x := 1) hx hb dX7_apartOf_74 (tgt := 106) (by decide) (by decide) (fun h => absurd h (by decide)) (fun _ => ?_)
              refine lv_aload_n hx hb dX7_apartOf_77 rfl (lv_at hl 4 rfl) ?_
              refine va_get (D := D) (ci := 7) (v := .ref (b 9)) (C := RX7) (T := TX7) (N := 24) hx hb hts hinX7 hown hK hP 0 rfl rfl 9 (by decide) (hts (.fieldLink RX7 25 "DancedLockModel" "figure" "[I") (List.mem_of_getElem? (i := 2) rfl)) (fun _ h9 => h9) rfl dX7_apartOf_78 ?_
              refine lv_iload_n hx hb dX7_apartOf_81 rfl (lv_at hl 5 rfl) ?_
              refine lv_iload hx hb dX7_apartOf_82 (lv_at hl 3 rfl) ?_
              refine w_cSi (rest := [.ref (b 9), .int (nI (q))]) hx hb hml hown hts (m_spot l D b cI cJ cZ A v c a1 i  ) 2 gX7_apartOf_X7_spot rfl hdX7_spot ⟨Nat.le_of_ble_eq_true rfl, Nat.le_of_ble_eq_true rfl⟩ hK hN hP hD hS hA rfl hl.1 rfl (Nat.le_of_ble_eq_true rfl) dX7_apartOf_84 ⟨Nat.le_of_ble_eq_true rfl, Nat.le_of_ble_eq_true rfl⟩ (fun r u H locs hq hP hD hS => ?_)
              obtain rfl := hq
              have hP : va_P D vwCl (mW b cI cJ cZ v c) H := hP
              have hD : va_D A (mW b cI cJ cZ v c) := hD
              refine w_iald (f := v 9) hx hb hK hP 6 0 rfl rfl (i := a1 * 6 + i) (by omega) (by decide) dX7_apartOf_87 ?_
              refine lv_aload_n hx hb dX7_apartOf_88 rfl (lv_at hl 4 rfl) ?_
              refine va_get (D := D) (ci := 7) (v := .ref (b 9)) (C := RX7) (T := TX7) (N := 24) hx hb hts hinX7 hown hK hP 0 rfl rfl 9 (by decide) (hts (.fieldLink RX7 25 "DancedLockModel" "figure" "[I") (List.mem_of_getElem? (i := 2) rfl)) (fun _ h9 => h9) rfl dX7_apartOf_89 ?_
              refine lv_iload_n hx hb dX7_apartOf_92 rfl (lv_at hl 6 rfl) ?_
              refine lv_iload hx hb dX7_apartOf_93 (lv_at hl 3 rfl) ?_
              refine w_cSi (rest := [.ref (b 9), .int (nI (v 9 (a1 * 6 + i))), .int (nI (q))]) hx hb hml hown hts (m_spot l D b cI cJ cZ A v c b1 i  ) 2 gX7_apartOf_X7_spot rfl hdX7_spot ⟨Nat.le_of_ble_eq_true rfl, Nat.le_of_ble_eq_true rfl⟩ hK hN hP hD hS hA rfl hl.1 rfl (Nat.le_of_ble_eq_true rfl) dX7_apartOf_95 ⟨Nat.le_of_ble_eq_true rfl, Nat.le_of_ble_eq_true rfl⟩ (fun r u H locs hq hP hD hS => ?_)
              obtain rfl := hq
              have hP : va_P D vwCl (mW b cI cJ cZ v c) H := hP
              have hD : va_D A (mW b cI cJ cZ v c) := hD
              refine w_iald (f := v 9) hx hb hK hP 6 0 rfl rfl (i := b1 * 6 + i) (by omega) (by decide) dX7_apartOf_98 ?_
              have hfa := hfg a1 i ha1 (by omega)
              have hfb := hfg b1 i hb1 (by omega)
              refine w_icmp_ne (x := v 9 (a1 * 6 + i)) (y := v 9 (b1 * 6 + i)) hx hb dX7_apartOf_99 (tgt := 106) (by decide) (by omega) (by omega) (fun c99 => ?_) (fun c99 => ?_)
              · skip
                refine lv_iconst (v := nI (1)) hx hb dX7_apartOf_106 (by decide) ?_
                refine w_iadd (x := q) (y := 1) hx hb dX7_apartOf_107  ?_
                refine lv_istore (lv' := [(4, .int (nI (q + 1))), (6, .int (nI (1))), (3, .int (nI (L1))), (5, .int (nI (i))), (0, .ref (b 0)), (1, .int (nI (a1))), (2, .int (nI (b1)))]) hx hb dX7_apartOf_108 hl (by decide) rfl (fun ls hl => ?_)
                refine lv_iinc (v := nI (i + 1)) (lv' := [(5, .int (nI (i + 1))), (4, .int (nI (q + 1))), (6, .int (nI (1))), (3, .int (nI (L1))), (0, .ref (b 0)), (1, .int (nI (a1))), (2, .int (nI (b1)))]) hx hb dX7_apartOf_110 hl (k := 3) rfl (nI_add i 1) (by decide) rfl (fun ls hl => ?_)
                refine lv_goto (tgt := 37) hx hb dX7_apartOf_113 (by decide) ?_
                exact ih37 (i + 1) (q + 1) L1 _ _ _ (by omega) (by omega) (by omega) (by omega) (by first | (rw [h2, ulN_s, ulk_0 (Or.inl ⟨h_47, h_57, c99⟩)]; rfl) | (rw [h2, ulN_s, ulk_1 (fun z9 => by rcases z9 with z9 | z9; exact c99 z9.2.2; omega)]) | (rw [h2, ulN_s, ulk_1 (by omega)])) hP hD hS (lv_sub hl [3, 1, 0, 4, 5, 6] rfl)
              · skip
                refine lv_iconst (v := nI (0)) hx hb dX7_apartOf_102 (by decide) ?_
                refine lv_goto (tgt := 107) hx hb dX7_apartOf_103 (by decide) ?_
                refine w_iadd (x := q) (y := 0) hx hb dX7_apartOf_107  ?_
                rw [show q + 0 = q from by omega]
                refine lv_istore (lv' := [(4, .int (nI (q))), (6, .int (nI (1))), (3, .int (nI (L1))), (5, .int (nI (i))), (0, .ref (b 0)), (1, .int (nI (a1))), (2, .int (nI (b1)))]) hx hb dX7_apartOf_108 hl (by decide) rfl (fun ls hl => ?_)
                refine lv_iinc (v := nI (i + 1)) (lv' := [(5, .int (nI (i + 1))), (4, .int (nI (q))), (6, .int (nI (1))), (3, .int (nI (L1))), (0, .ref (b 0)), (1, .int (nI (a1))), (2, .int (nI (b1)))]) hx hb dX7_apartOf_110 hl (k := 3) rfl (nI_add i 1) (by decide) rfl (fun ls hl => ?_)
                refine lv_goto (tgt := 37) hx hb dX7_apartOf_113 (by decide) ?_
                exact ih37 (i + 1) q L1 _ _ _ (by omega) (by omega) (by omega) (by omega) (by first | (rw [h2, ulN_s, ulk_0 (Or.inl ⟨h_47, h_57, c99⟩)]; rfl) | (rw [h2, ulN_s, ulk_1 (fun z9 => by rcases z9 with z9 | z9; exact c99 z9.2.2; omega)]) | (rw [h2, ulN_s, ulk_1 (by omega)])) hP hD hS (lv_sub hl [3, 1, 0, 4, 5, 6] rfl)
            · skip
              have hP : va_P D vwCl (mW b cI cJ cZ v c) H := hP
              have hD : va_D A (mW b cI cJ cZ v c) := hD
              refine w_if_eq (x := 0) hx hb dX7_apartOf_60 (tgt := 67) (by decide) (by decide) (fun _ => ?_) (fun h => absurd h (by decide))
              refine lv_iconst (v := nI (0)) hx hb dX7_apartOf_67 (by decide) ?_
              refine lv_istore (lv' := [(6, .int (nI (0))), (3, .int (nI (L1))), (4, .int (nI (q))), (5, .int (nI (i))), (0, .ref (b 0)), (1, .int (nI (a1))), (2, .int (nI (b1)))]) hx hb dX7_apartOf_68 hl (by decide) rfl (fun ls hl => ?_)
              refine lv_iload hx hb dX7_apartOf_70 (lv_at hl 2 rfl) ?_
              refine lv_iload hx hb dX7_apartOf_72 (lv_at hl 0 rfl) ?_
              refine w_if_eq (x := 0) hx hb dX7_apartOf_74 (tgt := 106) (by decide) (by decide) (fun _ => ?_) (fun h => absurd h (by decide))
              refine lv_iconst (v := nI (1)) hx hb dX7_apartOf_106 (by decide) ?_
              refine w_iadd (x := q) (y := 1) hx hb dX7_apartOf_107  ?_
              refine lv_istore (lv' := [(4, .int (nI (q + 1))), (6, .int (nI (0))), (3, .int (nI (L1))), (5, .int (nI (i))), (0, .ref (b 0)), (1, .int (nI (a1))), (2, .int (nI (b1)))]) hx hb dX7_apartOf_108 hl (by decide) rfl (fun ls hl => ?_)
              refine lv_iinc (v := nI (i + 1)) (lv' := [(5, .int (nI (i + 1))), (4, .int (nI (q + 1))), (6, .int (nI (0))), (3, .int (nI (L1))), (0, .ref (b 0)), (1, .int (nI (a1))), (2, .int (nI (b1)))]) hx hb dX7_apartOf_110 hl (k := 3) rfl (nI_add i 1) (by decide) rfl (fun ls hl => ?_)
              refine lv_goto (tgt := 37) hx hb dX7_apartOf_113 (by decide) ?_
              exact ih37 (i + 1) (q + 1) L1 _ _ _ (by omega) (by omega) (by omega) (by omega) (by first | (rw [h2, ulN_s, ulk_0 (Or.inl ⟨h_47, h_57, c99⟩)]; rfl) | (rw [h2, ulN_s, ulk_1 (fun z9 => by rcases z9 with z9 | z9; exact c99 z9.2.2; omega)]) | (rw [h2, ulN_s, ulk_1 (by omega)])) hP hD hS (lv_sub hl [3, 1, 0, 4, 5, 6] rfl)
          · skip
            have hP : va_P D vwCl (mW b cI cJ cZ v c) H := hP
            have hD : va_D A (mW b cI cJ cZ v c) := hD
            refine w_if_eq (x := 0) hx hb dX7_apartOf_50 (tgt := 67) (by decide) (by decide) (fun _ => ?_) (fun h => absurd h (by decide))
            refine lv_iconst (v := nI (0)) hx hb dX7_apartOf_67 (by decide) ?_
            refine lv_istore (lv' := [(6, .int (nI (0))), (3, .int (nI (L1))), (4, .int (nI (q))), (5, .int (nI (i))), (0, .ref (b 0)), (1, .int (nI (a1))), (2, .int (nI (b1)))]) hx hb dX7_apartOf_68 hl (by decide) rfl (fun ls hl => ?_)
            refine lv_iload hx hb dX7_apartOf_70 (lv_at hl 2 rfl) ?_
            refine lv_iload hx hb dX7_apartOf_72 (lv_at hl 0 rfl) ?_
            refine w_if_eq (x := 0) hx hb dX7_apartOf_74 (tgt := 106) (by decide) (by decide) (fun _ => ?_) (fun h => absurd h (by decide))
            refine lv_iconst (v := nI (1)) hx hb dX7_apartOf_106 (by decide) ?_
            refine w_iadd (x := q) (y := 1) hx hb dX7_apartOf_107  ?_
            refine lv_istore (lv' := [(4, .int (nI (q + 1))), (6, .int (nI (0))), (3, .int (nI (L1))), (5, .int (nI (i))), (0, .ref (b 0)), (1, .int (nI (a1))), (2, .int (nI (b1)))]) hx hb dX7_apartOf_108 hl (by decide) rfl (fun ls hl => ?_)
            refine lv_iinc (v := nI (i + 1)) (lv' := [(5, .int (nI (i + 1))), (4, .int (nI (q + 1))), (6, .int (nI (0))), (3, .int (nI (L1))), (0, .ref (b 0)), (1, .int (nI (a1))), (2, .int (nI (b1)))]) hx hb dX7_apartOf_110 hl (k := 3) rfl (nI_add i 1) (by decide) rfl (fun ls hl => ?_)
            refine lv_goto (tgt := 37) hx hb dX7_apartOf_113 (by decide) ?_
            exact ih37 (i + 1) (q + 1) L1 _ _ _ (by omega) (by omega) (by omega) (by omega) (by first | (rw [h2, ulN_s, ulk_0 (Or.inl ⟨h_47, h_57, c99⟩)]; rfl) | (rw [h2, ulN_s, ulk_1 (fun z9 => by rcases z9 with z9 | z9; exact c99 z9.2.2; omega)]) | (rw [h2, ulN_s, ulk_1 (by omega)])) hP hD hS (lv_sub hl [3, 1, 0, 4, 5, 6] rfl)
    exact L37 (((v 8 b1) - 0) + 1) 0 0 (v 8 b1) _ _ _ (Nat.lt_succ_self _) (by omega) (by omega) (by omega) (by rfl) hP hD hS (lv_sub hl [2, 1, 0, 3, 4, 5] rfl)
  · skip
    refine lv_aload_n hx hb dX7_apartOf_15 rfl (lv_at hl 0 rfl) ?_
    refine va_get (D := D) (ci := 7) (v := .ref (b 8)) (C := RX7) (T := TX7) (N := 24) hx hb hts hinX7 hown hK hP 0 rfl rfl 8 (by decide) (hts (.fieldLink RX7 22 "DancedLockModel" "beats" "[I") (List.mem_of_getElem? (i := 1) rfl)) (fun _ h9 => h9) rfl dX7_apartOf_16 ?_
    refine lv_iload_n hx hb dX7_apartOf_19 rfl (lv_at hl 1 rfl) ?_
    refine w_iald (f := v 8) hx hb hK hP 5 0 rfl rfl (i := a1) (by omega) (by decide) dX7_apartOf_20 ?_
    refine lv_goto (tgt := 30) hx hb dX7_apartOf_21 (by decide) ?_
    refine lv_istore_n (lv' := [(3, .int (nI (v 8 a1))), (0, .ref (b 0)), (1, .int (nI (a1))), (2, .int (nI (b1)))]) hx hb dX7_apartOf_30 rfl hl (by decide) rfl (fun ls hl => ?_)
    refine lv_iconst (v := nI (0)) hx hb dX7_apartOf_31 (by decide) ?_
    refine lv_istore (lv' := [(4, .int (nI (0))), (3, .int (nI (v 8 a1))), (0, .ref (b 0)), (1, .int (nI (a1))), (2, .int (nI (b1)))]) hx hb dX7_apartOf_32 hl (by decide) rfl (fun ls hl => ?_)
    refine lv_iconst (v := nI (0)) hx hb dX7_apartOf_34 (by decide) ?_
    refine lv_istore (lv' := [(5, .int (nI (0))), (4, .int (nI (0))), (3, .int (nI (v 8 a1))), (0, .ref (b 0)), (1, .int (nI (a1))), (2, .int (nI (b1)))]) hx hb dX7_apartOf_35 hl (by decide) rfl (fun ls hl => ?_)
    have L37 : ∀ (n : Nat) (i : Nat) (q : Nat) (L1 : Nat) (H : Heap) (locs : List Loc) (ls : Array Slot), L1 - i < n → ((v 8 a1 ≤ L1 ∧ v 8 b1 ≤ L1) ∧ L1 ≤ 6) → (i ≤ L1) → (L1 ≤ v 8 a1 ∨ L1 ≤ v 8 b1) → (q = ulN (v 8 a1) (v 8 b1) (fun k => v 9 (a1 * 6 + k)) (fun k => v 9 (b1 * 6 + k)) i) → va_P D vwCl (mW b cI cJ cZ v c) H → va_D A (mW b cI cJ cZ v c) → va_S A s.heap H locs → lv_has ls 7 [(3, .int (nI (L1))), (4, .int (nI (q))), (5, .int (nI (i))), (0, .ref (b 0)), (1, .int (nI (a1))), (2, .int (nI (b1)))] → W p l e { frames := 2, cells := 0, slots := 0, locals := 43 } s m args below meth c0 H locs 0 0 Q (F0 m 37 ls []) := by
      intro n
      induction n with
      | zero => intro i q L1 H locs ls hm; exact absurd hm (Nat.not_lt_zero _)
      | succ n ih37 =>
        intro i q L1 H locs ls hm37 hL h1 hl0 h2 hP hD hS hl
        refine lv_iload hx hb dX7_apartOf_37 (lv_at hl 2 rfl) ?_
        refine lv_iload_n hx hb dX7_apartOf_39 rfl (lv_at hl 0 rfl) ?_
        refine w_icmp_ge (x := i) (y := L1) hx hb dX7_apartOf_40 (tgt := 116) (by decide) (by omega) (by omega) (fun c40 => ?_) (fun c40 => ?_)
        · skip
          refine lv_iload hx hb dX7_apartOf_116 (lv_at hl 1 rfl) ?_
          exact hret (nI (q)) () _ _ 118 _ dX7_apartOf_118 rfl (by have e : i = L1 := (by omega); subst e; rw [h2, ← ulN_ge hL.1.1 hL.1.2 (6 - i), show i + (6 - i) = 6 by omega]) hP hD hS
        · skip
          refine lv_aload_n hx hb dX7_apartOf_43 rfl (lv_at hl 3 rfl) ?_
          refine lv_iload_n hx hb dX7_apartOf_44 rfl (lv_at hl 4 rfl) ?_
          refine lv_iload hx hb dX7_apartOf_45 (lv_at hl 2 rfl) ?_
          refine w_cVi (rest := []) hx hb hml hown hts (m_isBeat_N l D b cI cJ cZ A v c a1 i  (by first | assumption | omega) (by first | assumption | omega) (by first | assumption | omega)) 2 gX7_apartOf_X7_isBeat rfl hdX7_isBeat ⟨Nat.le_of_ble_eq_true rfl, Nat.le_of_ble_eq_true rfl⟩ hK hN hP hD hS hA 0 7 rfl rfl rfl rfl hl.1 rfl (Nat.le_of_ble_eq_true rfl) dX7_apartOf_47 ⟨Nat.le_of_ble_eq_true rfl, Nat.le_of_ble_eq_true rfl⟩ (fun r u H locs hq hP hD hS => ?_)
          rcases hq with ⟨rfl, h_47⟩ | ⟨rfl, h_47⟩
          · skip
            have hP : va_P D vwCl (mW b cI cJ cZ v c) H := hP
            have hD : va_D A (mW b cI cJ cZ v c) := hD
            refine w_if_eq (x := 1) hx hb dX7_apartOf_50 (tgt := 67) (by decide) (by decide) (fun h => absurd h (by decide)) (fun _ => ?_)
            refine lv_aload_n hx hb dX7_apartOf_53 rfl (lv_at hl 3 rfl) ?_
            refine lv_iload_n hx hb dX7_apartOf_54 rfl (lv_at hl 5 rfl) ?_
            refine lv_iload hx hb dX7_apartOf_55 (lv_at hl 2 rfl) ?_
            refine w_cVi (rest := []) hx hb hml hown hts (m_isBeat_N l D b cI cJ cZ A v c b1 i  (by first | assumption | omega) (by first | assumption | omega) (by first | assumption | omega)) 2 gX7_apartOf_X7_isBeat rfl hdX7_isBeat ⟨Nat.le_of_ble_eq_true rfl, Nat.le_of_ble_eq_true rfl⟩ hK hN hP hD hS hA 0 7 rfl rfl rfl rfl hl.1 rfl (Nat.le_of_ble_eq_true rfl) dX7_apartOf_57 ⟨Nat.le_of_ble_eq_true rfl, Nat.le_of_ble_eq_true rfl⟩ (fun r u H locs hq hP hD hS => ?_)
            rcases hq with ⟨rfl, h_57⟩ | ⟨rfl, h_57⟩
            · skip
              have hP : va_P D vwCl (mW b cI cJ cZ v c) H := hP
              have hD : va_D A (mW b cI cJ cZ v c) := hD
              refine w_if_eq (x := 1) hx hb dX7_apartOf_60 (tgt := 67) (by decide) (by decide) (fun h => absurd h (by decide)) (fun _ => ?_)
              refine lv_iconst (v := nI (1)) hx hb dX7_apartOf_63 (by decide) ?_
              refine lv_goto (tgt := 68) hx hb dX7_apartOf_64 (by decide) ?_
              refine lv_istore (lv' := [(6, .int (nI (1))), (3, .int (nI (L1))), (4, .int (nI (q))), (5, .int (nI (i))), (0, .ref (b 0)), (1, .int (nI (a1))), (2, .int (nI (b1)))]) hx hb dX7_apartOf_68 hl (by decide) rfl (fun ls hl => ?_)
              refine lv_iload hx hb dX7_apartOf_70 (lv_at hl 2 rfl) ?_
              refine lv_iload hx hb dX7_apartOf_72 (lv_at hl 0 rfl) ?_
              refine w_if_eq (x := 1) hx hb dX7_apartOf_74 (tgt := 106) (by decide) (by decide) (fun h => absurd h (by decide)) (fun _ => ?_)
              refine lv_aload_n hx hb dX7_apartOf_77 rfl (lv_at hl 4 rfl) ?_
              refine va_get (D := D) (ci := 7) (v := .ref (b 9)) (C := RX7) (T := TX7) (N := 24) hx hb hts hinX7 hown hK hP 0 rfl rfl 9 (by decide) (hts (.fieldLink RX7 25 "DancedLockModel" "figure" "[I") (List.mem_of_getElem? (i := 2) rfl)) (fun _ h9 => h9) rfl dX7_apartOf_78 ?_
              refine lv_iload_n hx hb dX7_apartOf_81 rfl (lv_at hl 5 rfl) ?_
              refine lv_iload hx hb dX7_apartOf_82 (lv_at hl 3 rfl) ?_
              refine w_cSi (rest := [.ref (b 9), .int (nI (q))]) hx hb hml hown hts (m_spot l D b cI cJ cZ A v c a1 i  ) 2 gX7_apartOf_X7_spot rfl hdX7_spot ⟨Nat.le_of_ble_eq_true rfl, Nat.le_of_ble_eq_true rfl⟩ hK hN hP hD hS hA rfl hl.1 rfl (Nat.le_of_ble_eq_true rfl) dX7_apartOf_84 ⟨Nat.le_of_ble_eq_true rfl, Nat.le_of_ble_eq_true rfl⟩ (fun r u H locs hq hP hD hS => ?_)
              obtain rfl := hq
              have hP : va_P D vwCl (mW b cI cJ cZ v c) H := hP
              have hD : va_D A (mW b cI cJ cZ v c) := hD
              refine w_iald (f := v 9) hx hb hK hP 6 0 rfl rfl (i := a1 * 6 + i) (by omega) (by decide) dX7_apartOf_87 ?_
              refine lv_aload_n hx hb dX7_apartOf_88 rfl (lv_at hl 4 rfl) ?_
              refine va_get (D := D) (ci := 7) (v := .ref (b 9)) (C := RX7) (T := TX7) (N := 24) hx hb hts hinX7 hown hK hP 0 rfl rfl 9 (by decide) (hts (.fieldLink RX7 25 "DancedLockModel" "figure" "[I") (List.mem_of_getElem? (i := 2) rfl)) (fun _ h9 => h9) rfl dX7_apartOf_89 ?_
              refine lv_iload_n hx hb dX7_apartOf_92 rfl (lv_at hl 6 rfl) ?_
              refine lv_iload hx hb dX7_apartOf_93 (lv_at hl 3 rfl) ?_
              refine w_cSi (rest := [.ref (b 9), .int (nI (v 9 (a1 * 6 + i))), .int (nI (q))]) hx hb hml hown hts (m_spot l D b cI cJ cZ A v c b1 i  ) 2 gX7_apartOf_X7_spot rfl hdX7_spot ⟨Nat.le_of_ble_eq_true rfl, Nat.le_of_ble_eq_true rfl⟩ hK hN hP hD hS hA rfl hl.1 rfl (Nat.le_of_ble_eq_true rfl) dX7_apartOf_95 ⟨Nat.le_of_ble_eq_true rfl, Nat.le_of_ble_eq_true rfl⟩ (fun r u H locs hq hP hD hS => ?_)
              obtain rfl := hq
              have hP : va_P D vwCl (mW b cI cJ cZ v c) H := hP
              have hD : va_D A (mW b cI cJ cZ v c) := hD
              refine w_iald (f := v 9) hx hb hK hP 6 0 rfl rfl (i := b1 * 6 + i) (by omega) (by decide) dX7_apartOf_98 ?_
              have hfa := hfg a1 i ha1 (by omega)
              have hfb := hfg b1 i hb1 (by omega)
              refine w_icmp_ne (x := v 9 (a1 * 6 + i)) (y := v 9 (b1 * 6 + i)) hx hb dX7_apartOf_99 (tgt := 106) (by decide) (by omega) (by omega) (fun c99 => ?_) (fun c99 => ?_)
              · skip
                refine lv_iconst (v := nI (1)) hx hb dX7_apartOf_106 (by decide) ?_
                refine w_iadd (x := q) (y := 1) hx hb dX7_apartOf_107  ?_
                refine lv_istore (lv' := [(4, .int (nI (q + 1))), (6, .int (nI (1))), (3, .int (nI (L1))), (5, .int (nI (i))), (0, .ref (b 0)), (1, .int (nI (a1))), (2, .int (nI (b1)))]) hx hb dX7_apartOf_108 hl (by decide) rfl (fun ls hl => ?_)
                refine lv_iinc (v := nI (i + 1)) (lv' := [(5, .int (nI (i + 1))), (4, .int (nI (q + 1))), (6, .int (nI (1))), (3, .int (nI (L1))), (0, .ref (b 0)), (1, .int (nI (a1))), (2, .int (nI (b1)))]) hx hb dX7_apartOf_110 hl (k := 3) rfl (nI_add i 1) (by decide) rfl (fun ls hl => ?_)
                refine lv_goto (tgt := 37) hx hb dX7_apartOf_113 (by decide) ?_
                exact ih37 (i + 1) (q + 1) L1 _ _ _ (by omega) (by omega) (by omega) (by omega) (by first | (rw [h2, ulN_s, ulk_0 (Or.inl ⟨h_47, h_57, c99⟩)]; rfl) | (rw [h2, ulN_s, ulk_1 (fun z9 => by rcases z9 with z9 | z9; exact c99 z9.2.2; omega)]) | (rw [h2, ulN_s, ulk_1 (by omega)])) hP hD hS (lv_sub hl [3, 1, 0, 4, 5, 6] rfl)
              · skip
                refine lv_iconst (v := nI (0)) hx hb dX7_apartOf_102 (by decide) ?_
                refine lv_goto (tgt := 107) hx hb dX7_apartOf_103 (by decide) ?_
                refine w_iadd (x := q) (y := 0) hx hb dX7_apartOf_107  ?_
                rw [show q + 0 = q from by omega]
                refine lv_istore (lv' := [(4, .int (nI (q))), (6, .int (nI (1))), (3, .int (nI (L1))), (5, .int (nI (i))), (0, .ref (b 0)), (1, .int (nI (a1))), (2, .int (nI (b1)))]) hx hb dX7_apartOf_108 hl (by decide) rfl (fun ls hl => ?_)
                refine lv_iinc (v := nI (i + 1)) (lv' := [(5, .int (nI (i + 1))), (4, .int (nI (q))), (6, .int (nI (1))), (3, .int (nI (L1))), (0, .ref (b 0)), (1, .int (nI (a1))), (2, .int (nI (b1)))]) hx hb dX7_apartOf_110 hl (k := 3) rfl (nI_add i 1) (by decide) rfl (fun ls hl => ?_)
                refine lv_goto (tgt := 37) hx hb dX7_apartOf_113 (by decide) ?_
                exact ih37 (i + 1) q L1 _ _ _ (by omega) (by omega) (by omega) (by omega) (by first | (rw [h2, ulN_s, ulk_0 (Or.inl ⟨h_47, h_57, c99⟩)]; rfl) | (rw [h2, ulN_s, ulk_1 (fun z9 => by rcases z9 with z9 | z9; exact c99 z9.2.2; omega)]) | (rw [h2, ulN_s, ulk_1 (by omega)])) hP hD hS (lv_sub hl [3, 1, 0, 4, 5, 6] rfl)
            · skip
              have hP : va_P D vwCl (mW b cI cJ cZ v c) H := hP
              have hD : va_D A (mW b cI cJ cZ v c) := hD
              refine w_if_eq (x := 0) hx hb dX7_apartOf_60 (tgt := 67) (by decide) (by decide) (fun _ => ?_) (fun h => absurd h (by decide))
              refine lv_iconst (v := nI (0)) hx hb dX7_apartOf_67 (by decide) ?_
              refine lv_istore (lv' := [(6, .int (nI (0))), (3, .int (nI (L1))), (4, .int (nI (q))), (5, .int (nI (i))), (0, .ref (b 0)), (1, .int (nI (a1))), (2, .int (nI (b1)))]) hx hb dX7_apartOf_68 hl (by decide) rfl (fun ls hl => ?_)
              refine lv_iload hx hb dX7_apartOf_70 (lv_at hl 2 rfl) ?_
              refine lv_iload hx hb dX7_apartOf_72 (lv_at hl 0 rfl) ?_
              refine w_if_eq (x := 0) hx hb dX7_apartOf_74 (tgt := 106) (by decide) (by decide) (fun _ => ?_) (fun h => absurd h (by decide))
              refine lv_iconst (v := nI (1)) hx hb dX7_apartOf_106 (by decide) ?_
              refine w_iadd (x := q) (y := 1) hx hb dX7_apartOf_107  ?_
              refine lv_istore (lv' := [(4, .int (nI (q + 1))), (6, .int (nI (0))), (3, .int (nI (L1))), (5, .int (nI (i))), (0, .ref (b 0)), (1, .int (nI (a1))), (2, .int (nI (b1)))]) hx hb dX7_apartOf_108 hl (by decide) rfl (fun ls hl => ?_)
              refine lv_iinc (v := nI (i + 1)) (lv' := [(5, .int (nI (i + 1))), (4, .int (nI (q + 1))), (6, .int (nI (0))), (3, .int (nI (L1))), (0, .ref (b 0)), (1, .int (nI (a1))), (2, .int (nI (b1)))]) hx hb dX7_apartOf_110 hl (k := 3) rfl (nI_add i 1) (by decide) rfl (fun ls hl => ?_)
              refine lv_goto (tgt := 37) hx hb dX7_apartOf_113 (by decide) ?_
              exact ih37 (i + 1) (q + 1) L1 _ _ _ (by omega) (by omega) (by omega) (by omega) (by first | (rw [h2, ulN_s, ulk_0 (Or.inl ⟨h_47, h_57, c99⟩)]; rfl) | (rw [h2, ulN_s, ulk_1 (fun z9 => by rcases z9 with z9 | z9; exact c99 z9.2.2; omega)]) | (rw [h2, ulN_s, ulk_1 (by omega)])) hP hD hS (lv_sub hl [3, 1, 0, 4, 5, 6] rfl)
          · skip
            have hP : va_P D vwCl (mW b cI cJ cZ v c) H := hP
            have hD : va_D A (mW b cI cJ cZ v c) := hD
            refine w_if_eq (x := 0) hx hb dX7_apartOf_50 (tgt := 67) (by decide) (by decide) (fun _ => ?_) (fun h => absurd h (by decide))
            refine lv_iconst (v := nI (0)) hx hb dX7_apartOf_67 (by decide) ?_
            refine lv_istore (lv' := [(6, .int (nI (0))), (3, .int (nI (L1))), (4, .int (nI (q))), (5, .int (nI (i))), (0, .ref (b 0)), (1, .int (nI (a1))), (2, .int (nI (b1)))]) hx hb dX7_apartOf_68 hl (by decide) rfl (fun ls hl => ?_)
            refine lv_iload hx hb dX7_apartOf_70 (lv_at hl 2 rfl) ?_
            refine lv_iload hx hb dX7_apartOf_72 (lv_at hl 0 rfl) ?_
            refine w_if_eq (x := 0) hx hb dX7_apartOf_74 (tgt := 106) (by decide) (by decide) (fun _ => ?_) (fun h => absurd h (by decide))
            refine lv_iconst (v := nI (1)) hx hb dX7_apartOf_106 (by decide) ?_
            refine w_iadd (x := q) (y := 1) hx hb dX7_apartOf_107  ?_
            refine lv_istore (lv' := [(4, .int (nI (q + 1))), (6, .int (nI (0))), (3, .int (nI (L1))), (5, .int (nI (i))), (0, .ref (b 0)), (1, .int (nI (a1))), (2, .int (nI (b1)))]) hx hb dX7_apartOf_108 hl (by decide) rfl (fun ls hl => ?_)
            refine lv_iinc (v := nI (i + 1)) (lv' := [(5, .int (nI (i + 1))), (4, .int (nI (q + 1))), (6, .int (nI (0))), (3, .int (nI (L1))), (0, .ref (b 0)), (1, .int (nI (a1))), (2, .int (nI (b1)))]) hx hb dX7_apartOf_110 hl (k := 3) rfl (nI_add i 1) (by decide) rfl (fun ls hl => ?_)
            refine lv_goto (tgt := 37) hx hb dX7_apartOf_113 (by decide) ?_
            exact ih37 (i + 1) (q + 1) L1 _ _ _ (by omega) (by omega) (by omega) (by omega) (by first | (rw [h2, ulN_s, ulk_0 (Or.inl ⟨h_47, h_57, c99⟩)]; rfl) | (rw [h2, ulN_s, ulk_1 (fun z9 => by rcases z9 with z9 | z9; exact c99 z9.2.2; omega)]) | (rw [h2, ulN_s, ulk_1 (by omega)])) hP hD hS (lv_sub hl [3, 1, 0, 4, 5, 6] rfl)
    exact L37 (((v 8 a1) - 0) + 1) 0 0 (v 8 a1) _ _ _ (Nat.lt_succ_self _) (by omega) (by omega) (by omega) (by rfl) hP hD hS (lv_sub hl [2, 1, 0, 3, 4, 5] rfl)
