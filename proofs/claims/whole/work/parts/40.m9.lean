/-! ===== the model: a text ===== -/
def NDG (cs : Nat → Int32) (en q lo hi : Nat) : Prop := ¬ (q < en ∧ ∃ j, lo ≤ j ∧ j ≤ hi ∧ cs q = nI (48 + j))
theorem RL_v {v : Nat → Nat → Nat} {X : Nat → Nat} : va_up (va_up (va_up (va_up v 10 X) 12 (va_up (v 12) 0 (v 12 0))) 14 (v 14)) 15 (v 15) = va_up v 10 X := by
  funext j
  by_cases h15 : j = 15
  · subst h15; simp [va_up]
  · by_cases h14 : j = 14
    · subst h14; simp [va_up]
    · by_cases h12 : j = 12
      · subst h12; rw [up_self]; simp [va_up]
      · simp [va_up, h12, h14, h15]
theorem RL_v0 {v : Nat → Nat → Nat} : va_up (va_up (va_up (va_up v 10 (va_up (v 10) 0 (v 10 0))) 12 (va_up (v 12) 0 (v 12 0))) 14 (v 14)) 15 (v 15) = v := by
  rw [RL_v, up_self, up_self]
theorem RL_c {c : Nat → Nat → Int32} {X : Nat → Int32} : va_up (va_up c 11 X) 13 (c 13) = va_up c 11 X := by
  funext j
  by_cases h13 : j = 13
  · subst h13; simp [va_up]
  · simp [va_up, h13]
theorem RL_c0 {c : Nat → Nat → Int32} : va_up (va_up c 11 (va_up (c 11) 0 (c 11 0))) 13 (c 13) = c := by
  rw [RL_c, up_self, up_self]
theorem rd_k {nb : Nat} {cs : Nat → Int32} {en f rd n q : Nat} {g14 g15 : Nat → Nat} (h : RDI nb cs en f rd n 1 q g14 g15) : n < 6 := by
  obtain ⟨S, i, -, -, -, -, -, -, h6⟩ := h
  rcases h6 with ⟨-, h6, -⟩ | ⟨h6, -⟩
  · exact h6
  · exact absurd h6 (by decide)
theorem nd_ex {nb L fi : Nat} {g13 cs : Nat → Int32} (h : ∀ e, e < nb → 2 + e < L ∧ ∃ w, 1 ≤ w ∧ w ≤ 9 ∧ g13 e = nI w ∧ cs (fi + (2 + e)) = nI (48 + w)) : ∃ need : Nat → Nat, (∀ e, e < nb → 2 + e < L ∧ 1 ≤ need e ∧ need e ≤ 9 ∧ cs (fi + (2 + e)) = nI (48 + need e)) ∧ ∀ e, e < nb → g13 e = nI (need e) := by
  have h2 : ∀ e, ∃ w, e < nb → 1 ≤ w ∧ w ≤ 9 ∧ g13 e = nI w ∧ cs (fi + (2 + e)) = nI (48 + w) := fun e => by
    by_cases he : e < nb
    · obtain ⟨w, hw⟩ := (h e he).2
      exact ⟨w, fun _ => hw⟩
    · exact ⟨0, fun z => absurd z he⟩
  refine ⟨fun e => Classical.choose (h2 e), fun e he => ?_, fun e he => ?_⟩
  · have := Classical.choose_spec (h2 e) he
    exact ⟨(h e he).1, this.1, this.2.1, this.2.2.2⟩
  · exact (Classical.choose_spec (h2 e) he).2.2.1
theorem nb_st {i L fi w : Nat} {g13 cs : Nat → Int32} (h : ∀ e, e < i → 2 + e < L ∧ ∃ w, 1 ≤ w ∧ w ≤ 9 ∧ g13 e = nI w ∧ cs (fi + (2 + e)) = nI (48 + w)) (h2 : 2 + i < L ∧ 1 ≤ w ∧ w ≤ 9 ∧ cs (fi + (2 + i)) = nI (48 + w)) : ∀ e, e < i + 1 → 2 + e < L ∧ ∃ w2, 1 ≤ w2 ∧ w2 ≤ 9 ∧ va_up g13 i (nI w) e = nI w2 ∧ cs (fi + (2 + e)) = nI (48 + w2) := by
  intro e he
  by_cases z : e = i
  · subst z; exact ⟨h2.1, w, h2.2.1, h2.2.2.1, up_eqA, h2.2.2.2⟩
  · obtain ⟨a1, w2, a2, a3, a4, a5⟩ := h e (by omega)
    exact ⟨a1, w2, a2, a3, by simp only [va_up, if_neg z]; exact a4, a5⟩
theorem dg_none {cs : Nat → Int32} {fi en : Nat} (h : ¬ (fi + 1 < en ∧ ∃ j, 2 ≤ j ∧ j ≤ 7 ∧ cs (fi + 1) = nI (48 + j))) : en - fi < 2 ∨ ¬ ∃ b, 2 ≤ b ∧ b ≤ 7 ∧ cs (fi + 1) = nI (48 + b) := by
  by_cases h1 : fi + 1 < en
  · exact Or.inr (fun z => h ⟨h1, z⟩)
  · exact Or.inl (by omega)
theorem dg_fail {cs : Nat → Int32} {fi en i q : Nat} (e : q = fi + (2 + i)) (h : ¬ (q < en ∧ ∃ j, 1 ≤ j ∧ j ≤ 9 ∧ cs q = nI (48 + j))) : ¬ DGt (fun e => cs (fi + e)) (en - fi) (2 + i) := by
  rintro ⟨h1, w, h2, h3, h4⟩
  subst e
  exact h ⟨by omega, w, h2, h3, h4⟩
set_option maxHeartbeats 4000000 in
set_option maxRecDepth 100000 in
theorem m_digit (l : Launch) (D : va_G) (b : Nat → Nat) (cI cJ cZ : ClassId) (A : Nat → Prop) (v : Nat → Nat → Nat) (c : Nat → Nat → Int32) (en : Nat) (lo : Nat) (hi : Nat) (hB : en ≤ 320) (hat : v 10 0 ≤ 400) (hlo : lo ≤ 9) (hhi : hi ≤ 9) :
    mI l yX7_digit wsX7_digit 1 22 [.ref (b 0), .int (nI en), .int (nI lo), .int (nI hi)] D (xT cI cJ cZ) A (mW b cI cJ cZ v c) (fun u : ((Nat → Nat → Nat) × (Nat → Nat → Int32)) => mW b cI cJ cZ u.1 u.2)
    (fun (r : Int32) (u : ((Nat → Nat → Nat) × (Nat → Nat → Int32))) => (r = -9 ∧ u = (v, c) ∧ NDG (c 4) en (v 10 0) lo hi) ∨ (∃ j : Nat, r = nI (j) ∧ u = (va_up v 10 (va_up (v 10) 0 (v 10 0 + 1)), c) ∧ v 10 0 < en ∧ lo ≤ j ∧ j ≤ hi ∧ c 4 (v 10 0) = nI (48 + j))) := by
  refine w_bI cX7_digit 4 .int (by decide) rfl (Nat.le_of_ble_eq_true rfl) (Or.inl rfl) ?_
  intro p e s m args below meth c0 ls Q hx hb hml hts hown hK hN hA hret hP hD hS hl
  have hl : lv_has ls 4 [(0, .ref (b 0)), (1, .int (nI (en))), (2, .int (nI (lo))), (3, .int (nI (hi)))] := hl
  have hinX7 : ∀ w ∈ wsX70, w ∈ wsX7_digit := fun w h => List.mem_cons_of_mem _ (List.mem_append_right _ h)
  refine lv_aload_n hx hb dX7_digit_0 rfl (lv_at hl 0 rfl) ?_
  refine va_get (D := D) (ci := 7) (v := .int (nI (v 10 0))) (C := RX7) (T := TX7) (N := 24) hx hb hts hinX7 hown hK hP 0 rfl rfl 10 (by decide) (hts (.fieldLink RX7 73 "DancedLockModel" "at" "I") (List.mem_of_getElem? (i := 1) rfl)) (fun _ h9 => h9) rfl dX7_digit_1 ?_
  refine lv_iload_n hx hb dX7_digit_4 rfl (lv_at hl 1 rfl) ?_
  refine w_icmp_ge (x := v 10 0) (y := en) hx hb dX7_digit_5 (tgt := 31) (by decide) (by omega) (by omega) (fun c5 => ?_) (fun c5 => ?_)
  · skip
    refine lv_bipush (v := -9) hx hb dX7_digit_31 (by decide) ?_
    exact hret ((-9)) (v, c) _ _ 33 _ dX7_digit_33 rfl (by first | exact Or.inl ⟨rfl, rfl, fun z => by omega⟩ | exact Or.inl ⟨rfl, rfl, fun ⟨z1, j, z2, z3, z4⟩ => by rw [z4, n_tI (k := 48 + j) (by omega)] at h_25; omega⟩) hP hD hS
  · skip
    refine lv_aload_n hx hb dX7_digit_8 rfl (lv_at hl 0 rfl) ?_
    refine va_get (D := D) (ci := 7) (v := .ref (b 4)) (C := RX7) (T := TX7) (N := 24) hx hb hts hinX7 hown hK hP 0 rfl rfl 4 (by decide) (hts (.fieldLink RX7 16 "DancedLockModel" "cells" "[I") (List.mem_of_getElem? (i := 2) rfl)) (fun _ h9 => h9) rfl dX7_digit_9 ?_
    refine lv_aload_n hx hb dX7_digit_12 rfl (lv_at hl 0 rfl) ?_
    refine va_get (D := D) (ci := 7) (v := .int (nI (v 10 0))) (C := RX7) (T := TX7) (N := 24) hx hb hts hinX7 hown hK hP 0 rfl rfl 10 (by decide) (hts (.fieldLink RX7 73 "DancedLockModel" "at" "I") (List.mem_of_getElem? (i := 1) rfl)) (fun _ h9 => h9) rfl dX7_digit_13 ?_
    refine r_iald (f := c 4) hx hb hK hP 3 0 rfl rfl (i := v 10 0) (by omega) (by decide) dX7_digit_16 ?_
    refine lv_bipush (v := nI (48)) hx hb dX7_digit_17 (by decide) ?_
    refine lv_iload_n hx hb dX7_digit_19 rfl (lv_at hl 2 rfl) ?_
    refine w_iadd (x := 48) (y := lo) hx hb dX7_digit_20  ?_
    refine lv_bipush (v := nI (48)) hx hb dX7_digit_21 (by decide) ?_
    refine lv_iload_n hx hb dX7_digit_23 rfl (lv_at hl 3 rfl) ?_
    refine w_iadd (x := 48) (y := hi) hx hb dX7_digit_24  ?_
    refine w_cSi (rest := []) hx hb hml hown hts (m_within_N l D b cI cJ cZ A v c (c 4 (v 10 0)) (48 + lo) (48 + hi)  (by omega) (by omega)) 3 gX7_digit_X7_within rfl hdX7_within ⟨Nat.le_of_ble_eq_true rfl, Nat.le_of_ble_eq_true rfl⟩ hK hN hP hD hS hA rfl hl.1 rfl (Nat.le_of_ble_eq_true rfl) dX7_digit_25 ⟨Nat.le_of_ble_eq_true rfl, Nat.le_of_ble_eq_true rfl⟩ (fun r u H locs hq hP hD hS => ?_)
    rcases hq with ⟨j_25, rfl, h1_25, h_25, hs_x_25⟩ | ⟨rfl, h_25⟩
    · skip
      have hP : va_P D vwCl (mW b cI cJ cZ v c) H := hP
      have hD : va_D A (mW b cI cJ cZ v c) := hD
      refine w_if_ne (x := 1) hx hb dX7_digit_28 (tgt := 34) (by decide) (by decide) (fun _ => ?_) (fun h => absurd h (by decide))
      refine lv_aload_n hx hb dX7_digit_34 rfl (lv_at hl 0 rfl) ?_
      refine lv_dup hx hb dX7_digit_35 rfl ?_
      refine va_get (D := D) (ci := 7) (v := .int (nI (v 10 0))) (C := RX7) (T := TX7) (N := 24) hx hb hts hinX7 hown hK hP 0 rfl rfl 10 (by decide) (hts (.fieldLink RX7 73 "DancedLockModel" "at" "I") (List.mem_of_getElem? (i := 1) rfl)) (fun _ h9 => h9) rfl dX7_digit_36 ?_
      refine lv_iconst (v := nI (1)) hx hb dX7_digit_39 (by decide) ?_
      refine w_iadd (x := v 10 0) (y := 1) hx hb dX7_digit_40  ?_
      refine va_put (D := D) (ci := 7) (v := .int (nI (v 10 0 + 1))) (ty := .int) (C := RX7) (T := TX7) (N := 24) hx hb hts hinX7 tyX7 tyX7_ok nmX7 hown hK hP hD hS 0 rfl rfl 10 (by decide) (hts (.fieldLink RX7 73 "DancedLockModel" "at" "I") (List.mem_of_getElem? (i := 1) rfl)) (fun _ h9 => h9) rfl (by decide +kernel) rfl (rfl) (Nat.le_of_ble_eq_true rfl) dX7_digit_41 (fun H locs hP hD hS => ?_)
      have hP : va_P D vwCl (mW b cI cJ cZ (va_up v 10 (va_up (v 10) 0 (v 10 0 + 1))) c) H := hP
      have hD : va_D A (mW b cI cJ cZ (va_up v 10 (va_up (v 10) 0 (v 10 0 + 1))) c) := hD
      refine lv_aload_n hx hb dX7_digit_44 rfl (lv_at hl 0 rfl) ?_
      refine va_get (D := D) (ci := 7) (v := .ref (b 4)) (C := RX7) (T := TX7) (N := 24) hx hb hts hinX7 hown hK hP 0 rfl rfl 4 (by decide) (hts (.fieldLink RX7 16 "DancedLockModel" "cells" "[I") (List.mem_of_getElem? (i := 2) rfl)) (fun _ h9 => h9) rfl dX7_digit_45 ?_
      refine lv_aload_n hx hb dX7_digit_48 rfl (lv_at hl 0 rfl) ?_
      refine va_get (D := D) (ci := 7) (v := .int (nI (v 10 0 + 1))) (C := RX7) (T := TX7) (N := 24) hx hb hts hinX7 hown hK hP 0 rfl rfl 10 (by decide) (hts (.fieldLink RX7 73 "DancedLockModel" "at" "I") (List.mem_of_getElem? (i := 1) rfl)) (fun _ h9 => h9) rfl dX7_digit_49 ?_
      refine lv_iconst (v := nI (1)) hx hb dX7_digit_52 (by decide) ?_
      refine w_isub (x := v 10 0 + 1) (y := 1) hx hb dX7_digit_53 (by omega) ?_
      rw [show (nI ((v 10 0 + 1) - 1)) = (nI (v 10 0)) from by rw [Nat.add_sub_cancel]]
      refine r_iald (f := c 4) hx hb hK hP 3 0 rfl rfl (i := v 10 0) (by omega) (by decide) dX7_digit_54 ?_
      rw [show (c 4 (v 10 0)) = (nI (j_25)) from hs_x_25]
      refine lv_bipush (v := nI (48)) hx hb dX7_digit_55 (by decide) ?_
      refine w_isub (x := j_25) (y := 48) hx hb dX7_digit_57 (by omega) ?_
      exact hret (nI (j_25 - 48)) (va_up v 10 (va_up (v 10) 0 (v 10 0 + 1)), c) _ _ 58 _ dX7_digit_58 rfl (by exact Or.inr ⟨j_25 - 48, rfl, rfl, c5, by omega, by omega, by rw [show 48 + (j_25 - 48) = j_25 by omega]; exact hs_x_25⟩) hP hD hS
    · skip
      have hP : va_P D vwCl (mW b cI cJ cZ v c) H := hP
      have hD : va_D A (mW b cI cJ cZ v c) := hD
      refine w_if_ne (x := 0) hx hb dX7_digit_28 (tgt := 34) (by decide) (by decide) (fun h => absurd h (by decide)) (fun _ => ?_)
      refine lv_bipush (v := -9) hx hb dX7_digit_31 (by decide) ?_
      exact hret ((-9)) (v, c) _ _ 33 _ dX7_digit_33 rfl (by first | exact Or.inl ⟨rfl, rfl, fun z => by omega⟩ | exact Or.inl ⟨rfl, rfl, fun ⟨z1, j, z2, z3, z4⟩ => by rw [z4, n_tI (k := 48 + j) (by omega)] at h_25; omega⟩) hP hD hS

set_option maxHeartbeats 4000000 in
set_option maxRecDepth 100000 in
theorem m_readBeat (l : Launch) (D : va_G) (b : Nat → Nat) (cI cJ cZ : ClassId) (A : Nat → Prop) (v : Nat → Nat → Nat) (c : Nat → Nat → Int32) (en : Nat) (nb : Nat) (hB : en ≤ 320) (hae : v 10 0 ≤ en) (hbo : c 11 0 = nI nb) (h2b : 2 ≤ nb) (h7b : nb ≤ 7) :
    mI l yX7_readBeat wsX7_readBeat 2 45 [.ref (b 0), .int (nI en)] D (xT cI cJ cZ) A (mW b cI cJ cZ v c) (fun u : ((Nat → Nat → Nat) × (Nat → Nat → Int32)) => mW b cI cJ cZ u.1 u.2)
    (fun (r : Int32) (u : ((Nat → Nat → Nat) × (Nat → Nat → Int32))) => ∃ k : Nat, ∃ z : Nat, r = nI (z) ∧ u = (va_up v 10 (va_up (v 10) 0 (v 10 0 + k)), c) ∧ DR nb (c 4) (v 10 0) k z ∧ v 10 0 + k ≤ en ∧ SKd nb (c 4) en (v 10 0 + k) (z)) := by
  refine w_bI cX7_readBeat 6 .int (by decide) rfl (Nat.le_of_ble_eq_true rfl) (Or.inl rfl) ?_
  intro p e s m args below meth c0 ls Q hx hb hml hts hown hK hN hA hret hP hD hS hl
  have hl : lv_has ls 6 [(0, .ref (b 0)), (1, .int (nI (en)))] := hl
  have hinX7 : ∀ w ∈ wsX70, w ∈ wsX7_readBeat := fun w h => List.mem_cons_of_mem _ (List.mem_append_right _ h)
  refine lv_iconst (v := nI (0)) hx hb dX7_readBeat_0 (by decide) ?_
  refine lv_istore_n (lv' := [(2, .int (nI (0))), (0, .ref (b 0)), (1, .int (nI (en)))]) hx hb dX7_readBeat_1 rfl hl (by decide) rfl (fun ls hl => ?_)
  refine lv_iconst (v := nI (0)) hx hb dX7_readBeat_2 (by decide) ?_
  refine lv_istore_n (lv' := [(3, .int (nI (0))), (2, .int (nI (0))), (0, .ref (b 0)), (1, .int (nI (en)))]) hx hb dX7_readBeat_3 rfl hl (by decide) rfl (fun ls hl => ?_)
  refine lv_aload_n hx hb dX7_readBeat_4 rfl (lv_at hl 2 rfl) ?_
  refine lv_iload_n hx hb dX7_readBeat_5 rfl (lv_at hl 3 rfl) ?_
  refine lv_iconst (v := nI (0)) hx hb dX7_readBeat_6 (by decide) ?_
  refine lv_aload_n hx hb dX7_readBeat_7 rfl (lv_at hl 2 rfl) ?_
  refine va_get (D := D) (ci := 7) (v := .int (c 11 0)) (C := RX7) (T := TX7) (N := 24) hx hb hts hinX7 hown hK hP 0 rfl rfl 11 (by decide) (hts (.fieldLink RX7 93 "DancedLockModel" "readBoards" "I") (List.mem_of_getElem? (i := 1) rfl)) (fun _ h9 => h9) rfl dX7_readBeat_8 ?_
  rw [show (c 11 0) = (nI (nb)) from hbo]
  refine lv_iconst (v := nI (1)) hx hb dX7_readBeat_11 (by decide) ?_
  refine w_isub (x := nb) (y := 1) hx hb dX7_readBeat_12 (by omega) ?_
  refine w_cVi (rest := []) hx hb hml hown hts (m_digit l D b cI cJ cZ A v c en 0 (nb - 1)  (by first | assumption | omega) (by omega) (by omega) (by omega)) 3 gX7_readBeat_X7_digit rfl hdX7_digit ⟨Nat.le_of_ble_eq_true rfl, Nat.le_of_ble_eq_true rfl⟩ hK hN hP hD hS hA 0 7 rfl rfl rfl rfl hl.1 rfl (Nat.le_of_ble_eq_true rfl) dX7_readBeat_13 ⟨Nat.le_of_ble_eq_true rfl, Nat.le_of_ble_eq_true rfl⟩ (fun r u H locs hq hP hD hS => ?_)
  rcases hq with ⟨rfl, rfl, h_13⟩ | ⟨j_13, rfl, rfl, h0_13, h1_13, h2_13, h3_13⟩
  · skip
    have hP : va_P D vwCl (mW b cI cJ cZ v c) H := hP
    have hD : va_D A (mW b cI cJ cZ v c) := hD
    refine lv_istore (lv' := [(4, .int (-9)), (3, .int (nI (0))), (2, .int (nI (0))), (0, .ref (b 0)), (1, .int (nI (en)))]) hx hb dX7_readBeat_16 hl (by decide) rfl (fun ls hl => ?_)
    refine lv_iconst (v := nI (1)) hx hb dX7_readBeat_18 (by decide) ?_
    refine lv_istore (lv' := [(5, .int (nI (1))), (4, .int (-9)), (3, .int (nI (0))), (2, .int (nI (0))), (0, .ref (b 0)), (1, .int (nI (en)))]) hx hb dX7_readBeat_19 hl (by decide) rfl (fun ls hl => ?_)
    have L21 : ∀ (n : Nat) (x : Int32) (q : Nat) (z : Nat) (le : Nat) (at1 : Nat) (k : Nat) (H : Heap) (locs : List Loc) (ls : Array Slot), 6 - q < n → (q = k + 1) → (k ≤ 4) → (DR nb (c 4) (v 10 0) k z) → (z < 2 ^ le) → (le ≤ nb) → (pc z = k) → (le = 0 ∨ 2 ^ (le - 1) ≤ z) → ((x = -9 ∧ at1 = v 10 0 + k ∧ SKd nb (c 4) en (v 10 0 + k) (z)) ∨ (∃ j, x = nI j ∧ le ≤ j ∧ j < nb ∧ at1 = v 10 0 + k + 1 ∧ c 4 (v 10 0 + k) = nI (48 + j) ∧ k < 4)) → (at1 ≤ en) → va_P D vwCl (mW b cI cJ cZ (va_up v 10 (va_up (v 10) 0 (at1))) c) H → va_D A (mW b cI cJ cZ (va_up v 10 (va_up (v 10) 0 (at1))) c) → va_S A s.heap H locs → lv_has ls 6 [(2, .int (nI (z))), (3, .int (nI (le))), (4, .int x), (5, .int (nI (q))), (0, .ref (b 0)), (1, .int (nI (en)))] → W p l e { frames := 2, cells := 0, slots := 0, locals := 45 } s m args below meth c0 H locs 0 0 Q (F0 m 21 ls []) := by
      intro n
      induction n with
      | zero => intro x q z le at1 k H locs ls hm; exact absurd hm (Nat.not_lt_zero _)
      | succ n ih21 =>
        intro x q z le at1 k H locs ls hm21 hkn hk4 hDR hz hle2 hpc hhi hxx hae1 hP hD hS hl
        refine lv_iload hx hb dX7_readBeat_21 (lv_at hl 2 rfl) ?_
        refine lv_bipush (v := -9) hx hb dX7_readBeat_23 (by decide) ?_
        refine lv_icmp_eq (x := x) (y := (-9)) hx hb dX7_readBeat_25 (tgt := 79) (by decide) (fun c25 => ?_) (fun c25 => ?_)
        · skip
          obtain ⟨-, e1, hsk⟩ := hxx.resolve_right (fun ⟨j, z1, z2, z3, _⟩ => n_neg (k := j) (x := -9) (by omega) (by decide) (z1.symm.trans c25))
          refine lv_iload_n hx hb dX7_readBeat_79 rfl (lv_at hl 0 rfl) ?_
          exact hret (nI (z)) (va_up v 10 (va_up (v 10) 0 (at1)), c) _ _ 80 _ dX7_readBeat_80 rfl (by exact ⟨k, z, rfl, by rw [e1], hDR, by omega, hsk⟩) hP hD hS
        · skip
          obtain ⟨j, rfl, hlj, hjn, e1, hcj, hk3⟩ := hxx.resolve_left (fun z9 => c25 z9.1)
          have hs := rb_s h7b hDR hz hpc hk3 hlj hjn hcj
          have hzl := Nat.lt_of_lt_of_le hz (Nat.pow_le_pow_right (show 0 < 2 by decide) hle2)
          have hp7 := pow_le_128 h7b
          have hpj := pow_le_128 (show j ≤ 7 by omega)
          refine lv_iload_n hx hb dX7_readBeat_28 rfl (lv_at hl 0 rfl) ?_
          refine lv_iconst (v := nI (1)) hx hb dX7_readBeat_29 (by decide) ?_
          refine lv_iload hx hb dX7_readBeat_30 (lv_at hl 2 rfl) ?_
          refine w_ishl (x := 1) (y := j) hx hb dX7_readBeat_32 (by omega) (by omega) ?_
          refine w_ior (x := z) (y := 1 * 2 ^ j) hx hb dX7_readBeat_33  ?_
          refine lv_istore_n (lv' := [(2, .int (nI (z ||| (1 * 2 ^ j)))), (3, .int (nI (le))), (4, .int (nI (j))), (5, .int (nI (q))), (0, .ref (b 0)), (1, .int (nI (en)))]) hx hb dX7_readBeat_34 rfl hl (by decide) rfl (fun ls hl => ?_)
          refine lv_iload hx hb dX7_readBeat_35 (lv_at hl 2 rfl) ?_
          refine lv_iconst (v := nI (1)) hx hb dX7_readBeat_37 (by decide) ?_
          refine w_iadd (x := j) (y := 1) hx hb dX7_readBeat_38  ?_
          refine lv_istore_n (lv' := [(3, .int (nI (j + 1))), (2, .int (nI (z ||| (1 * 2 ^ j)))), (4, .int (nI (j))), (5, .int (nI (q))), (0, .ref (b 0)), (1, .int (nI (en)))]) hx hb dX7_readBeat_39 rfl hl (by decide) rfl (fun ls hl => ?_)
          refine lv_iload hx hb dX7_readBeat_40 (lv_at hl 3 rfl) ?_
          refine lv_iconst (v := nI (4)) hx hb dX7_readBeat_42 (by decide) ?_
          refine w_icmp_eq (x := q) (y := 4) hx hb dX7_readBeat_43 (tgt := 54) (by decide) (by omega) (by omega) (fun c43 => ?_) (fun c43 => ?_)
          · skip
            refine lv_bipush (v := -9) hx hb dX7_readBeat_54 (by decide) ?_
            refine lv_goto (tgt := 71) hx hb dX7_readBeat_56 (by decide) ?_
            refine lv_istore (lv' := [(4, .int (-9)), (3, .int (nI (j + 1))), (2, .int (nI (z ||| (1 * 2 ^ j)))), (5, .int (nI (q))), (0, .ref (b 0)), (1, .int (nI (en)))]) hx hb dX7_readBeat_71 hl (by decide) rfl (fun ls hl => ?_)
            refine lv_iinc (v := nI (q + 1)) (lv' := [(5, .int (nI (q + 1))), (4, .int (-9)), (3, .int (nI (j + 1))), (2, .int (nI (z ||| (1 * 2 ^ j)))), (0, .ref (b 0)), (1, .int (nI (en)))]) hx hb dX7_readBeat_73 hl (k := 3) rfl (nI_add q 1) (by decide) rfl (fun ls hl => ?_)
            refine lv_goto (tgt := 21) hx hb dX7_readBeat_76 (by decide) ?_
            exact ih21 (-9) (q + 1) (z ||| (1 * 2 ^ j)) (j + 1) at1 (k + 1) _ _ _ (by omega) (by omega) (by omega) (by exact hs.1) (by exact hs.2.1) (by omega) (by exact hs.2.2.1) (by exact Or.inr hs.2.2.2) (by first | exact Or.inl ⟨rfl, by omega, sk_4 (by omega)⟩ | exact Or.inl ⟨rfl, by omega, sk_nb (le := j + 1) hs.2.2.2 c51 (by omega)⟩ | exact Or.inl ⟨rfl, by omega, by rw [show v 10 0 + (k + 1) = at1 by omega]; exact sk_dg (le := j + 1) (Or.inr hs.2.2.2) h_68⟩ | exact Or.inr ⟨j_68, rfl, h1_68, by omega, by omega, by rw [show v 10 0 + (k + 1) = at1 by omega]; exact h3_68, by omega⟩) (by omega) hP hD hS (lv_sub hl [3, 2, 1, 0, 4, 5] rfl)
          · skip
            refine lv_iload_n hx hb dX7_readBeat_46 rfl (lv_at hl 0 rfl) ?_
            refine lv_aload_n hx hb dX7_readBeat_47 rfl (lv_at hl 4 rfl) ?_
            refine va_get (D := D) (ci := 7) (v := .int (c 11 0)) (C := RX7) (T := TX7) (N := 24) hx hb hts hinX7 hown hK hP 0 rfl rfl 11 (by decide) (hts (.fieldLink RX7 93 "DancedLockModel" "readBoards" "I") (List.mem_of_getElem? (i := 1) rfl)) (fun _ h9 => h9) rfl dX7_readBeat_48 ?_
            rw [show (c 11 0) = (nI (nb)) from hbo]
            refine w_icmp_ne (x := j + 1) (y := nb) hx hb dX7_readBeat_51 (tgt := 59) (by decide) (by omega) (by omega) (fun c51 => ?_) (fun c51 => ?_)
            · skip
              refine lv_aload_n hx hb dX7_readBeat_59 rfl (lv_at hl 4 rfl) ?_
              refine lv_iload_n hx hb dX7_readBeat_60 rfl (lv_at hl 5 rfl) ?_
              refine lv_iload_n hx hb dX7_readBeat_61 rfl (lv_at hl 0 rfl) ?_
              refine lv_aload_n hx hb dX7_readBeat_62 rfl (lv_at hl 4 rfl) ?_
              refine va_get (D := D) (ci := 7) (v := .int (c 11 0)) (C := RX7) (T := TX7) (N := 24) hx hb hts hinX7 hown hK hP 0 rfl rfl 11 (by decide) (hts (.fieldLink RX7 93 "DancedLockModel" "readBoards" "I") (List.mem_of_getElem? (i := 1) rfl)) (fun _ h9 => h9) rfl dX7_readBeat_63 ?_
              rw [show (c 11 0) = (nI (nb)) from hbo]
              refine lv_iconst (v := nI (1)) hx hb dX7_readBeat_66 (by decide) ?_
              refine w_isub (x := nb) (y := 1) hx hb dX7_readBeat_67 (by omega) ?_
              refine w_cVi (rest := []) hx hb hml hown hts (m_digit l D b cI cJ cZ A (va_up v 10 (va_up (v 10) 0 (at1))) c en (j + 1) (nb - 1)  (by first | assumption | omega) (by show at1 ≤ 400; omega) (by omega) (by omega)) 3 gX7_readBeat_X7_digit rfl hdX7_digit ⟨Nat.le_of_ble_eq_true rfl, Nat.le_of_ble_eq_true rfl⟩ hK hN hP hD hS hA 0 7 rfl rfl rfl rfl hl.1 rfl (Nat.le_of_ble_eq_true rfl) dX7_readBeat_68 ⟨Nat.le_of_ble_eq_true rfl, Nat.le_of_ble_eq_true rfl⟩ (fun r u H locs hq hP hD hS => ?_)
              rcases hq with ⟨rfl, rfl, h_68⟩ | ⟨j_68, rfl, rfl, h0_68, h1_68, h2_68, h3_68⟩
              · skip
                have h_68 : NDG ((c 4)) en (at1) (j + 1) (nb - 1) := h_68
                have hP : va_P D vwCl (mW b cI cJ cZ (va_up v 10 (va_up (v 10) 0 (at1))) c) H := hP
                have hD : va_D A (mW b cI cJ cZ (va_up v 10 (va_up (v 10) 0 (at1))) c) := hD
                refine lv_istore (lv' := [(4, .int (-9)), (3, .int (nI (j + 1))), (2, .int (nI (z ||| (1 * 2 ^ j)))), (5, .int (nI (q))), (0, .ref (b 0)), (1, .int (nI (en)))]) hx hb dX7_readBeat_71 hl (by decide) rfl (fun ls hl => ?_)
                refine lv_iinc (v := nI (q + 1)) (lv' := [(5, .int (nI (q + 1))), (4, .int (-9)), (3, .int (nI (j + 1))), (2, .int (nI (z ||| (1 * 2 ^ j)))), (0, .ref (b 0)), (1, .int (nI (en)))]) hx hb dX7_readBeat_73 hl (k := 3) rfl (nI_add q 1) (by decide) rfl (fun ls hl => ?_)
                refine lv_goto (tgt := 21) hx hb dX7_readBeat_76 (by decide) ?_
                exact ih21 (-9) (q + 1) (z ||| (1 * 2 ^ j)) (j + 1) at1 (k + 1) _ _ _ (by omega) (by omega) (by omega) (by exact hs.1) (by exact hs.2.1) (by omega) (by exact hs.2.2.1) (by exact Or.inr hs.2.2.2) (by first | exact Or.inl ⟨rfl, by omega, sk_4 (by omega)⟩ | exact Or.inl ⟨rfl, by omega, sk_nb (le := j + 1) hs.2.2.2 c51 (by omega)⟩ | exact Or.inl ⟨rfl, by omega, by rw [show v 10 0 + (k + 1) = at1 by omega]; exact sk_dg (le := j + 1) (Or.inr hs.2.2.2) h_68⟩ | exact Or.inr ⟨j_68, rfl, h1_68, by omega, by omega, by rw [show v 10 0 + (k + 1) = at1 by omega]; exact h3_68, by omega⟩) (by omega) hP hD hS (lv_sub hl [3, 2, 1, 0, 4, 5] rfl)
              · skip
                have h0_68 : at1 < en := h0_68
                have h3_68 : (c 4) (at1) = nI (48 + j_68) := h3_68
                have hP : va_P D vwCl (mW b cI cJ cZ (va_up v 10 (va_up (v 10) 0 (at1 + 1))) c) H := hP
                have hD : va_D A (mW b cI cJ cZ (va_up v 10 (va_up (v 10) 0 (at1 + 1))) c) := hD
                refine lv_istore (lv' := [(4, .int (nI (j_68))), (3, .int (nI (j + 1))), (2, .int (nI (z ||| (1 * 2 ^ j)))), (5, .int (nI (q))), (0, .ref (b 0)), (1, .int (nI (en)))]) hx hb dX7_readBeat_71 hl (by decide) rfl (fun ls hl => ?_)
                refine lv_iinc (v := nI (q + 1)) (lv' := [(5, .int (nI (q + 1))), (4, .int (nI (j_68))), (3, .int (nI (j + 1))), (2, .int (nI (z ||| (1 * 2 ^ j)))), (0, .ref (b 0)), (1, .int (nI (en)))]) hx hb dX7_readBeat_73 hl (k := 3) rfl (nI_add q 1) (by decide) rfl (fun ls hl => ?_)
                refine lv_goto (tgt := 21) hx hb dX7_readBeat_76 (by decide) ?_
                exact ih21 (nI (j_68)) (q + 1) (z ||| (1 * 2 ^ j)) (j + 1) (at1 + 1) (k + 1) _ _ _ (by omega) (by omega) (by omega) (by exact hs.1) (by exact hs.2.1) (by omega) (by exact hs.2.2.1) (by exact Or.inr hs.2.2.2) (by first | exact Or.inl ⟨rfl, by omega, sk_4 (by omega)⟩ | exact Or.inl ⟨rfl, by omega, sk_nb (le := j + 1) hs.2.2.2 c51 (by omega)⟩ | exact Or.inl ⟨rfl, by omega, by rw [show v 10 0 + (k + 1) = at1 by omega]; exact sk_dg (le := j + 1) (Or.inr hs.2.2.2) h_68⟩ | exact Or.inr ⟨j_68, rfl, h1_68, by omega, by omega, by rw [show v 10 0 + (k + 1) = at1 by omega]; exact h3_68, by omega⟩) (by omega) hP hD hS (lv_sub hl [3, 2, 1, 0, 4, 5] rfl)
            · skip
              refine lv_bipush (v := -9) hx hb dX7_readBeat_54 (by decide) ?_
              refine lv_goto (tgt := 71) hx hb dX7_readBeat_56 (by decide) ?_
              refine lv_istore (lv' := [(4, .int (-9)), (3, .int (nI (j + 1))), (2, .int (nI (z ||| (1 * 2 ^ j)))), (5, .int (nI (q))), (0, .ref (b 0)), (1, .int (nI (en)))]) hx hb dX7_readBeat_71 hl (by decide) rfl (fun ls hl => ?_)
              refine lv_iinc (v := nI (q + 1)) (lv' := [(5, .int (nI (q + 1))), (4, .int (-9)), (3, .int (nI (j + 1))), (2, .int (nI (z ||| (1 * 2 ^ j)))), (0, .ref (b 0)), (1, .int (nI (en)))]) hx hb dX7_readBeat_73 hl (k := 3) rfl (nI_add q 1) (by decide) rfl (fun ls hl => ?_)
              refine lv_goto (tgt := 21) hx hb dX7_readBeat_76 (by decide) ?_
              exact ih21 (-9) (q + 1) (z ||| (1 * 2 ^ j)) (j + 1) at1 (k + 1) _ _ _ (by omega) (by omega) (by omega) (by exact hs.1) (by exact hs.2.1) (by omega) (by exact hs.2.2.1) (by exact Or.inr hs.2.2.2) (by first | exact Or.inl ⟨rfl, by omega, sk_4 (by omega)⟩ | exact Or.inl ⟨rfl, by omega, sk_nb (le := j + 1) hs.2.2.2 c51 (by omega)⟩ | exact Or.inl ⟨rfl, by omega, by rw [show v 10 0 + (k + 1) = at1 by omega]; exact sk_dg (le := j + 1) (Or.inr hs.2.2.2) h_68⟩ | exact Or.inr ⟨j_68, rfl, h1_68, by omega, by omega, by rw [show v 10 0 + (k + 1) = at1 by omega]; exact h3_68, by omega⟩) (by omega) hP hD hS (lv_sub hl [3, 2, 1, 0, 4, 5] rfl)
    exact L21 ((6 - 1) + 1) (-9) 1 0 0 (v 10 0) 0 _ _ _ (Nat.lt_succ_self _) (by omega) (by omega) (by rfl) (by decide) (by omega) (by rfl) (by exact Or.inl rfl) (by first | exact Or.inl ⟨rfl, rfl, sk_dg (Or.inl rfl) h_13⟩ | exact Or.inr ⟨j_13, rfl, Nat.zero_le _, by omega, rfl, h3_13, by decide⟩) (by omega) hP hD hS (lv_sub hl [3, 2, 1, 0, 4, 5] rfl)
  · skip
    have hP : va_P D vwCl (mW b cI cJ cZ (va_up v 10 (va_up (v 10) 0 ((v 10 0) + 1))) c) H := hP
    have hD : va_D A (mW b cI cJ cZ (va_up v 10 (va_up (v 10) 0 ((v 10 0) + 1))) c) := hD
    refine lv_istore (lv' := [(4, .int (nI (j_13))), (3, .int (nI (0))), (2, .int (nI (0))), (0, .ref (b 0)), (1, .int (nI (en)))]) hx hb dX7_readBeat_16 hl (by decide) rfl (fun ls hl => ?_)
    refine lv_iconst (v := nI (1)) hx hb dX7_readBeat_18 (by decide) ?_
    refine lv_istore (lv' := [(5, .int (nI (1))), (4, .int (nI (j_13))), (3, .int (nI (0))), (2, .int (nI (0))), (0, .ref (b 0)), (1, .int (nI (en)))]) hx hb dX7_readBeat_19 hl (by decide) rfl (fun ls hl => ?_)
    have L21 : ∀ (n : Nat) (x : Int32) (q : Nat) (z : Nat) (le : Nat) (at1 : Nat) (k : Nat) (H : Heap) (locs : List Loc) (ls : Array Slot), 6 - q < n → (q = k + 1) → (k ≤ 4) → (DR nb (c 4) (v 10 0) k z) → (z < 2 ^ le) → (le ≤ nb) → (pc z = k) → (le = 0 ∨ 2 ^ (le - 1) ≤ z) → ((x = -9 ∧ at1 = v 10 0 + k ∧ SKd nb (c 4) en (v 10 0 + k) (z)) ∨ (∃ j, x = nI j ∧ le ≤ j ∧ j < nb ∧ at1 = v 10 0 + k + 1 ∧ c 4 (v 10 0 + k) = nI (48 + j) ∧ k < 4)) → (at1 ≤ en) → va_P D vwCl (mW b cI cJ cZ (va_up v 10 (va_up (v 10) 0 (at1))) c) H → va_D A (mW b cI cJ cZ (va_up v 10 (va_up (v 10) 0 (at1))) c) → va_S A s.heap H locs → lv_has ls 6 [(2, .int (nI (z))), (3, .int (nI (le))), (4, .int x), (5, .int (nI (q))), (0, .ref (b 0)), (1, .int (nI (en)))] → W p l e { frames := 2, cells := 0, slots := 0, locals := 45 } s m args below meth c0 H locs 0 0 Q (F0 m 21 ls []) := by
      intro n
      induction n with
      | zero => intro x q z le at1 k H locs ls hm; exact absurd hm (Nat.not_lt_zero _)
      | succ n ih21 =>
        intro x q z le at1 k H locs ls hm21 hkn hk4 hDR hz hle2 hpc hhi hxx hae1 hP hD hS hl
        refine lv_iload hx hb dX7_readBeat_21 (lv_at hl 2 rfl) ?_
        refine lv_bipush (v := -9) hx hb dX7_readBeat_23 (by decide) ?_
        refine lv_icmp_eq (x := x) (y := (-9)) hx hb dX7_readBeat_25 (tgt := 79) (by decide) (fun c25 => ?_) (fun c25 => ?_)
        · skip
          obtain ⟨-, e1, hsk⟩ := hxx.resolve_right (fun ⟨j, z1, z2, z3, _⟩ => n_neg (k := j) (x := -9) (by omega) (by decide) (z1.symm.trans c25))
          refine lv_iload_n hx hb dX7_readBeat_79 rfl (lv_at hl 0 rfl) ?_
          exact hret (nI (z)) (va_up v 10 (va_up (v 10) 0 (at1)), c) _ _ 80 _ dX7_readBeat_80 rfl (by exact ⟨k, z, rfl, by rw [e1], hDR, by omega, hsk⟩) hP hD hS
        · skip
          obtain ⟨j, rfl, hlj, hjn, e1, hcj, hk3⟩ := hxx.resolve_left (fun z9 => c25 z9.1)
          have hs := rb_s h7b hDR hz hpc hk3 hlj hjn hcj
          have hzl := Nat.lt_of_lt_of_le hz (Nat.pow_le_pow_right (show 0 < 2 by decide) hle2)
          have hp7 := pow_le_128 h7b
          have hpj := pow_le_128 (show j ≤ 7 by omega)
          refine lv_iload_n hx hb dX7_readBeat_28 rfl (lv_at hl 0 rfl) ?_
          refine lv_iconst (v := nI (1)) hx hb dX7_readBeat_29 (by decide) ?_
          refine lv_iload hx hb dX7_readBeat_30 (lv_at hl 2 rfl) ?_
          refine w_ishl (x := 1) (y := j) hx hb dX7_readBeat_32 (by omega) (by omega) ?_
          refine w_ior (x := z) (y := 1 * 2 ^ j) hx hb dX7_readBeat_33  ?_
          refine lv_istore_n (lv' := [(2, .int (nI (z ||| (1 * 2 ^ j)))), (3, .int (nI (le))), (4, .int (nI (j))), (5, .int (nI (q))), (0, .ref (b 0)), (1, .int (nI (en)))]) hx hb dX7_readBeat_34 rfl hl (by decide) rfl (fun ls hl => ?_)
          refine lv_iload hx hb dX7_readBeat_35 (lv_at hl 2 rfl) ?_
          refine lv_iconst (v := nI (1)) hx hb dX7_readBeat_37 (by decide) ?_
          refine w_iadd (x := j) (y := 1) hx hb dX7_readBeat_38  ?_
          refine lv_istore_n (lv' := [(3, .int (nI (j + 1))), (2, .int (nI (z ||| (1 * 2 ^ j)))), (4, .int (nI (j))), (5, .int (nI (q))), (0, .ref (b 0)), (1, .int (nI (en)))]) hx hb dX7_readBeat_39 rfl hl (by decide) rfl (fun ls hl => ?_)
          refine lv_iload hx hb dX7_readBeat_40 (lv_at hl 3 rfl) ?_
          refine lv_iconst (v := nI (4)) hx hb dX7_readBeat_42 (by decide) ?_
          refine w_icmp_eq (x := q) (y := 4) hx hb dX7_readBeat_43 (tgt := 54) (by decide) (by omega) (by omega) (fun c43 => ?_) (fun c43 => ?_)
          · skip
            refine lv_bipush (v := -9) hx hb dX7_readBeat_54 (by decide) ?_
            refine lv_goto (tgt := 71) hx hb dX7_readBeat_56 (by decide) ?_
            refine lv_istore (lv' := [(4, .int (-9)), (3, .int (nI (j + 1))), (2, .int (nI (z ||| (1 * 2 ^ j)))), (5, .int (nI (q))), (0, .ref (b 0)), (1, .int (nI (en)))]) hx hb dX7_readBeat_71 hl (by decide) rfl (fun ls hl => ?_)
            refine lv_iinc (v := nI (q + 1)) (lv' := [(5, .int (nI (q + 1))), (4, .int (-9)), (3, .int (nI (j + 1))), (2, .int (nI (z ||| (1 * 2 ^ j)))), (0, .ref (b 0)), (1, .int (nI (en)))]) hx hb dX7_readBeat_73 hl (k := 3) rfl (nI_add q 1) (by decide) rfl (fun ls hl => ?_)
            refine lv_goto (tgt := 21) hx hb dX7_readBeat_76 (by decide) ?_
            exact ih21 (-9) (q + 1) (z ||| (1 * 2 ^ j)) (j + 1) at1 (k + 1) _ _ _ (by omega) (by omega) (by omega) (by exact hs.1) (by exact hs.2.1) (by omega) (by exact hs.2.2.1) (by exact Or.inr hs.2.2.2) (by first | exact Or.inl ⟨rfl, by omega, sk_4 (by omega)⟩ | exact Or.inl ⟨rfl, by omega, sk_nb (le := j + 1) hs.2.2.2 c51 (by omega)⟩ | exact Or.inl ⟨rfl, by omega, by rw [show v 10 0 + (k + 1) = at1 by omega]; exact sk_dg (le := j + 1) (Or.inr hs.2.2.2) h_68⟩ | exact Or.inr ⟨j_68, rfl, h1_68, by omega, by omega, by rw [show v 10 0 + (k + 1) = at1 by omega]; exact h3_68, by omega⟩) (by omega) hP hD hS (lv_sub hl [3, 2, 1, 0, 4, 5] rfl)
          · skip
            refine lv_iload_n hx hb dX7_readBeat_46 rfl (lv_at hl 0 rfl) ?_
            refine lv_aload_n hx hb dX7_readBeat_47 rfl (lv_at hl 4 rfl) ?_
            refine va_get (D := D) (ci := 7) (v := .int (c 11 0)) (C := RX7) (T := TX7) (N := 24) hx hb hts hinX7 hown hK hP 0 rfl rfl 11 (by decide) (hts (.fieldLink RX7 93 "DancedLockModel" "readBoards" "I") (List.mem_of_getElem? (i := 1) rfl)) (fun _ h9 => h9) rfl dX7_readBeat_48 ?_
            rw [show (c 11 0) = (nI (nb)) from hbo]
            refine w_icmp_ne (x := j + 1) (y := nb) hx hb dX7_readBeat_51 (tgt := 59) (by decide) (by omega) (by omega) (fun c51 => ?_) (fun c51 => ?_)
            · skip
              refine lv_aload_n hx hb dX7_readBeat_59 rfl (lv_at hl 4 rfl) ?_
              refine lv_iload_n hx hb dX7_readBeat_60 rfl (lv_at hl 5 rfl) ?_
              refine lv_iload_n hx hb dX7_readBeat_61 rfl (lv_at hl 0 rfl) ?_
              refine lv_aload_n hx hb dX7_readBeat_62 rfl (lv_at hl 4 rfl) ?_
              refine va_get (D := D) (ci := 7) (v := .int (c 11 0)) (C := RX7) (T := TX7) (N := 24) hx hb hts hinX7 hown hK hP 0 rfl rfl 11 (by decide) (hts (.fieldLink RX7 93 "DancedLockModel" "readBoards" "I") (List.mem_of_getElem? (i := 1) rfl)) (fun _ h9 => h9) rfl dX7_readBeat_63 ?_
              rw [show (c 11 0) = (nI (nb)) from hbo]
              refine lv_iconst (v := nI (1)) hx hb dX7_readBeat_66 (by decide) ?_
              refine w_isub (x := nb) (y := 1) hx hb dX7_readBeat_67 (by omega) ?_
              refine w_cVi (rest := []) hx hb hml hown hts (m_digit l D b cI cJ cZ A (va_up v 10 (va_up (v 10) 0 (at1))) c en (j + 1) (nb - 1)  (by first | assumption | omega) (by show at1 ≤ 400; omega) (by omega) (by omega)) 3 gX7_readBeat_X7_digit rfl hdX7_digit ⟨Nat.le_of_ble_eq_true rfl, Nat.le_of_ble_eq_true rfl⟩ hK hN hP hD hS hA 0 7 rfl rfl rfl rfl hl.1 rfl (Nat.le_of_ble_eq_true rfl) dX7_readBeat_68 ⟨Nat.le_of_ble_eq_true rfl, Nat.le_of_ble_eq_true rfl⟩ (fun r u H locs hq hP hD hS => ?_)
              rcases hq with ⟨rfl, rfl, h_68⟩ | ⟨j_68, rfl, rfl, h0_68, h1_68, h2_68, h3_68⟩
              · skip
                have h_68 : NDG ((c 4)) en (at1) (j + 1) (nb - 1) := h_68
                have hP : va_P D vwCl (mW b cI cJ cZ (va_up v 10 (va_up (v 10) 0 (at1))) c) H := hP
                have hD : va_D A (mW b cI cJ cZ (va_up v 10 (va_up (v 10) 0 (at1))) c) := hD
                refine lv_istore (lv' := [(4, .int (-9)), (3, .int (nI (j + 1))), (2, .int (nI (z ||| (1 * 2 ^ j)))), (5, .int (nI (q))), (0, .ref (b 0)), (1, .int (nI (en)))]) hx hb dX7_readBeat_71 hl (by decide) rfl (fun ls hl => ?_)
                refine lv_iinc (v := nI (q + 1)) (lv' := [(5, .int (nI (q + 1))), (4, .int (-9)), (3, .int (nI (j + 1))), (2, .int (nI (z ||| (1 * 2 ^ j)))), (0, .ref (b 0)), (1, .int (nI (en)))]) hx hb dX7_readBeat_73 hl (k := 3) rfl (nI_add q 1) (by decide) rfl (fun ls hl => ?_)
                refine lv_goto (tgt := 21) hx hb dX7_readBeat_76 (by decide) ?_
                exact ih21 (-9) (q + 1) (z ||| (1 * 2 ^ j)) (j + 1) at1 (k + 1) _ _ _ (by omega) (by omega) (by omega) (by exact hs.1) (by exact hs.2.1) (by omega) (by exact hs.2.2.1) (by exact Or.inr hs.2.2.2) (by first | exact Or.inl ⟨rfl, by omega, sk_4 (by omega)⟩ | exact Or.inl ⟨rfl, by omega, sk_nb (le := j + 1) hs.2.2.2 c51 (by omega)⟩ | exact Or.inl ⟨rfl, by omega, by rw [show v 10 0 + (k + 1) = at1 by omega]; exact sk_dg (le := j + 1) (Or.inr hs.2.2.2) h_68⟩ | exact Or.inr ⟨j_68, rfl, h1_68, by omega, by omega, by rw [show v 10 0 + (k + 1) = at1 by omega]; exact h3_68, by omega⟩) (by omega) hP hD hS (lv_sub hl [3, 2, 1, 0, 4, 5] rfl)
              · skip
                have h0_68 : at1 < en := h0_68
                have h3_68 : (c 4) (at1) = nI (48 + j_68) := h3_68
                have hP : va_P D vwCl (mW b cI cJ cZ (va_up v 10 (va_up (v 10) 0 (at1 + 1))) c) H := hP
                have hD : va_D A (mW b cI cJ cZ (va_up v 10 (va_up (v 10) 0 (at1 + 1))) c) := hD
                refine lv_istore (lv' := [(4, .int (nI (j_68))), (3, .int (nI (j + 1))), (2, .int (nI (z ||| (1 * 2 ^ j)))), (5, .int (nI (q))), (0, .ref (b 0)), (1, .int (nI (en)))]) hx hb dX7_readBeat_71 hl (by decide) rfl (fun ls hl => ?_)
                refine lv_iinc (v := nI (q + 1)) (lv' := [(5, .int (nI (q + 1))), (4, .int (nI (j_68))), (3, .int (nI (j + 1))), (2, .int (nI (z ||| (1 * 2 ^ j)))), (0, .ref (b 0)), (1, .int (nI (en)))]) hx hb dX7_readBeat_73 hl (k := 3) rfl (nI_add q 1) (by decide) rfl (fun ls hl => ?_)
                refine lv_goto (tgt := 21) hx hb dX7_readBeat_76 (by decide) ?_
                exact ih21 (nI (j_68)) (q + 1) (z ||| (1 * 2 ^ j)) (j + 1) (at1 + 1) (k + 1) _ _ _ (by omega) (by omega) (by omega) (by exact hs.1) (by exact hs.2.1) (by omega) (by exact hs.2.2.1) (by exact Or.inr hs.2.2.2) (by first | exact Or.inl ⟨rfl, by omega, sk_4 (by omega)⟩ | exact Or.inl ⟨rfl, by omega, sk_nb (le := j + 1) hs.2.2.2 c51 (by omega)⟩ | exact Or.inl ⟨rfl, by omega, by rw [show v 10 0 + (k + 1) = at1 by omega]; exact sk_dg (le := j + 1) (Or.inr hs.2.2.2) h_68⟩ | exact Or.inr ⟨j_68, rfl, h1_68, by omega, by omega, by rw [show v 10 0 + (k + 1) = at1 by omega]; exact h3_68, by omega⟩) (by omega) hP hD hS (lv_sub hl [3, 2, 1, 0, 4, 5] rfl)
            · skip
              refine lv_bipush (v := -9) hx hb dX7_readBeat_54 (by decide) ?_
              refine lv_goto (tgt := 71) hx hb dX7_readBeat_56 (by decide) ?_
              refine lv_istore (lv' := [(4, .int (-9)), (3, .int (nI (j + 1))), (2, .int (nI (z ||| (1 * 2 ^ j)))), (5, .int (nI (q))), (0, .ref (b 0)), (1, .int (nI (en)))]) hx hb dX7_readBeat_71 hl (by decide) rfl (fun ls hl => ?_)
              refine lv_iinc (v := nI (q + 1)) (lv' := [(5, .int (nI (q + 1))), (4, .int (-9)), (3, .int (nI (j + 1))), (2, .int (nI (z ||| (1 * 2 ^ j)))), (0, .ref (b 0)), (1, .int (nI (en)))]) hx hb dX7_readBeat_73 hl (k := 3) rfl (nI_add q 1) (by decide) rfl (fun ls hl => ?_)
              refine lv_goto (tgt := 21) hx hb dX7_readBeat_76 (by decide) ?_
              exact ih21 (-9) (q + 1) (z ||| (1 * 2 ^ j)) (j + 1) at1 (k + 1) _ _ _ (by omega) (by omega) (by omega) (by exact hs.1) (by exact hs.2.1) (by omega) (by exact hs.2.2.1) (by exact Or.inr hs.2.2.2) (by first | exact Or.inl ⟨rfl, by omega, sk_4 (by omega)⟩ | exact Or.inl ⟨rfl, by omega, sk_nb (le := j + 1) hs.2.2.2 c51 (by omega)⟩ | exact Or.inl ⟨rfl, by omega, by rw [show v 10 0 + (k + 1) = at1 by omega]; exact sk_dg (le := j + 1) (Or.inr hs.2.2.2) h_68⟩ | exact Or.inr ⟨j_68, rfl, h1_68, by omega, by omega, by rw [show v 10 0 + (k + 1) = at1 by omega]; exact h3_68, by omega⟩) (by omega) hP hD hS (lv_sub hl [3, 2, 1, 0, 4, 5] rfl)
    exact L21 ((6 - 1) + 1) (nI (j_13)) 1 0 0 ((v 10 0) + 1) 0 _ _ _ (Nat.lt_succ_self _) (by omega) (by omega) (by rfl) (by decide) (by omega) (by rfl) (by exact Or.inl rfl) (by first | exact Or.inl ⟨rfl, rfl, sk_dg (Or.inl rfl) h_13⟩ | exact Or.inr ⟨j_13, rfl, Nat.zero_le _, by omega, rfl, h3_13, by decide⟩) (by omega) hP hD hS (lv_sub hl [3, 2, 1, 0, 4, 5] rfl)

set_option maxHeartbeats 4000000 in
set_option maxRecDepth 100000 in
theorem m_readDoor (l : Launch) (D : va_G) (b : Nat → Nat) (cI cJ cZ : ClassId) (A : Nat → Prop) (v : Nat → Nat → Nat) (c : Nat → Nat → Int32) (en : Nat) (nb : Nat) (f0 : Nat) (hB : en ≤ 320) (hbo : c 11 0 = nI nb) (h2b : 2 ≤ nb) (h7b : nb ≤ 7) (hrd : v 12 0 < 4) (hRD : RDI nb (c 4) en f0 (v 12 0) 0 1 (v 10 0) (v 14) (v 15)) :
    mV l yX7_readDoor wsX7_readDoor 3 70 [.ref (b 0), .int (nI en)] D (xT cI cJ cZ) A (mW b cI cJ cZ v c) (fun u : ((Nat → Nat → Nat) × (Nat → Nat → Int32)) => mW b cI cJ cZ u.1 u.2)
    (fun (u : ((Nat → Nat → Nat) × (Nat → Nat → Int32))) => ∃ at1 : Nat, ∃ g14 : Nat → Nat, ∃ g15 : Nat → Nat, u = (va_up (va_up (va_up (va_up v 10 (va_up (v 10) 0 (at1))) 12 (va_up (v 12) 0 (v 12 0 + 1))) 14 (g14)) 15 (g15), c) ∧ DOI nb (c 4) en f0 (v 12 0 + 1) at1 g14 g15) := by
  refine w_bV cX7_readDoor 4 (by decide) rfl (Nat.le_of_ble_eq_true rfl) ?_
  intro p e s m args below meth c0 ls Q hx hb hml hts hown hK hN hA hret hP hD hS hl
  have hl : lv_has ls 4 [(0, .ref (b 0)), (1, .int (nI (en)))] := hl
  have hinX7 : ∀ w ∈ wsX70, w ∈ wsX7_readDoor := fun w h => List.mem_cons_of_mem _ (List.mem_append_right _ h)
  have hrl : v 10 0 ≤ en := by obtain ⟨S, i, q1, q2, -⟩ := hRD; exact q2
  refine lv_iconst (v := nI (0)) hx hb dX7_readDoor_0 (by decide) ?_
  refine lv_istore_n (lv' := [(2, .int (nI (0))), (0, .ref (b 0)), (1, .int (nI (en)))]) hx hb dX7_readDoor_1 rfl hl (by decide) rfl (fun ls hl => ?_)
  refine lv_iconst (v := nI (1)) hx hb dX7_readDoor_2 (by decide) ?_
  refine lv_istore_n (lv' := [(3, .int (nI (1))), (2, .int (nI (0))), (0, .ref (b 0)), (1, .int (nI (en)))]) hx hb dX7_readDoor_3 rfl hl (by decide) rfl (fun ls hl => ?_)
  have L4 : ∀ (n : Nat) (k : Nat) (mo : Nat) (at1 : Nat) (g15 : Nat → Nat) (H : Heap) (locs : List Loc) (ls : Array Slot), 7 - k + mo < n → (k ≤ 6) → (mo ≤ 1) → (RDI nb (c 4) en f0 (v 12 0) k mo at1 (v 14) g15) → va_P D vwCl (mW b cI cJ cZ (va_up (va_up v 10 (va_up (v 10) 0 (at1))) 15 (g15)) c) H → va_D A (mW b cI cJ cZ (va_up (va_up v 10 (va_up (v 10) 0 (at1))) 15 (g15)) c) → va_S A s.heap H locs → lv_has ls 4 [(2, .int (nI (k))), (3, .int (nI (mo))), (0, .ref (b 0)), (1, .int (nI (en)))] → W p l e { frames := 3, cells := 0, slots := 0, locals := 70 } s m args below meth c0 H locs 0 0 Q (F0 m 4 ls []) := by
    intro n
    induction n with
    | zero => intro k mo at1 g15 H locs ls hm; exact absurd hm (Nat.not_lt_zero _)
    | succ n ih4 =>
      intro k mo at1 g15 H locs ls hm4 hk6 hmo hI4 hP hD hS hl
      refine lv_iload_n hx hb dX7_readDoor_4 rfl (lv_at hl 1 rfl) ?_
      refine w_if_eq (x := mo) hx hb dX7_readDoor_5 (tgt := 84) (by decide) (by omega) (fun c5 => ?_) (fun c5 => ?_)
      · skip
        rw [c5] at hI4
        have hk6b := hk6
        refine lv_aload_n hx hb dX7_readDoor_84 rfl (lv_at hl 2 rfl) ?_
        refine va_get (D := D) (ci := 7) (v := .ref (b 14)) (C := RX7) (T := TX7) (N := 24) hx hb hts hinX7 hown hK hP 0 rfl rfl 14 (by decide) (hts (.fieldLink RX7 31 "DancedLockModel" "readBeats" "[I") (List.mem_of_getElem? (i := 5) rfl)) (fun _ h9 => h9) rfl dX7_readDoor_85 ?_
        refine lv_aload_n hx hb dX7_readDoor_88 rfl (lv_at hl 2 rfl) ?_
        refine va_get (D := D) (ci := 7) (v := .int (nI (v 12 0))) (C := RX7) (T := TX7) (N := 24) hx hb hts hinX7 hown hK hP 0 rfl rfl 12 (by decide) (hts (.fieldLink RX7 96 "DancedLockModel" "readDoors" "I") (List.mem_of_getElem? (i := 2) rfl)) (fun _ h9 => h9) rfl dX7_readDoor_89 ?_
        refine lv_iload_n hx hb dX7_readDoor_92 rfl (lv_at hl 0 rfl) ?_
        refine w_iast (f := v 14) (w := k) hx hb hK hP hD hS 8 0 rfl rfl (i := v 12 0) (by omega) (by decide) dX7_readDoor_93 (fun H locs hP hD hS => ?_)
        have hP : va_P D vwCl (mW b cI cJ cZ (va_up (va_up (va_up v 10 (va_up (v 10) 0 (at1))) 14 (va_up (v 14) (v 12 0) k)) 15 (g15)) c) H := hP
        have hD : va_D A (mW b cI cJ cZ (va_up (va_up (va_up v 10 (va_up (v 10) 0 (at1))) 14 (va_up (v 14) (v 12 0) k)) 15 (g15)) c) := hD
        refine lv_aload_n hx hb dX7_readDoor_94 rfl (lv_at hl 2 rfl) ?_
        refine lv_dup hx hb dX7_readDoor_95 rfl ?_
        refine va_get (D := D) (ci := 7) (v := .int (nI (v 12 0))) (C := RX7) (T := TX7) (N := 24) hx hb hts hinX7 hown hK hP 0 rfl rfl 12 (by decide) (hts (.fieldLink RX7 96 "DancedLockModel" "readDoors" "I") (List.mem_of_getElem? (i := 2) rfl)) (fun _ h9 => h9) rfl dX7_readDoor_96 ?_
        refine lv_iconst (v := nI (1)) hx hb dX7_readDoor_99 (by decide) ?_
        refine w_iadd (x := v 12 0) (y := 1) hx hb dX7_readDoor_100  ?_
        refine va_put (D := D) (ci := 7) (v := .int (nI (v 12 0 + 1))) (ty := .int) (C := RX7) (T := TX7) (N := 24) hx hb hts hinX7 tyX7 tyX7_ok nmX7 hown hK hP hD hS 0 rfl rfl 12 (by decide) (hts (.fieldLink RX7 96 "DancedLockModel" "readDoors" "I") (List.mem_of_getElem? (i := 2) rfl)) (fun _ h9 => h9) rfl (by decide +kernel) rfl (rfl) (Nat.le_of_ble_eq_true rfl) dX7_readDoor_101 (fun H locs hP hD hS => ?_)
        have hP : va_P D vwCl (mW b cI cJ cZ (va_up (va_up (va_up (va_up v 10 (va_up (v 10) 0 (at1))) 12 (va_up (v 12) 0 (v 12 0 + 1))) 14 (va_up (v 14) (v 12 0) k)) 15 (g15)) c) H := hP
        have hD : va_D A (mW b cI cJ cZ (va_up (va_up (va_up (va_up v 10 (va_up (v 10) 0 (at1))) 12 (va_up (v 12) 0 (v 12 0 + 1))) 14 (va_up (v 14) (v 12 0) k)) 15 (g15)) c) := hD
        exact hret (va_up (va_up (va_up (va_up v 10 (va_up (v 10) 0 (at1))) 12 (va_up (v 12) 0 (v 12 0 + 1))) 14 (va_up (v 14) (v 12 0) k)) 15 (g15), c) _ _ 104 _ dX7_readDoor_104 (by exact ⟨at1, _, _, rfl, rd_close hI4 hrd⟩) hP hD hS
      · skip
        have em : mo = 1 := (by omega)
        have hI5 := hI4
        rw [em] at hI5
        have hk5 : k < 6 := (rd_k hI5)
        have hal : at1 ≤ en := by obtain ⟨S, i, q1, q2, -⟩ := hI5; exact q2
        refine lv_aload_n hx hb dX7_readDoor_8 rfl (lv_at hl 2 rfl) ?_
        refine va_get (D := D) (ci := 7) (v := .ref (b 15)) (C := RX7) (T := TX7) (N := 24) hx hb hts hinX7 hown hK hP 0 rfl rfl 15 (by decide) (hts (.fieldLink RX7 34 "DancedLockModel" "readFigure" "[I") (List.mem_of_getElem? (i := 1) rfl)) (fun _ h9 => h9) rfl dX7_readDoor_9 ?_
        refine lv_aload_n hx hb dX7_readDoor_12 rfl (lv_at hl 2 rfl) ?_
        refine va_get (D := D) (ci := 7) (v := .int (nI (v 12 0))) (C := RX7) (T := TX7) (N := 24) hx hb hts hinX7 hown hK hP 0 rfl rfl 12 (by decide) (hts (.fieldLink RX7 96 "DancedLockModel" "readDoors" "I") (List.mem_of_getElem? (i := 2) rfl)) (fun _ h9 => h9) rfl dX7_readDoor_13 ?_
        refine lv_iload_n hx hb dX7_readDoor_16 rfl (lv_at hl 0 rfl) ?_
        refine w_cSi (rest := [.ref (b 15)]) hx hb hml hown hts (m_spot l D b cI cJ cZ A (va_up (va_up v 10 (va_up (v 10) 0 (at1))) 15 (g15)) c (v 12 0) k  ) 2 gX7_readDoor_X7_spot rfl hdX7_spot ⟨Nat.le_of_ble_eq_true rfl, Nat.le_of_ble_eq_true rfl⟩ hK hN hP hD hS hA rfl hl.1 rfl (Nat.le_of_ble_eq_true rfl) dX7_readDoor_17 ⟨Nat.le_of_ble_eq_true rfl, Nat.le_of_ble_eq_true rfl⟩ (fun r u H locs hq hP hD hS => ?_)
        obtain rfl := hq
        have hP : va_P D vwCl (mW b cI cJ cZ (va_up (va_up v 10 (va_up (v 10) 0 (at1))) 15 (g15)) c) H := hP
        have hD : va_D A (mW b cI cJ cZ (va_up (va_up v 10 (va_up (v 10) 0 (at1))) 15 (g15)) c) := hD
        refine lv_aload_n hx hb dX7_readDoor_20 rfl (lv_at hl 2 rfl) ?_
        refine lv_iload_n hx hb dX7_readDoor_21 rfl (lv_at hl 3 rfl) ?_
        refine w_cVi (rest := [.int (nI ((v 12 0) * 6 + k)), .ref (b 15)]) hx hb hml hown hts (m_readBeat l D b cI cJ cZ A (va_up (va_up v 10 (va_up (v 10) 0 (at1))) 15 (g15)) c en nb (by first | assumption | omega) (by show at1 ≤ en; exact hal) (by show (c 11 0) = nI nb; exact hbo) (by first | assumption | omega) (by first | assumption | omega)) 1 gX7_readDoor_X7_readBeat rfl hdX7_readBeat ⟨Nat.le_of_ble_eq_true rfl, Nat.le_of_ble_eq_true rfl⟩ hK hN hP hD hS hA 0 7 rfl rfl rfl rfl hl.1 rfl (Nat.le_of_ble_eq_true rfl) dX7_readDoor_22 ⟨Nat.le_of_ble_eq_true rfl, Nat.le_of_ble_eq_true rfl⟩ (fun r u H locs hq hP hD hS => ?_)
        obtain ⟨k_22, z_22, rfl, rfl, hDR_22, hle_22, hsk_22⟩ := hq
        have hDR_22 : DR nb ((c 4)) (at1) k_22 z_22 := hDR_22
        have hle_22 : at1 + k_22 ≤ en := hle_22
        have hsk_22 : SKd nb ((c 4)) en (at1 + k_22) (z_22) := hsk_22
        have hP : va_P D vwCl (mW b cI cJ cZ (va_up (va_up v 10 (va_up (v 10) 0 (at1 + k_22))) 15 (g15)) c) H := hP
        have hD : va_D A (mW b cI cJ cZ (va_up (va_up v 10 (va_up (v 10) 0 (at1 + k_22))) 15 (g15)) c) := hD
        refine w_iast (f := g15) (w := z_22) hx hb hK hP hD hS 9 0 rfl rfl (i := (v 12 0) * 6 + k) (by omega) (by decide) dX7_readDoor_25 (fun H locs hP hD hS => ?_)
        have hP : va_P D vwCl (mW b cI cJ cZ (va_up (va_up v 10 (va_up (v 10) 0 (at1 + k_22))) 15 (va_up g15 ((v 12 0) * 6 + k) z_22)) c) H := hP
        have hD : va_D A (mW b cI cJ cZ (va_up (va_up v 10 (va_up (v 10) 0 (at1 + k_22))) 15 (va_up g15 ((v 12 0) * 6 + k) z_22)) c) := hD
        refine lv_iinc (v := nI (k + 1)) (lv' := [(2, .int (nI (k + 1))), (3, .int (nI (mo))), (0, .ref (b 0)), (1, .int (nI (en)))]) hx hb dX7_readDoor_26 hl (k := 0) rfl (nI_add k 1) (by decide) rfl (fun ls hl => ?_)
        refine lv_iload_n hx hb dX7_readDoor_29 rfl (lv_at hl 0 rfl) ?_
        refine lv_bipush (v := nI (6)) hx hb dX7_readDoor_30 (by decide) ?_
        refine w_icmp_ge (x := k + 1) (y := 6) hx hb dX7_readDoor_32 (tgt := 61) (by decide) (by omega) (by omega) (fun c32 => ?_) (fun c32 => ?_)
        · skip
          refine lv_iconst (v := nI (0)) hx hb dX7_readDoor_61 (by decide) ?_
          refine lv_istore_n (lv' := [(3, .int (nI (0))), (2, .int (nI (k + 1))), (0, .ref (b 0)), (1, .int (nI (en)))]) hx hb dX7_readDoor_62 rfl hl (by decide) rfl (fun ls hl => ?_)
          refine lv_aload_n hx hb dX7_readDoor_63 rfl (lv_at hl 2 rfl) ?_
          refine lv_dup hx hb dX7_readDoor_64 rfl ?_
          refine va_get (D := D) (ci := 7) (v := .int (nI (at1 + k_22))) (C := RX7) (T := TX7) (N := 24) hx hb hts hinX7 hown hK hP 0 rfl rfl 10 (by decide) (hts (.fieldLink RX7 73 "DancedLockModel" "at" "I") (List.mem_of_getElem? (i := 3) rfl)) (fun _ h9 => h9) rfl dX7_readDoor_65 ?_
          refine lv_iload_n hx hb dX7_readDoor_68 rfl (lv_at hl 0 rfl) ?_
          refine w_if_eq (x := 0) hx hb dX7_readDoor_69 (tgt := 76) (by decide) (by decide) (fun _ => ?_) (fun h => absurd h (by decide))
          refine lv_iconst (v := nI (0)) hx hb dX7_readDoor_76 (by decide) ?_
          refine w_iadd (x := at1 + k_22) (y := 0) hx hb dX7_readDoor_77  ?_
          rw [show (at1 + k_22) + 0 = at1 + k_22 from by omega]
          refine va_put (D := D) (ci := 7) (v := .int (nI (at1 + k_22))) (ty := .int) (C := RX7) (T := TX7) (N := 24) hx hb hts hinX7 tyX7 tyX7_ok nmX7 hown hK hP hD hS 0 rfl rfl 10 (by decide) (hts (.fieldLink RX7 73 "DancedLockModel" "at" "I") (List.mem_of_getElem? (i := 3) rfl)) (fun _ h9 => h9) rfl (by decide +kernel) rfl (rfl) (Nat.le_of_ble_eq_true rfl) dX7_readDoor_78 (fun H locs hP hD hS => ?_)
          have hP : va_P D vwCl (mW b cI cJ cZ (va_up (va_up v 10 (va_up (v 10) 0 (at1 + k_22))) 15 (va_up g15 ((v 12 0) * 6 + k) z_22)) c) H := hP
          have hD : va_D A (mW b cI cJ cZ (va_up (va_up v 10 (va_up (v 10) 0 (at1 + k_22))) 15 (va_up g15 ((v 12 0) * 6 + k) z_22)) c) := hD
          refine lv_goto (tgt := 4) hx hb dX7_readDoor_81 (by decide) ?_
          exact ih4 (k + 1) 0 (at1 + k_22) (va_up g15 ((v 12 0) * 6 + k) z_22) _ _ _ (by omega) (by omega) (by omega) (by first | exact rd_more hI5 hDR_22 c32 c40 c54 | exact rd_stop hI5 hDR_22 hle_22 hsk_22 (by omega) | exact rd_stop hI5 hDR_22 hle_22 hsk_22 (Or.inr (Or.inr c54))) hP hD hS (lv_sub hl [1, 0, 2, 3] rfl)
        · skip
          refine lv_aload_n hx hb dX7_readDoor_35 rfl (lv_at hl 2 rfl) ?_
          refine va_get (D := D) (ci := 7) (v := .int (nI (at1 + k_22))) (C := RX7) (T := TX7) (N := 24) hx hb hts hinX7 hown hK hP 0 rfl rfl 10 (by decide) (hts (.fieldLink RX7 73 "DancedLockModel" "at" "I") (List.mem_of_getElem? (i := 3) rfl)) (fun _ h9 => h9) rfl dX7_readDoor_36 ?_
          refine lv_iload_n hx hb dX7_readDoor_39 rfl (lv_at hl 3 rfl) ?_
          refine w_icmp_ge (x := at1 + k_22) (y := en) hx hb dX7_readDoor_40 (tgt := 61) (by decide) (by omega) (by omega) (fun c40 => ?_) (fun c40 => ?_)
          · skip
            refine lv_iconst (v := nI (0)) hx hb dX7_readDoor_61 (by decide) ?_
            refine lv_istore_n (lv' := [(3, .int (nI (0))), (2, .int (nI (k + 1))), (0, .ref (b 0)), (1, .int (nI (en)))]) hx hb dX7_readDoor_62 rfl hl (by decide) rfl (fun ls hl => ?_)
            refine lv_aload_n hx hb dX7_readDoor_63 rfl (lv_at hl 2 rfl) ?_
            refine lv_dup hx hb dX7_readDoor_64 rfl ?_
            refine va_get (D := D) (ci := 7) (v := .int (nI (at1 + k_22))) (C := RX7) (T := TX7) (N := 24) hx hb hts hinX7 hown hK hP 0 rfl rfl 10 (by decide) (hts (.fieldLink RX7 73 "DancedLockModel" "at" "I") (List.mem_of_getElem? (i := 3) rfl)) (fun _ h9 => h9) rfl dX7_readDoor_65 ?_
            refine lv_iload_n hx hb dX7_readDoor_68 rfl (lv_at hl 0 rfl) ?_
            refine w_if_eq (x := 0) hx hb dX7_readDoor_69 (tgt := 76) (by decide) (by decide) (fun _ => ?_) (fun h => absurd h (by decide))
            refine lv_iconst (v := nI (0)) hx hb dX7_readDoor_76 (by decide) ?_
            refine w_iadd (x := at1 + k_22) (y := 0) hx hb dX7_readDoor_77  ?_
            rw [show (at1 + k_22) + 0 = at1 + k_22 from by omega]
            refine va_put (D := D) (ci := 7) (v := .int (nI (at1 + k_22))) (ty := .int) (C := RX7) (T := TX7) (N := 24) hx hb hts hinX7 tyX7 tyX7_ok nmX7 hown hK hP hD hS 0 rfl rfl 10 (by decide) (hts (.fieldLink RX7 73 "DancedLockModel" "at" "I") (List.mem_of_getElem? (i := 3) rfl)) (fun _ h9 => h9) rfl (by decide +kernel) rfl (rfl) (Nat.le_of_ble_eq_true rfl) dX7_readDoor_78 (fun H locs hP hD hS => ?_)
            have hP : va_P D vwCl (mW b cI cJ cZ (va_up (va_up v 10 (va_up (v 10) 0 (at1 + k_22))) 15 (va_up g15 ((v 12 0) * 6 + k) z_22)) c) H := hP
            have hD : va_D A (mW b cI cJ cZ (va_up (va_up v 10 (va_up (v 10) 0 (at1 + k_22))) 15 (va_up g15 ((v 12 0) * 6 + k) z_22)) c) := hD
            refine lv_goto (tgt := 4) hx hb dX7_readDoor_81 (by decide) ?_
            exact ih4 (k + 1) 0 (at1 + k_22) (va_up g15 ((v 12 0) * 6 + k) z_22) _ _ _ (by omega) (by omega) (by omega) (by first | exact rd_more hI5 hDR_22 c32 c40 c54 | exact rd_stop hI5 hDR_22 hle_22 hsk_22 (by omega) | exact rd_stop hI5 hDR_22 hle_22 hsk_22 (Or.inr (Or.inr c54))) hP hD hS (lv_sub hl [1, 0, 2, 3] rfl)
          · skip
            refine lv_aload_n hx hb dX7_readDoor_43 rfl (lv_at hl 2 rfl) ?_
            refine va_get (D := D) (ci := 7) (v := .ref (b 4)) (C := RX7) (T := TX7) (N := 24) hx hb hts hinX7 hown hK hP 0 rfl rfl 4 (by decide) (hts (.fieldLink RX7 16 "DancedLockModel" "cells" "[I") (List.mem_of_getElem? (i := 4) rfl)) (fun _ h9 => h9) rfl dX7_readDoor_44 ?_
            refine lv_aload_n hx hb dX7_readDoor_47 rfl (lv_at hl 2 rfl) ?_
            refine va_get (D := D) (ci := 7) (v := .int (nI (at1 + k_22))) (C := RX7) (T := TX7) (N := 24) hx hb hts hinX7 hown hK hP 0 rfl rfl 10 (by decide) (hts (.fieldLink RX7 73 "DancedLockModel" "at" "I") (List.mem_of_getElem? (i := 3) rfl)) (fun _ h9 => h9) rfl dX7_readDoor_48 ?_
            refine r_iald (f := c 4) hx hb hK hP 3 0 rfl rfl (i := at1 + k_22) (by omega) (by decide) dX7_readDoor_51 ?_
            refine lv_bipush (v := nI (44)) hx hb dX7_readDoor_52 (by decide) ?_
            refine lv_icmp_ne (x := c 4 (at1 + k_22)) (y := nI (44)) hx hb dX7_readDoor_54 (tgt := 61) (by decide) (fun c54 => ?_) (fun c54 => ?_)
            · skip
              refine lv_iconst (v := nI (0)) hx hb dX7_readDoor_61 (by decide) ?_
              refine lv_istore_n (lv' := [(3, .int (nI (0))), (2, .int (nI (k + 1))), (0, .ref (b 0)), (1, .int (nI (en)))]) hx hb dX7_readDoor_62 rfl hl (by decide) rfl (fun ls hl => ?_)
              refine lv_aload_n hx hb dX7_readDoor_63 rfl (lv_at hl 2 rfl) ?_
              refine lv_dup hx hb dX7_readDoor_64 rfl ?_
              refine va_get (D := D) (ci := 7) (v := .int (nI (at1 + k_22))) (C := RX7) (T := TX7) (N := 24) hx hb hts hinX7 hown hK hP 0 rfl rfl 10 (by decide) (hts (.fieldLink RX7 73 "DancedLockModel" "at" "I") (List.mem_of_getElem? (i := 3) rfl)) (fun _ h9 => h9) rfl dX7_readDoor_65 ?_
              refine lv_iload_n hx hb dX7_readDoor_68 rfl (lv_at hl 0 rfl) ?_
              refine w_if_eq (x := 0) hx hb dX7_readDoor_69 (tgt := 76) (by decide) (by decide) (fun _ => ?_) (fun h => absurd h (by decide))
              refine lv_iconst (v := nI (0)) hx hb dX7_readDoor_76 (by decide) ?_
              refine w_iadd (x := at1 + k_22) (y := 0) hx hb dX7_readDoor_77  ?_
              rw [show (at1 + k_22) + 0 = at1 + k_22 from by omega]
              refine va_put (D := D) (ci := 7) (v := .int (nI (at1 + k_22))) (ty := .int) (C := RX7) (T := TX7) (N := 24) hx hb hts hinX7 tyX7 tyX7_ok nmX7 hown hK hP hD hS 0 rfl rfl 10 (by decide) (hts (.fieldLink RX7 73 "DancedLockModel" "at" "I") (List.mem_of_getElem? (i := 3) rfl)) (fun _ h9 => h9) rfl (by decide +kernel) rfl (rfl) (Nat.le_of_ble_eq_true rfl) dX7_readDoor_78 (fun H locs hP hD hS => ?_)
              have hP : va_P D vwCl (mW b cI cJ cZ (va_up (va_up v 10 (va_up (v 10) 0 (at1 + k_22))) 15 (va_up g15 ((v 12 0) * 6 + k) z_22)) c) H := hP
              have hD : va_D A (mW b cI cJ cZ (va_up (va_up v 10 (va_up (v 10) 0 (at1 + k_22))) 15 (va_up g15 ((v 12 0) * 6 + k) z_22)) c) := hD
              refine lv_goto (tgt := 4) hx hb dX7_readDoor_81 (by decide) ?_
              exact ih4 (k + 1) 0 (at1 + k_22) (va_up g15 ((v 12 0) * 6 + k) z_22) _ _ _ (by omega) (by omega) (by omega) (by first | exact rd_more hI5 hDR_22 c32 c40 c54 | exact rd_stop hI5 hDR_22 hle_22 hsk_22 (by omega) | exact rd_stop hI5 hDR_22 hle_22 hsk_22 (Or.inr (Or.inr c54))) hP hD hS (lv_sub hl [1, 0, 2, 3] rfl)
            · skip
              refine lv_iconst (v := nI (1)) hx hb dX7_readDoor_57 (by decide) ?_
              refine lv_goto (tgt := 62) hx hb dX7_readDoor_58 (by decide) ?_
              refine lv_istore_n (lv' := [(3, .int (nI (1))), (2, .int (nI (k + 1))), (0, .ref (b 0)), (1, .int (nI (en)))]) hx hb dX7_readDoor_62 rfl hl (by decide) rfl (fun ls hl => ?_)
              refine lv_aload_n hx hb dX7_readDoor_63 rfl (lv_at hl 2 rfl) ?_
              refine lv_dup hx hb dX7_readDoor_64 rfl ?_
              refine va_get (D := D) (ci := 7) (v := .int (nI (at1 + k_22))) (C := RX7) (T := TX7) (N := 24) hx hb hts hinX7 hown hK hP 0 rfl rfl 10 (by decide) (hts (.fieldLink RX7 73 "DancedLockModel" "at" "I") (List.mem_of_getElem? (i := 3) rfl)) (fun _ h9 => h9) rfl dX7_readDoor_65 ?_
              refine lv_iload_n hx hb dX7_readDoor_68 rfl (lv_at hl 0 rfl) ?_
              refine w_if_eq (x := 1) hx hb dX7_readDoor_69 (tgt := 76) (by decide) (by decide) (fun h => absurd h (by decide)) (fun _ => ?_)
              refine lv_iconst (v := nI (1)) hx hb dX7_readDoor_72 (by decide) ?_
              refine lv_goto (tgt := 77) hx hb dX7_readDoor_73 (by decide) ?_
              refine w_iadd (x := at1 + k_22) (y := 1) hx hb dX7_readDoor_77  ?_
              refine va_put (D := D) (ci := 7) (v := .int (nI (at1 + k_22 + 1))) (ty := .int) (C := RX7) (T := TX7) (N := 24) hx hb hts hinX7 tyX7 tyX7_ok nmX7 hown hK hP hD hS 0 rfl rfl 10 (by decide) (hts (.fieldLink RX7 73 "DancedLockModel" "at" "I") (List.mem_of_getElem? (i := 3) rfl)) (fun _ h9 => h9) rfl (by decide +kernel) rfl (rfl) (Nat.le_of_ble_eq_true rfl) dX7_readDoor_78 (fun H locs hP hD hS => ?_)
              have hP : va_P D vwCl (mW b cI cJ cZ (va_up (va_up v 10 (va_up (v 10) 0 (at1 + k_22 + 1))) 15 (va_up g15 ((v 12 0) * 6 + k) z_22)) c) H := hP
              have hD : va_D A (mW b cI cJ cZ (va_up (va_up v 10 (va_up (v 10) 0 (at1 + k_22 + 1))) 15 (va_up g15 ((v 12 0) * 6 + k) z_22)) c) := hD
              refine lv_goto (tgt := 4) hx hb dX7_readDoor_81 (by decide) ?_
              exact ih4 (k + 1) 1 (at1 + k_22 + 1) (va_up g15 ((v 12 0) * 6 + k) z_22) _ _ _ (by omega) (by omega) (by omega) (by first | exact rd_more hI5 hDR_22 c32 c40 c54 | exact rd_stop hI5 hDR_22 hle_22 hsk_22 (by omega) | exact rd_stop hI5 hDR_22 hle_22 hsk_22 (Or.inr (Or.inr c54))) hP hD hS (lv_sub hl [1, 0, 2, 3] rfl)
  exact L4 ((7 - 0 + 1) + 1) 0 1 (v 10 0) (v 15) _ _ _ (Nat.lt_succ_self _) (by omega) (by omega) (by exact hRD) hP hD hS (lv_sub hl [1, 0, 2, 3] rfl)

set_option maxHeartbeats 4000000 in
set_option maxRecDepth 100000 in
theorem m_readLock (l : Launch) (D : va_G) (b : Nat → Nat) (cI cJ cZ : ClassId) (A : Nat → Prop) (v : Nat → Nat → Nat) (c : Nat → Nat → Int32) (en : Nat) (hB : en ≤ 320) (hae : v 10 0 ≤ en) :
    mI l yX7_readLock wsX7_readLock 4 93 [.ref (b 0), .int (nI en)] D (xT cI cJ cZ) A (mW b cI cJ cZ v c) (fun u : ((Nat → Nat → Nat) × (Nat → Nat → Int32)) => mW b cI cJ cZ u.1 u.2)
    (fun (r : Int32) (u : ((Nat → Nat → Nat) × (Nat → Nat → Int32))) => (∃ at1 : Nat, ∃ rb : Int32, ∃ rd : Nat, ∃ g13 : Nat → Int32, ∃ g14 : Nat → Nat, ∃ g15 : Nat → Nat, ∃ need : Nat → Nat, ∃ S : pS, ∃ nb : Nat, r = nI (1) ∧ u = (va_up (va_up (va_up (va_up v 10 (va_up (v 10) 0 (at1))) 12 (va_up (v 12) 0 (rd))) 14 (g14)) 15 (g15), va_up (va_up c 11 (va_up (c 11) 0 (rb))) 13 (g13)) ∧ rb = nI nb ∧ TKN (fun e => c 4 (v 10 0 + e)) (en - v 10 0) nb need S ∧ AGR S rd g14 g15 ∧ DIb nb rd g14 g15 ∧ (∀ e, e < nb → g13 e = nI (need e))) ∨ (∃ at1 : Nat, ∃ rb : Int32, ∃ rd : Nat, ∃ g13 : Nat → Int32, ∃ g14 : Nat → Nat, ∃ g15 : Nat → Nat, ∃ q : Nat, r = nI (0) ∧ u = (va_up (va_up (va_up (va_up v 10 (va_up (v 10) 0 (at1))) 12 (va_up (v 12) 0 (rd))) 14 (g14)) 15 (g15), va_up (va_up c 11 (va_up (c 11) 0 (rb))) 13 (g13)) ∧ at1 = v 10 0 + q ∧ FLT (fun e => c 4 (v 10 0 + e)) (en - v 10 0) q)) := by
  refine w_bI cX7_readLock 3 .boolean (by decide) rfl (Nat.le_of_ble_eq_true rfl) (Or.inr rfl) ?_
  intro p e s m args below meth c0 ls Q hx hb hml hts hown hK hN hA hret hP hD hS hl
  have hl : lv_has ls 3 [(0, .ref (b 0)), (1, .int (nI (en)))] := hl
  have hinX7 : ∀ w ∈ wsX70, w ∈ wsX7_readLock := fun w h => List.mem_cons_of_mem _ (List.mem_append_right _ h)
  refine lv_aload_n hx hb dX7_readLock_0 rfl (lv_at hl 0 rfl) ?_
  refine va_get (D := D) (ci := 7) (v := .int (nI (v 10 0))) (C := RX7) (T := TX7) (N := 24) hx hb hts hinX7 hown hK hP 0 rfl rfl 10 (by decide) (hts (.fieldLink RX7 73 "DancedLockModel" "at" "I") (List.mem_of_getElem? (i := 1) rfl)) (fun _ h9 => h9) rfl dX7_readLock_1 ?_
  refine lv_iload_n hx hb dX7_readLock_4 rfl (lv_at hl 1 rfl) ?_
  refine w_icmp_ge (x := v 10 0) (y := en) hx hb dX7_readLock_5 (tgt := 22) (by decide) (by omega) (by omega) (fun c5 => ?_) (fun c5 => ?_)
  · skip
    refine lv_iconst (v := nI (0)) hx hb dX7_readLock_22 (by decide) ?_
    exact hret (nI (0)) (v, c) _ _ 23 _ dX7_readLock_23 rfl (by first | exact Or.inr ⟨v 10 0, c 11 0, v 12 0, c 13, v 14, v 15, 0, rfl, Prod.ext RL_v0.symm RL_c0.symm, rfl, Or.inl ⟨rfl, Or.inl (by omega)⟩⟩ | exact Or.inr ⟨v 10 0, c 11 0, v 12 0, c 13, v 14, v 15, 0, rfl, Prod.ext RL_v0.symm RL_c0.symm, rfl, Or.inl ⟨rfl, Or.inr c19⟩⟩) hP hD hS
  · skip
    refine lv_aload_n hx hb dX7_readLock_8 rfl (lv_at hl 0 rfl) ?_
    refine va_get (D := D) (ci := 7) (v := .ref (b 4)) (C := RX7) (T := TX7) (N := 24) hx hb hts hinX7 hown hK hP 0 rfl rfl 4 (by decide) (hts (.fieldLink RX7 16 "DancedLockModel" "cells" "[I") (List.mem_of_getElem? (i := 2) rfl)) (fun _ h9 => h9) rfl dX7_readLock_9 ?_
    refine lv_aload_n hx hb dX7_readLock_12 rfl (lv_at hl 0 rfl) ?_
    refine va_get (D := D) (ci := 7) (v := .int (nI (v 10 0))) (C := RX7) (T := TX7) (N := 24) hx hb hts hinX7 hown hK hP 0 rfl rfl 10 (by decide) (hts (.fieldLink RX7 73 "DancedLockModel" "at" "I") (List.mem_of_getElem? (i := 1) rfl)) (fun _ h9 => h9) rfl dX7_readLock_13 ?_
    refine r_iald (f := c 4) hx hb hK hP 3 0 rfl rfl (i := v 10 0) (by omega) (by decide) dX7_readLock_16 ?_
    refine lv_bipush (v := nI (108)) hx hb dX7_readLock_17 (by decide) ?_
    refine lv_icmp_eq (x := c 4 (v 10 0)) (y := nI (108)) hx hb dX7_readLock_19 (tgt := 24) (by decide) (fun c19 => ?_) (fun c19 => ?_)
    · skip
      have c19b : c 4 (v 10 0) = nI 108 := c19
      refine lv_aload_n hx hb dX7_readLock_24 rfl (lv_at hl 0 rfl) ?_
      refine lv_dup hx hb dX7_readLock_25 rfl ?_
      refine va_get (D := D) (ci := 7) (v := .int (nI (v 10 0))) (C := RX7) (T := TX7) (N := 24) hx hb hts hinX7 hown hK hP 0 rfl rfl 10 (by decide) (hts (.fieldLink RX7 73 "DancedLockModel" "at" "I") (List.mem_of_getElem? (i := 1) rfl)) (fun _ h9 => h9) rfl dX7_readLock_26 ?_
      refine lv_iconst (v := nI (1)) hx hb dX7_readLock_29 (by decide) ?_
      refine w_iadd (x := v 10 0) (y := 1) hx hb dX7_readLock_30  ?_
      refine va_put (D := D) (ci := 7) (v := .int (nI (v 10 0 + 1))) (ty := .int) (C := RX7) (T := TX7) (N := 24) hx hb hts hinX7 tyX7 tyX7_ok nmX7 hown hK hP hD hS 0 rfl rfl 10 (by decide) (hts (.fieldLink RX7 73 "DancedLockModel" "at" "I") (List.mem_of_getElem? (i := 1) rfl)) (fun _ h9 => h9) rfl (by decide +kernel) rfl (rfl) (Nat.le_of_ble_eq_true rfl) dX7_readLock_31 (fun H locs hP hD hS => ?_)
      have hP : va_P D vwCl (mW b cI cJ cZ (va_up v 10 (va_up (v 10) 0 (v 10 0 + 1))) c) H := hP
      have hD : va_D A (mW b cI cJ cZ (va_up v 10 (va_up (v 10) 0 (v 10 0 + 1))) c) := hD
      refine lv_aload_n hx hb dX7_readLock_34 rfl (lv_at hl 0 rfl) ?_
      refine lv_aload_n hx hb dX7_readLock_35 rfl (lv_at hl 0 rfl) ?_
      refine lv_iload_n hx hb dX7_readLock_36 rfl (lv_at hl 1 rfl) ?_
      refine lv_iconst (v := nI (2)) hx hb dX7_readLock_37 (by decide) ?_
      refine lv_bipush (v := nI (7)) hx hb dX7_readLock_38 (by decide) ?_
      refine w_cVi (rest := [.ref (b 0)]) hx hb hml hown hts (m_digit l D b cI cJ cZ A (va_up v 10 (va_up (v 10) 0 (v 10 0 + 1))) c en 2 7  (by first | assumption | omega) (by show (v 10 0 + 1) ≤ 400; omega) (by omega) (by omega)) 3 gX7_readLock_X7_digit rfl hdX7_digit ⟨Nat.le_of_ble_eq_true rfl, Nat.le_of_ble_eq_true rfl⟩ hK hN hP hD hS hA 0 7 rfl rfl rfl rfl hl.1 rfl (Nat.le_of_ble_eq_true rfl) dX7_readLock_40 ⟨Nat.le_of_ble_eq_true rfl, Nat.le_of_ble_eq_true rfl⟩ (fun r u H locs hq hP hD hS => ?_)
      rcases hq with ⟨rfl, rfl, h_40⟩ | ⟨j_40, rfl, rfl, h0_40, h1_40, h2_40, h3_40⟩
      · skip
        have h_40 : NDG ((c 4)) en ((v 10 0 + 1)) 2 7 := h_40
        have hP : va_P D vwCl (mW b cI cJ cZ (va_up v 10 (va_up (v 10) 0 (v 10 0 + 1))) c) H := hP
        have hD : va_D A (mW b cI cJ cZ (va_up v 10 (va_up (v 10) 0 (v 10 0 + 1))) c) := hD
        refine va_put (D := D) (ci := 7) (v := .int (-9)) (ty := .int) (C := RX7) (T := TX7) (N := 24) hx hb hts hinX7 tyX7 tyX7_ok nmX7 hown hK hP hD hS 0 rfl rfl 11 (by decide) (hts (.fieldLink RX7 93 "DancedLockModel" "readBoards" "I") (List.mem_of_getElem? (i := 3) rfl)) (fun _ h9 => h9) rfl (by decide +kernel) rfl (rfl) (Nat.le_of_ble_eq_true rfl) dX7_readLock_43 (fun H locs hP hD hS => ?_)
        have hP : va_P D vwCl (mW b cI cJ cZ (va_up v 10 (va_up (v 10) 0 (v 10 0 + 1))) (va_up c 11 (va_up (c 11) 0 (-9)))) H := hP
        have hD : va_D A (mW b cI cJ cZ (va_up v 10 (va_up (v 10) 0 (v 10 0 + 1))) (va_up c 11 (va_up (c 11) 0 (-9)))) := hD
        refine lv_aload_n hx hb dX7_readLock_46 rfl (lv_at hl 0 rfl) ?_
        refine va_get (D := D) (ci := 7) (v := .int (-9)) (C := RX7) (T := TX7) (N := 24) hx hb hts hinX7 hown hK hP 0 rfl rfl 11 (by decide) (hts (.fieldLink RX7 93 "DancedLockModel" "readBoards" "I") (List.mem_of_getElem? (i := 3) rfl)) (fun _ h9 => h9) rfl dX7_readLock_47 ?_
        refine lv_bipush (v := -9) hx hb dX7_readLock_50 (by decide) ?_
        refine lv_icmp_ne hx hb dX7_readLock_52 (tgt := 57) (by decide) (fun h => absurd h (by decide)) (fun _ => ?_)
        refine lv_iconst (v := nI (0)) hx hb dX7_readLock_55 (by decide) ?_
        exact hret (nI (0)) (va_up v 10 (va_up (v 10) 0 (v 10 0 + 1)), va_up c 11 (va_up (c 11) 0 (-9))) _ _ 56 _ dX7_readLock_56 rfl (by exact Or.inr ⟨v 10 0 + 1, -9, v 12 0, c 13, v 14, v 15, 1, rfl, Prod.ext RL_v.symm RL_c.symm, rfl, Or.inr (Or.inl ⟨rfl, by omega, c19b, dg_none h_40⟩)⟩) hP hD hS
      · skip
        have h0_40 : (v 10 0 + 1) < en := h0_40
        have h3_40 : (c 4) ((v 10 0 + 1)) = nI (48 + j_40) := h3_40
        have hP : va_P D vwCl (mW b cI cJ cZ (va_up v 10 (va_up (v 10) 0 ((v 10 0 + 1) + 1))) c) H := hP
        have hD : va_D A (mW b cI cJ cZ (va_up v 10 (va_up (v 10) 0 ((v 10 0 + 1) + 1))) c) := hD
        refine va_put (D := D) (ci := 7) (v := .int (nI (j_40))) (ty := .int) (C := RX7) (T := TX7) (N := 24) hx hb hts hinX7 tyX7 tyX7_ok nmX7 hown hK hP hD hS 0 rfl rfl 11 (by decide) (hts (.fieldLink RX7 93 "DancedLockModel" "readBoards" "I") (List.mem_of_getElem? (i := 3) rfl)) (fun _ h9 => h9) rfl (by decide +kernel) rfl (rfl) (Nat.le_of_ble_eq_true rfl) dX7_readLock_43 (fun H locs hP hD hS => ?_)
        have hP : va_P D vwCl (mW b cI cJ cZ (va_up v 10 (va_up (v 10) 0 ((v 10 0 + 1) + 1))) (va_up c 11 (va_up (c 11) 0 (nI (j_40))))) H := hP
        have hD : va_D A (mW b cI cJ cZ (va_up v 10 (va_up (v 10) 0 ((v 10 0 + 1) + 1))) (va_up c 11 (va_up (c 11) 0 (nI (j_40))))) := hD
        refine lv_aload_n hx hb dX7_readLock_46 rfl (lv_at hl 0 rfl) ?_
        refine va_get (D := D) (ci := 7) (v := .int (nI (j_40))) (C := RX7) (T := TX7) (N := 24) hx hb hts hinX7 hown hK hP 0 rfl rfl 11 (by decide) (hts (.fieldLink RX7 93 "DancedLockModel" "readBoards" "I") (List.mem_of_getElem? (i := 3) rfl)) (fun _ h9 => h9) rfl dX7_readLock_47 ?_
        refine lv_bipush (v := -9) hx hb dX7_readLock_50 (by decide) ?_
        refine lv_icmp_ne hx hb dX7_readLock_52 (tgt := 57) (by decide) (fun _ => ?_) (fun h => absurd h (n_neg (by omega) (by decide)))
        have hH : HDt (fun e => c 4 (v 10 0 + e)) (en - v 10 0) j_40 := ⟨by omega, c19b, h1_40, h2_40, h3_40⟩
        refine lv_iconst (v := nI (0)) hx hb dX7_readLock_57 (by decide) ?_
        refine lv_istore_n (lv' := [(2, .int (nI (0))), (0, .ref (b 0)), (1, .int (nI (en)))]) hx hb dX7_readLock_58 rfl hl (by decide) rfl (fun ls hl => ?_)
        have L59 : ∀ (n : Nat) (i : Nat) (at1 : Nat) (g13 : Nat → Int32) (H : Heap) (locs : List Loc) (ls : Array Slot), j_40 - i < n → (i ≤ j_40) → (at1 = v 10 0 + (2 + i)) → (∀ e, e < i → 2 + e < en - v 10 0 ∧ ∃ w, 1 ≤ w ∧ w ≤ 9 ∧ g13 e = nI w ∧ c 4 (v 10 0 + (2 + e)) = nI (48 + w)) → (at1 ≤ en) → va_P D vwCl (mW b cI cJ cZ (va_up v 10 (va_up (v 10) 0 (at1))) (va_up (va_up c 11 (va_up (c 11) 0 (nI (j_40)))) 13 (g13))) H → va_D A (mW b cI cJ cZ (va_up v 10 (va_up (v 10) 0 (at1))) (va_up (va_up c 11 (va_up (c 11) 0 (nI (j_40)))) 13 (g13))) → va_S A s.heap H locs → lv_has ls 3 [(2, .int (nI (i))), (0, .ref (b 0)), (1, .int (nI (en)))] → W p l e { frames := 4, cells := 0, slots := 0, locals := 93 } s m args below meth c0 H locs 0 0 Q (F0 m 59 ls []) := by
          intro n
          induction n with
          | zero => intro i at1 g13 H locs ls hm; exact absurd hm (Nat.not_lt_zero _)
          | succ n ih59 =>
            intro i at1 g13 H locs ls hm59 hi hat2 hbs hal2 hP hD hS hl
            refine lv_iload_n hx hb dX7_readLock_59 rfl (lv_at hl 0 rfl) ?_
            refine lv_aload_n hx hb dX7_readLock_60 rfl (lv_at hl 1 rfl) ?_
            refine va_get (D := D) (ci := 7) (v := .int (nI (j_40))) (C := RX7) (T := TX7) (N := 24) hx hb hts hinX7 hown hK hP 0 rfl rfl 11 (by decide) (hts (.fieldLink RX7 93 "DancedLockModel" "readBoards" "I") (List.mem_of_getElem? (i := 3) rfl)) (fun _ h9 => h9) rfl dX7_readLock_61 ?_
            refine w_icmp_ge (x := i) (y := j_40) hx hb dX7_readLock_64 (tgt := 100) (by decide) (by omega) (by omega) (fun c64 => ?_) (fun c64 => ?_)
            · skip
              have e0 : i = j_40 := (by omega)
              rw [e0] at hat2 hbs
              obtain ⟨need, hneed, hg13⟩ := nd_ex hbs
              refine lv_aload_n hx hb dX7_readLock_100 rfl (lv_at hl 1 rfl) ?_
              refine lv_iconst (v := nI (0)) hx hb dX7_readLock_101 (by decide) ?_
              refine va_put (D := D) (ci := 7) (v := .int (nI (0))) (ty := .int) (C := RX7) (T := TX7) (N := 24) hx hb hts hinX7 tyX7 tyX7_ok nmX7 hown hK hP hD hS 0 rfl rfl 12 (by decide) (hts (.fieldLink RX7 96 "DancedLockModel" "readDoors" "I") (List.mem_of_getElem? (i := 5) rfl)) (fun _ h9 => h9) rfl (by decide +kernel) rfl (rfl) (Nat.le_of_ble_eq_true rfl) dX7_readLock_102 (fun H locs hP hD hS => ?_)
              have hP : va_P D vwCl (mW b cI cJ cZ (va_up (va_up v 10 (va_up (v 10) 0 (at1))) 12 (va_up (v 12) 0 (0))) (va_up (va_up c 11 (va_up (c 11) 0 (nI (j_40)))) 13 (g13))) H := hP
              have hD : va_D A (mW b cI cJ cZ (va_up (va_up v 10 (va_up (v 10) 0 (at1))) 12 (va_up (v 12) 0 (0))) (va_up (va_up c 11 (va_up (c 11) 0 (nI (j_40)))) 13 (g13))) := hD
              have L105 : ∀ (n : Nat) (rd : Nat) (at1 : Nat) (g14 : Nat → Nat) (g15 : Nat → Nat) (H : Heap) (locs : List Loc) (ls : Array Slot), 5 - rd < n → (DOI j_40 (c 4) en (v 10 0 + (2 + j_40)) rd at1 g14 g15) → va_P D vwCl (mW b cI cJ cZ (va_up (va_up (va_up (va_up v 10 (va_up (v 10) 0 (at1))) 12 (va_up (v 12) 0 (rd))) 14 (g14)) 15 (g15)) (va_up (va_up c 11 (va_up (c 11) 0 (nI (j_40)))) 13 (g13))) H → va_D A (mW b cI cJ cZ (va_up (va_up (va_up (va_up v 10 (va_up (v 10) 0 (at1))) 12 (va_up (v 12) 0 (rd))) 14 (g14)) 15 (g15)) (va_up (va_up c 11 (va_up (c 11) 0 (nI (j_40)))) 13 (g13))) → va_S A s.heap H locs → lv_has ls 3 [(0, .ref (b 0)), (1, .int (nI (en)))] → W p l e { frames := 4, cells := 0, slots := 0, locals := 93 } s m args below meth c0 H locs 0 0 Q (F0 m 105 ls []) := by
                intro n
                induction n with
                | zero => intro rd at1 g14 g15 H locs ls hm; exact absurd hm (Nat.not_lt_zero _)
                | succ n ih105 =>
                  intro rd at1 g14 g15 H locs ls hm105 hDO hP hD hS hl
                  have hDOI := hDO
                  have hal : at1 ≤ en := by obtain ⟨S, i, q1, q2, -⟩ := hDO; exact q2
                  have hr4 : rd ≤ 4 := by obtain ⟨S, i, q1, q2, q3, q4, q5, q6⟩ := hDO; exact q5.1
                  refine lv_aload_n hx hb dX7_readLock_105 rfl (lv_at hl 0 rfl) ?_
                  refine va_get (D := D) (ci := 7) (v := .int (nI (rd))) (C := RX7) (T := TX7) (N := 24) hx hb hts hinX7 hown hK hP 0 rfl rfl 12 (by decide) (hts (.fieldLink RX7 96 "DancedLockModel" "readDoors" "I") (List.mem_of_getElem? (i := 5) rfl)) (fun _ h9 => h9) rfl dX7_readLock_106 ?_
                  refine w_if_eq (x := rd) hx hb dX7_readLock_109 (tgt := 120) (by decide) (by omega) (fun c109 => ?_) (fun c109 => ?_)
                  · skip
                    refine lv_aload_n hx hb dX7_readLock_120 rfl (lv_at hl 0 rfl) ?_
                    refine va_get (D := D) (ci := 7) (v := .int (nI (rd))) (C := RX7) (T := TX7) (N := 24) hx hb hts hinX7 hown hK hP 0 rfl rfl 12 (by decide) (hts (.fieldLink RX7 96 "DancedLockModel" "readDoors" "I") (List.mem_of_getElem? (i := 5) rfl)) (fun _ h9 => h9) rfl dX7_readLock_121 ?_
                    refine lv_iconst (v := nI (4)) hx hb dX7_readLock_124 (by decide) ?_
                    refine w_icmp_eq (x := rd) (y := 4) hx hb dX7_readLock_125 (tgt := 150) (by decide) (by omega) (by omega) (fun c125 => ?_) (fun c125 => ?_)
                    · skip
                      refine lv_iconst (v := nI (0)) hx hb dX7_readLock_150 (by decide) ?_
                      exact hret (nI (0)) (va_up (va_up (va_up (va_up v 10 (va_up (v 10) 0 (at1))) 12 (va_up (v 12) 0 (rd))) 14 (g14)) 15 (g15), va_up (va_up c 11 (va_up (c 11) 0 (nI (j_40)))) 13 (g13)) _ _ 151 _ dX7_readLock_151 rfl (by exact Or.inr ⟨at1, nI (j_40), rd, g13, g14, g15, at1 - v 10 0, rfl, Prod.ext rfl rfl, by obtain ⟨S, i, q1, q2, -⟩ := hDO; omega, lk_fault (by omega) (by omega) hH (fun e he => ⟨(hneed e he).1, need e, (hneed e he).2.1, (hneed e he).2.2.1, (hneed e he).2.2.2⟩) hDO (by first | exact Or.inl ⟨by omega, by omega⟩ | exact Or.inr (Or.inl ⟨by omega, by omega⟩) | exact Or.inr (Or.inr ⟨by omega, c147⟩))⟩) hP hD hS
                    · skip
                      refine lv_aload_n hx hb dX7_readLock_128 rfl (lv_at hl 0 rfl) ?_
                      refine va_get (D := D) (ci := 7) (v := .int (nI (at1))) (C := RX7) (T := TX7) (N := 24) hx hb hts hinX7 hown hK hP 0 rfl rfl 10 (by decide) (hts (.fieldLink RX7 73 "DancedLockModel" "at" "I") (List.mem_of_getElem? (i := 1) rfl)) (fun _ h9 => h9) rfl dX7_readLock_129 ?_
                      refine lv_iload_n hx hb dX7_readLock_132 rfl (lv_at hl 1 rfl) ?_
                      refine w_icmp_ge (x := at1) (y := en) hx hb dX7_readLock_133 (tgt := 150) (by decide) (by omega) (by omega) (fun c133 => ?_) (fun c133 => ?_)
                      · skip
                        refine lv_iconst (v := nI (0)) hx hb dX7_readLock_150 (by decide) ?_
                        exact hret (nI (0)) (va_up (va_up (va_up (va_up v 10 (va_up (v 10) 0 (at1))) 12 (va_up (v 12) 0 (rd))) 14 (g14)) 15 (g15), va_up (va_up c 11 (va_up (c 11) 0 (nI (j_40)))) 13 (g13)) _ _ 151 _ dX7_readLock_151 rfl (by exact Or.inr ⟨at1, nI (j_40), rd, g13, g14, g15, at1 - v 10 0, rfl, Prod.ext rfl rfl, by obtain ⟨S, i, q1, q2, -⟩ := hDO; omega, lk_fault (by omega) (by omega) hH (fun e he => ⟨(hneed e he).1, need e, (hneed e he).2.1, (hneed e he).2.2.1, (hneed e he).2.2.2⟩) hDO (by first | exact Or.inl ⟨by omega, by omega⟩ | exact Or.inr (Or.inl ⟨by omega, by omega⟩) | exact Or.inr (Or.inr ⟨by omega, c147⟩))⟩) hP hD hS
                      · skip
                        refine lv_aload_n hx hb dX7_readLock_136 rfl (lv_at hl 0 rfl) ?_
                        refine va_get (D := D) (ci := 7) (v := .ref (b 4)) (C := RX7) (T := TX7) (N := 24) hx hb hts hinX7 hown hK hP 0 rfl rfl 4 (by decide) (hts (.fieldLink RX7 16 "DancedLockModel" "cells" "[I") (List.mem_of_getElem? (i := 2) rfl)) (fun _ h9 => h9) rfl dX7_readLock_137 ?_
                        refine lv_aload_n hx hb dX7_readLock_140 rfl (lv_at hl 0 rfl) ?_
                        refine va_get (D := D) (ci := 7) (v := .int (nI (at1))) (C := RX7) (T := TX7) (N := 24) hx hb hts hinX7 hown hK hP 0 rfl rfl 10 (by decide) (hts (.fieldLink RX7 73 "DancedLockModel" "at" "I") (List.mem_of_getElem? (i := 1) rfl)) (fun _ h9 => h9) rfl dX7_readLock_141 ?_
                        refine r_iald (f := c 4) hx hb hK hP 3 0 rfl rfl (i := at1) (by omega) (by decide) dX7_readLock_144 ?_
                        refine lv_bipush (v := nI (59)) hx hb dX7_readLock_145 (by decide) ?_
                        refine lv_icmp_eq (x := c 4 at1) (y := nI (59)) hx hb dX7_readLock_147 (tgt := 152) (by decide) (fun c147 => ?_) (fun c147 => ?_)
                        · skip
                          refine lv_aload_n hx hb dX7_readLock_152 rfl (lv_at hl 0 rfl) ?_
                          refine lv_dup hx hb dX7_readLock_153 rfl ?_
                          refine va_get (D := D) (ci := 7) (v := .int (nI (at1))) (C := RX7) (T := TX7) (N := 24) hx hb hts hinX7 hown hK hP 0 rfl rfl 10 (by decide) (hts (.fieldLink RX7 73 "DancedLockModel" "at" "I") (List.mem_of_getElem? (i := 1) rfl)) (fun _ h9 => h9) rfl dX7_readLock_154 ?_
                          refine lv_iconst (v := nI (1)) hx hb dX7_readLock_157 (by decide) ?_
                          refine w_iadd (x := at1) (y := 1) hx hb dX7_readLock_158  ?_
                          refine va_put (D := D) (ci := 7) (v := .int (nI (at1 + 1))) (ty := .int) (C := RX7) (T := TX7) (N := 24) hx hb hts hinX7 tyX7 tyX7_ok nmX7 hown hK hP hD hS 0 rfl rfl 10 (by decide) (hts (.fieldLink RX7 73 "DancedLockModel" "at" "I") (List.mem_of_getElem? (i := 1) rfl)) (fun _ h9 => h9) rfl (by decide +kernel) rfl (rfl) (Nat.le_of_ble_eq_true rfl) dX7_readLock_159 (fun H locs hP hD hS => ?_)
                          have hP : va_P D vwCl (mW b cI cJ cZ (va_up (va_up (va_up (va_up v 10 (va_up (v 10) 0 (at1 + 1))) 12 (va_up (v 12) 0 (rd))) 14 (g14)) 15 (g15)) (va_up (va_up c 11 (va_up (c 11) 0 (nI (j_40)))) 13 (g13))) H := hP
                          have hD : va_D A (mW b cI cJ cZ (va_up (va_up (va_up (va_up v 10 (va_up (v 10) 0 (at1 + 1))) 12 (va_up (v 12) 0 (rd))) 14 (g14)) 15 (g15)) (va_up (va_up c 11 (va_up (c 11) 0 (nI (j_40)))) 13 (g13))) := hD
                          refine lv_aload_n hx hb dX7_readLock_162 rfl (lv_at hl 0 rfl) ?_
                          refine lv_iload_n hx hb dX7_readLock_163 rfl (lv_at hl 1 rfl) ?_
                          refine w_cVv (rest := []) hx hb hml hown hts (m_readDoor l D b cI cJ cZ A (va_up (va_up (va_up (va_up v 10 (va_up (v 10) 0 (at1 + 1))) 12 (va_up (v 12) 0 (rd))) 14 (g14)) 15 (g15)) (va_up (va_up c 11 (va_up (c 11) 0 (nI (j_40)))) 13 (g13)) en j_40 (v 10 0 + (2 + j_40)) (by first | assumption | omega) (by show (nI (j_40)) = nI j_40; rfl) (by first | assumption | omega) (by first | assumption | omega) (by show rd < 4; omega) (by show RDI j_40 ((c 4)) en (v 10 0 + (2 + j_40)) (rd) 0 1 ((at1 + 1)) (g14) (g15); exact rd_open hDO (by omega) c133 c147)) 1 gX7_readLock_X7_readDoor rfl hdX7_readDoor ⟨Nat.le_of_ble_eq_true rfl, Nat.le_of_ble_eq_true rfl⟩ hK hN hP hD hS hA 0 7 rfl rfl rfl rfl hl.1 rfl (Nat.le_of_ble_eq_true rfl) dX7_readLock_164 ⟨Nat.le_of_ble_eq_true rfl, Nat.le_of_ble_eq_true rfl⟩ (fun u H locs hq hP hD hS => ?_)
                          obtain ⟨at1_164, g14_164, g15_164, rfl, hDO_164⟩ := hq
                          have hDO_164 : DOI j_40 ((c 4)) en (v 10 0 + (2 + j_40)) (rd + 1) at1_164 g14_164 g15_164 := hDO_164
                          have hP : va_P D vwCl (mW b cI cJ cZ (va_up (va_up (va_up (va_up v 10 (va_up (v 10) 0 (at1_164))) 12 (va_up (v 12) 0 (rd + 1))) 14 (g14_164)) 15 (g15_164)) (va_up (va_up c 11 (va_up (c 11) 0 (nI (j_40)))) 13 (g13))) H := hP
                          have hD : va_D A (mW b cI cJ cZ (va_up (va_up (va_up (va_up v 10 (va_up (v 10) 0 (at1_164))) 12 (va_up (v 12) 0 (rd + 1))) 14 (g14_164)) 15 (g15_164)) (va_up (va_up c 11 (va_up (c 11) 0 (nI (j_40)))) 13 (g13))) := hD
                          refine lv_goto (tgt := 105) hx hb dX7_readLock_167 (by decide) ?_
                          exact ih105 (rd + 1) at1_164 g14_164 g15_164 _ _ _ (by omega) (by exact hDO_164) hP hD hS (lv_sub hl [0, 1] rfl)
                        · skip
                          refine lv_iconst (v := nI (0)) hx hb dX7_readLock_150 (by decide) ?_
                          exact hret (nI (0)) (va_up (va_up (va_up (va_up v 10 (va_up (v 10) 0 (at1))) 12 (va_up (v 12) 0 (rd))) 14 (g14)) 15 (g15), va_up (va_up c 11 (va_up (c 11) 0 (nI (j_40)))) 13 (g13)) _ _ 151 _ dX7_readLock_151 rfl (by exact Or.inr ⟨at1, nI (j_40), rd, g13, g14, g15, at1 - v 10 0, rfl, Prod.ext rfl rfl, by obtain ⟨S, i, q1, q2, -⟩ := hDO; omega, lk_fault (by omega) (by omega) hH (fun e he => ⟨(hneed e he).1, need e, (hneed e he).2.1, (hneed e he).2.2.1, (hneed e he).2.2.2⟩) hDO (by first | exact Or.inl ⟨by omega, by omega⟩ | exact Or.inr (Or.inl ⟨by omega, by omega⟩) | exact Or.inr (Or.inr ⟨by omega, c147⟩))⟩) hP hD hS
                  · skip
                    refine lv_aload_n hx hb dX7_readLock_112 rfl (lv_at hl 0 rfl) ?_
                    refine va_get (D := D) (ci := 7) (v := .int (nI (at1))) (C := RX7) (T := TX7) (N := 24) hx hb hts hinX7 hown hK hP 0 rfl rfl 10 (by decide) (hts (.fieldLink RX7 73 "DancedLockModel" "at" "I") (List.mem_of_getElem? (i := 1) rfl)) (fun _ h9 => h9) rfl dX7_readLock_113 ?_
                    refine lv_iload_n hx hb dX7_readLock_116 rfl (lv_at hl 1 rfl) ?_
                    refine w_icmp_ge (x := at1) (y := en) hx hb dX7_readLock_117 (tgt := 170) (by decide) (by omega) (by omega) (fun c117 => ?_) (fun c117 => ?_)
                    · skip
                      refine lv_iconst (v := nI (1)) hx hb dX7_readLock_170 (by decide) ?_
                      exact hret (nI (1)) (va_up (va_up (va_up (va_up v 10 (va_up (v 10) 0 (at1))) 12 (va_up (v 12) 0 (rd))) 14 (g14)) 15 (g15), va_up (va_up c 11 (va_up (c 11) 0 (nI (j_40)))) 13 (g13)) _ _ 171 _ dX7_readLock_171 rfl (by obtain ⟨S, q1, q2, q3⟩ := lk_taken hH hneed hDO (by omega) c117; exact Or.inl ⟨at1, nI (j_40), rd, g13, g14, g15, need, S, j_40, rfl, Prod.ext rfl rfl, rfl, q1, q2, q3, hg13⟩) hP hD hS
                    · skip
                      refine lv_aload_n hx hb dX7_readLock_120 rfl (lv_at hl 0 rfl) ?_
                      refine va_get (D := D) (ci := 7) (v := .int (nI (rd))) (C := RX7) (T := TX7) (N := 24) hx hb hts hinX7 hown hK hP 0 rfl rfl 12 (by decide) (hts (.fieldLink RX7 96 "DancedLockModel" "readDoors" "I") (List.mem_of_getElem? (i := 5) rfl)) (fun _ h9 => h9) rfl dX7_readLock_121 ?_
                      refine lv_iconst (v := nI (4)) hx hb dX7_readLock_124 (by decide) ?_
                      refine w_icmp_eq (x := rd) (y := 4) hx hb dX7_readLock_125 (tgt := 150) (by decide) (by omega) (by omega) (fun c125 => ?_) (fun c125 => ?_)
                      · skip
                        refine lv_iconst (v := nI (0)) hx hb dX7_readLock_150 (by decide) ?_
                        exact hret (nI (0)) (va_up (va_up (va_up (va_up v 10 (va_up (v 10) 0 (at1))) 12 (va_up (v 12) 0 (rd))) 14 (g14)) 15 (g15), va_up (va_up c 11 (va_up (c 11) 0 (nI (j_40)))) 13 (g13)) _ _ 151 _ dX7_readLock_151 rfl (by exact Or.inr ⟨at1, nI (j_40), rd, g13, g14, g15, at1 - v 10 0, rfl, Prod.ext rfl rfl, by obtain ⟨S, i, q1, q2, -⟩ := hDO; omega, lk_fault (by omega) (by omega) hH (fun e he => ⟨(hneed e he).1, need e, (hneed e he).2.1, (hneed e he).2.2.1, (hneed e he).2.2.2⟩) hDO (by first | exact Or.inl ⟨by omega, by omega⟩ | exact Or.inr (Or.inl ⟨by omega, by omega⟩) | exact Or.inr (Or.inr ⟨by omega, c147⟩))⟩) hP hD hS
                      · skip
                        refine lv_aload_n hx hb dX7_readLock_128 rfl (lv_at hl 0 rfl) ?_
                        refine va_get (D := D) (ci := 7) (v := .int (nI (at1))) (C := RX7) (T := TX7) (N := 24) hx hb hts hinX7 hown hK hP 0 rfl rfl 10 (by decide) (hts (.fieldLink RX7 73 "DancedLockModel" "at" "I") (List.mem_of_getElem? (i := 1) rfl)) (fun _ h9 => h9) rfl dX7_readLock_129 ?_
                        refine lv_iload_n hx hb dX7_readLock_132 rfl (lv_at hl 1 rfl) ?_
                        refine w_icmp_ge (x := at1) (y := en) hx hb dX7_readLock_133 (tgt := 150) (by decide) (by omega) (by omega) (fun c133 => ?_) (fun c133 => ?_)
                        · skip
                          refine lv_iconst (v := nI (0)) hx hb dX7_readLock_150 (by decide) ?_
                          exact hret (nI (0)) (va_up (va_up (va_up (va_up v 10 (va_up (v 10) 0 (at1))) 12 (va_up (v 12) 0 (rd))) 14 (g14)) 15 (g15), va_up (va_up c 11 (va_up (c 11) 0 (nI (j_40)))) 13 (g13)) _ _ 151 _ dX7_readLock_151 rfl (by exact Or.inr ⟨at1, nI (j_40), rd, g13, g14, g15, at1 - v 10 0, rfl, Prod.ext rfl rfl, by obtain ⟨S, i, q1, q2, -⟩ := hDO; omega, lk_fault (by omega) (by omega) hH (fun e he => ⟨(hneed e he).1, need e, (hneed e he).2.1, (hneed e he).2.2.1, (hneed e he).2.2.2⟩) hDO (by first | exact Or.inl ⟨by omega, by omega⟩ | exact Or.inr (Or.inl ⟨by omega, by omega⟩) | exact Or.inr (Or.inr ⟨by omega, c147⟩))⟩) hP hD hS
                        · skip
                          refine lv_aload_n hx hb dX7_readLock_136 rfl (lv_at hl 0 rfl) ?_
                          refine va_get (D := D) (ci := 7) (v := .ref (b 4)) (C := RX7) (T := TX7) (N := 24) hx hb hts hinX7 hown hK hP 0 rfl rfl 4 (by decide) (hts (.fieldLink RX7 16 "DancedLockModel" "cells" "[I") (List.mem_of_getElem? (i := 2) rfl)) (fun _ h9 => h9) rfl dX7_readLock_137 ?_
                          refine lv_aload_n hx hb dX7_readLock_140 rfl (lv_at hl 0 rfl) ?_
                          refine va_get (D := D) (ci := 7) (v := .int (nI (at1))) (C := RX7) (T := TX7) (N := 24) hx hb hts hinX7 hown hK hP 0 rfl rfl 10 (by decide) (hts (.fieldLink RX7 73 "DancedLockModel" "at" "I") (List.mem_of_getElem? (i := 1) rfl)) (fun _ h9 => h9) rfl dX7_readLock_141 ?_
                          refine r_iald (f := c 4) hx hb hK hP 3 0 rfl rfl (i := at1) (by omega) (by decide) dX7_readLock_144 ?_
                          refine lv_bipush (v := nI (59)) hx hb dX7_readLock_145 (by decide) ?_
                          refine lv_icmp_eq (x := c 4 at1) (y := nI (59)) hx hb dX7_readLock_147 (tgt := 152) (by decide) (fun c147 => ?_) (fun c147 => ?_)
                          · skip
                            refine lv_aload_n hx hb dX7_readLock_152 rfl (lv_at hl 0 rfl) ?_
                            refine lv_dup hx hb dX7_readLock_153 rfl ?_
                            refine va_get (D := D) (ci := 7) (v := .int (nI (at1))) (C := RX7) (T := TX7) (N := 24) hx hb hts hinX7 hown hK hP 0 rfl rfl 10 (by decide) (hts (.fieldLink RX7 73 "DancedLockModel" "at" "I") (List.mem_of_getElem? (i := 1) rfl)) (fun _ h9 => h9) rfl dX7_readLock_154 ?_
                            refine lv_iconst (v := nI (1)) hx hb dX7_readLock_157 (by decide) ?_
                            refine w_iadd (x := at1) (y := 1) hx hb dX7_readLock_158  ?_
                            refine va_put (D := D) (ci := 7) (v := .int (nI (at1 + 1))) (ty := .int) (C := RX7) (T := TX7) (N := 24) hx hb hts hinX7 tyX7 tyX7_ok nmX7 hown hK hP hD hS 0 rfl rfl 10 (by decide) (hts (.fieldLink RX7 73 "DancedLockModel" "at" "I") (List.mem_of_getElem? (i := 1) rfl)) (fun _ h9 => h9) rfl (by decide +kernel) rfl (rfl) (Nat.le_of_ble_eq_true rfl) dX7_readLock_159 (fun H locs hP hD hS => ?_)
                            have hP : va_P D vwCl (mW b cI cJ cZ (va_up (va_up (va_up (va_up v 10 (va_up (v 10) 0 (at1 + 1))) 12 (va_up (v 12) 0 (rd))) 14 (g14)) 15 (g15)) (va_up (va_up c 11 (va_up (c 11) 0 (nI (j_40)))) 13 (g13))) H := hP
                            have hD : va_D A (mW b cI cJ cZ (va_up (va_up (va_up (va_up v 10 (va_up (v 10) 0 (at1 + 1))) 12 (va_up (v 12) 0 (rd))) 14 (g14)) 15 (g15)) (va_up (va_up c 11 (va_up (c 11) 0 (nI (j_40)))) 13 (g13))) := hD
                            refine lv_aload_n hx hb dX7_readLock_162 rfl (lv_at hl 0 rfl) ?_
                            refine lv_iload_n hx hb dX7_readLock_163 rfl (lv_at hl 1 rfl) ?_
                            refine w_cVv (rest := []) hx hb hml hown hts (m_readDoor l D b cI cJ cZ A (va_up (va_up (va_up (va_up v 10 (va_up (v 10) 0 (at1 + 1))) 12 (va_up (v 12) 0 (rd))) 14 (g14)) 15 (g15)) (va_up (va_up c 11 (va_up (c 11) 0 (nI (j_40)))) 13 (g13)) en j_40 (v 10 0 + (2 + j_40)) (by first | assumption | omega) (by show (nI (j_40)) = nI j_40; rfl) (by first | assumption | omega) (by first | assumption | omega) (by show rd < 4; omega) (by show RDI j_40 ((c 4)) en (v 10 0 + (2 + j_40)) (rd) 0 1 ((at1 + 1)) (g14) (g15); exact rd_open hDO (by omega) c133 c147)) 1 gX7_readLock_X7_readDoor rfl hdX7_readDoor ⟨Nat.le_of_ble_eq_true rfl, Nat.le_of_ble_eq_true rfl⟩ hK hN hP hD hS hA 0 7 rfl rfl rfl rfl hl.1 rfl (Nat.le_of_ble_eq_true rfl) dX7_readLock_164 ⟨Nat.le_of_ble_eq_true rfl, Nat.le_of_ble_eq_true rfl⟩ (fun u H locs hq hP hD hS => ?_)
                            obtain ⟨at1_164, g14_164, g15_164, rfl, hDO_164⟩ := hq
                            have hDO_164 : DOI j_40 ((c 4)) en (v 10 0 + (2 + j_40)) (rd + 1) at1_164 g14_164 g15_164 := hDO_164
                            have hP : va_P D vwCl (mW b cI cJ cZ (va_up (va_up (va_up (va_up v 10 (va_up (v 10) 0 (at1_164))) 12 (va_up (v 12) 0 (rd + 1))) 14 (g14_164)) 15 (g15_164)) (va_up (va_up c 11 (va_up (c 11) 0 (nI (j_40)))) 13 (g13))) H := hP
                            have hD : va_D A (mW b cI cJ cZ (va_up (va_up (va_up (va_up v 10 (va_up (v 10) 0 (at1_164))) 12 (va_up (v 12) 0 (rd + 1))) 14 (g14_164)) 15 (g15_164)) (va_up (va_up c 11 (va_up (c 11) 0 (nI (j_40)))) 13 (g13))) := hD
                            refine lv_goto (tgt := 105) hx hb dX7_readLock_167 (by decide) ?_
                            exact ih105 (rd + 1) at1_164 g14_164 g15_164 _ _ _ (by omega) (by exact hDO_164) hP hD hS (lv_sub hl [0, 1] rfl)
                          · skip
                            refine lv_iconst (v := nI (0)) hx hb dX7_readLock_150 (by decide) ?_
                            exact hret (nI (0)) (va_up (va_up (va_up (va_up v 10 (va_up (v 10) 0 (at1))) 12 (va_up (v 12) 0 (rd))) 14 (g14)) 15 (g15), va_up (va_up c 11 (va_up (c 11) 0 (nI (j_40)))) 13 (g13)) _ _ 151 _ dX7_readLock_151 rfl (by exact Or.inr ⟨at1, nI (j_40), rd, g13, g14, g15, at1 - v 10 0, rfl, Prod.ext rfl rfl, by obtain ⟨S, i, q1, q2, -⟩ := hDO; omega, lk_fault (by omega) (by omega) hH (fun e he => ⟨(hneed e he).1, need e, (hneed e he).2.1, (hneed e he).2.2.1, (hneed e he).2.2.2⟩) hDO (by first | exact Or.inl ⟨by omega, by omega⟩ | exact Or.inr (Or.inl ⟨by omega, by omega⟩) | exact Or.inr (Or.inr ⟨by omega, c147⟩))⟩) hP hD hS
              exact L105 ((5 - 0) + 1) 0 at1 (v 14) (v 15) _ _ _ (Nat.lt_succ_self _) (by rw [hat2]; exact do_0 (by omega)) hP hD hS (lv_sub hl [1, 2] rfl)
            · skip
              refine lv_aload_n hx hb dX7_readLock_67 rfl (lv_at hl 1 rfl) ?_
              refine va_get (D := D) (ci := 7) (v := .ref (b 13)) (C := RX7) (T := TX7) (N := 24) hx hb hts hinX7 hown hK hP 0 rfl rfl 13 (by decide) (hts (.fieldLink RX7 28 "DancedLockModel" "readFrom" "[I") (List.mem_of_getElem? (i := 4) rfl)) (fun _ h9 => h9) rfl dX7_readLock_68 ?_
              refine lv_iload_n hx hb dX7_readLock_71 rfl (lv_at hl 0 rfl) ?_
              refine lv_aload_n hx hb dX7_readLock_72 rfl (lv_at hl 1 rfl) ?_
              refine lv_iload_n hx hb dX7_readLock_73 rfl (lv_at hl 2 rfl) ?_
              refine lv_iconst (v := nI (1)) hx hb dX7_readLock_74 (by decide) ?_
              refine lv_bipush (v := nI (9)) hx hb dX7_readLock_75 (by decide) ?_
              refine w_cVi (rest := [.int (nI (i)), .ref (b 13)]) hx hb hml hown hts (m_digit l D b cI cJ cZ A (va_up v 10 (va_up (v 10) 0 (at1))) (va_up (va_up c 11 (va_up (c 11) 0 (nI (j_40)))) 13 (g13)) en 1 9  (by first | assumption | omega) (by show at1 ≤ 400; omega) (by omega) (by omega)) 3 gX7_readLock_X7_digit rfl hdX7_digit ⟨Nat.le_of_ble_eq_true rfl, Nat.le_of_ble_eq_true rfl⟩ hK hN hP hD hS hA 0 7 rfl rfl rfl rfl hl.1 rfl (Nat.le_of_ble_eq_true rfl) dX7_readLock_77 ⟨Nat.le_of_ble_eq_true rfl, Nat.le_of_ble_eq_true rfl⟩ (fun r u H locs hq hP hD hS => ?_)
              rcases hq with ⟨rfl, rfl, h_77⟩ | ⟨j_77, rfl, rfl, h0_77, h1_77, h2_77, h3_77⟩
              · skip
                have h_77 : NDG ((c 4)) en (at1) 1 9 := h_77
                have hP : va_P D vwCl (mW b cI cJ cZ (va_up v 10 (va_up (v 10) 0 (at1))) (va_up (va_up c 11 (va_up (c 11) 0 (nI (j_40)))) 13 (g13))) H := hP
                have hD : va_D A (mW b cI cJ cZ (va_up v 10 (va_up (v 10) 0 (at1))) (va_up (va_up c 11 (va_up (c 11) 0 (nI (j_40)))) 13 (g13))) := hD
                refine r_iast (f := g13) (w := -9) hx hb hK hP hD hS 7 0 rfl rfl (i := i) (by omega) (by decide) dX7_readLock_80 (fun H locs hP hD hS => ?_)
                have hP : va_P D vwCl (mW b cI cJ cZ (va_up v 10 (va_up (v 10) 0 (at1))) (va_up (va_up c 11 (va_up (c 11) 0 (nI (j_40)))) 13 (va_up g13 i (-9)))) H := hP
                have hD : va_D A (mW b cI cJ cZ (va_up v 10 (va_up (v 10) 0 (at1))) (va_up (va_up c 11 (va_up (c 11) 0 (nI (j_40)))) 13 (va_up g13 i (-9)))) := hD
                refine lv_aload_n hx hb dX7_readLock_81 rfl (lv_at hl 1 rfl) ?_
                refine va_get (D := D) (ci := 7) (v := .ref (b 13)) (C := RX7) (T := TX7) (N := 24) hx hb hts hinX7 hown hK hP 0 rfl rfl 13 (by decide) (hts (.fieldLink RX7 28 "DancedLockModel" "readFrom" "[I") (List.mem_of_getElem? (i := 4) rfl)) (fun _ h9 => h9) rfl dX7_readLock_82 ?_
                refine lv_iload_n hx hb dX7_readLock_85 rfl (lv_at hl 0 rfl) ?_
                refine r_iald (f := va_up g13 i (-9)) hx hb hK hP 7 0 rfl rfl (i := i) (by omega) (by decide) dX7_readLock_86 ?_
                rw [show ((va_up g13 i (-9)) i) = (-9) from up_eqA]
                refine lv_bipush (v := -9) hx hb dX7_readLock_87 (by decide) ?_
                refine lv_icmp_ne hx hb dX7_readLock_89 (tgt := 94) (by decide) (fun h => absurd h (by decide)) (fun _ => ?_)
                refine lv_iconst (v := nI (0)) hx hb dX7_readLock_92 (by decide) ?_
                exact hret (nI (0)) (va_up v 10 (va_up (v 10) 0 (at1)), va_up (va_up c 11 (va_up (c 11) 0 (nI (j_40)))) 13 (va_up g13 i (-9))) _ _ 93 _ dX7_readLock_93 rfl (by exact Or.inr ⟨at1, nI (j_40), v 12 0, va_up g13 i (-9), v 14, v 15, 2 + i, rfl, Prod.ext RL_v.symm rfl, hat2, Or.inr (Or.inr (Or.inl ⟨j_40, hH, i, by omega, rfl, fun e he => ⟨(hbs e he).1, by obtain ⟨w, q1, q2, q3, q4⟩ := (hbs e he).2; exact ⟨w, q1, q2, q4⟩⟩, dg_fail hat2 h_77⟩))⟩) hP hD hS
              · skip
                have h0_77 : at1 < en := h0_77
                have h3_77 : (c 4) (at1) = nI (48 + j_77) := h3_77
                have hP : va_P D vwCl (mW b cI cJ cZ (va_up v 10 (va_up (v 10) 0 (at1 + 1))) (va_up (va_up c 11 (va_up (c 11) 0 (nI (j_40)))) 13 (g13))) H := hP
                have hD : va_D A (mW b cI cJ cZ (va_up v 10 (va_up (v 10) 0 (at1 + 1))) (va_up (va_up c 11 (va_up (c 11) 0 (nI (j_40)))) 13 (g13))) := hD
                refine r_iast (f := g13) (w := nI (j_77)) hx hb hK hP hD hS 7 0 rfl rfl (i := i) (by omega) (by decide) dX7_readLock_80 (fun H locs hP hD hS => ?_)
                have hP : va_P D vwCl (mW b cI cJ cZ (va_up v 10 (va_up (v 10) 0 (at1 + 1))) (va_up (va_up c 11 (va_up (c 11) 0 (nI (j_40)))) 13 (va_up g13 i (nI (j_77))))) H := hP
                have hD : va_D A (mW b cI cJ cZ (va_up v 10 (va_up (v 10) 0 (at1 + 1))) (va_up (va_up c 11 (va_up (c 11) 0 (nI (j_40)))) 13 (va_up g13 i (nI (j_77))))) := hD
                refine lv_aload_n hx hb dX7_readLock_81 rfl (lv_at hl 1 rfl) ?_
                refine va_get (D := D) (ci := 7) (v := .ref (b 13)) (C := RX7) (T := TX7) (N := 24) hx hb hts hinX7 hown hK hP 0 rfl rfl 13 (by decide) (hts (.fieldLink RX7 28 "DancedLockModel" "readFrom" "[I") (List.mem_of_getElem? (i := 4) rfl)) (fun _ h9 => h9) rfl dX7_readLock_82 ?_
                refine lv_iload_n hx hb dX7_readLock_85 rfl (lv_at hl 0 rfl) ?_
                refine r_iald (f := va_up g13 i (nI (j_77))) hx hb hK hP 7 0 rfl rfl (i := i) (by omega) (by decide) dX7_readLock_86 ?_
                rw [show ((va_up g13 i (nI (j_77))) i) = (nI (j_77)) from up_eqA]
                refine lv_bipush (v := -9) hx hb dX7_readLock_87 (by decide) ?_
                refine lv_icmp_ne hx hb dX7_readLock_89 (tgt := 94) (by decide) (fun _ => ?_) (fun h => absurd h (n_neg (by omega) (by decide)))
                refine lv_iinc (v := nI (i + 1)) (lv' := [(2, .int (nI (i + 1))), (0, .ref (b 0)), (1, .int (nI (en)))]) hx hb dX7_readLock_94 hl (k := 0) rfl (nI_add i 1) (by decide) rfl (fun ls hl => ?_)
                refine lv_goto (tgt := 59) hx hb dX7_readLock_97 (by decide) ?_
                exact ih59 (i + 1) (at1 + 1) (va_up g13 i (nI (j_77))) _ _ _ (by omega) (by omega) (by omega) (by exact nb_st hbs ⟨by omega, h1_77, h2_77, by have h9 := h3_77; rw [hat2] at h9; exact h9⟩) (by omega) hP hD hS (lv_sub hl [0, 1, 2] rfl)
        exact L59 ((j_40 - 0) + 1) 0 ((v 10 0 + 1) + 1) (c 13) _ _ _ (Nat.lt_succ_self _) (by omega) (by omega) (by exact fun e he => absurd he (Nat.not_lt_zero _)) (by omega) hP hD hS (lv_sub hl [0, 1, 2] rfl)
    · skip
      refine lv_iconst (v := nI (0)) hx hb dX7_readLock_22 (by decide) ?_
      exact hret (nI (0)) (v, c) _ _ 23 _ dX7_readLock_23 rfl (by first | exact Or.inr ⟨v 10 0, c 11 0, v 12 0, c 13, v 14, v 15, 0, rfl, Prod.ext RL_v0.symm RL_c0.symm, rfl, Or.inl ⟨rfl, Or.inl (by omega)⟩⟩ | exact Or.inr ⟨v 10 0, c 11 0, v 12 0, c 13, v 14, v 15, 0, rfl, Prod.ext RL_v0.symm RL_c0.symm, rfl, Or.inl ⟨rfl, Or.inr c19⟩⟩) hP hD hS
