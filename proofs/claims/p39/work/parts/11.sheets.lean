/-! ===== sheets, what several calls share ===== -/
theorem z_cases (z : Int32) : z = 0 ∨ z = 1 ∨ (¬ z = 0 ∧ ¬ z = 1) := by
  by_cases h0 : z = 0
  · exact Or.inl h0
  · by_cases h1 : z = 1
    · exact Or.inr (Or.inl h1)
    · exact Or.inr (Or.inr ⟨h0, h1⟩)
set_option maxHeartbeats 4000000 in
set_option maxRecDepth 100000 in
theorem k_sincl_N (l : Launch) (D : va_G) (a : Nat → Nat) (cI cJ cZ : ClassId) (A : Nat → Prop) (v : Nat → Nat → Nat) (c : Nat → Nat → Int32) (x : Nat) (hB : x < 2147483648) :
    mI l yX3_includes wsX3_includes 0 0 [.ref (a 1), .int (nI x)] D (xT cI cJ cZ) A (xW a cI cJ cZ v c) (fun _ : Unit => xW a cI cJ cZ v c)
    (fun (r : Int32) (u : Unit) => (r = nI (1) ∧ x < 4) ∨ (r = nI (0) ∧ 4 ≤ x)) := by
  refine w_bI cX3_includes 2 .boolean (by decide) rfl (Nat.le_of_ble_eq_true rfl) (Or.inr rfl) ?_
  intro p e s m args below meth c0 ls Q hx hb hml hts hown hK hN hA hret hP hD hS hl
  have hl : lv_has ls 2 [(0, .ref (a 1)), (1, .int (nI (x)))] := hl
  refine lv_iload_n hx hb dX3_includes_0 rfl (lv_at hl 1 rfl) ?_
  refine w_if_lt (x := x) hx hb dX3_includes_1 (tgt := 13) (by decide) (by omega) ?_
  refine lv_iload_n hx hb dX3_includes_4 rfl (lv_at hl 1 rfl) ?_
  refine lv_iconst (v := nI (4)) hx hb dX3_includes_5 (by decide) ?_
  refine w_icmp_ge (x := x) (y := 4) hx hb dX3_includes_6 (tgt := 13) (by decide) (by omega) (by omega) (fun c6 => ?_) (fun c6 => ?_)
  · skip
    refine lv_iconst (v := nI (0)) hx hb dX3_includes_13 (by decide) ?_
    exact hret (nI (0)) () _ _ 14 _ dX3_includes_14 rfl (by exact Or.inr ⟨rfl, by omega⟩) hP hD hS
  · skip
    refine lv_iconst (v := nI (1)) hx hb dX3_includes_9 (by decide) ?_
    refine lv_goto (tgt := 14) hx hb dX3_includes_10 (by decide) ?_
    exact hret (nI (1)) () _ _ 14 _ dX3_includes_14 rfl (by exact Or.inl ⟨rfl, by omega⟩) hP hD hS

set_option maxHeartbeats 4000000 in
set_option maxRecDepth 100000 in
theorem k_sincl_R (l : Launch) (D : va_G) (a : Nat → Nat) (cI cJ cZ : ClassId) (A : Nat → Prop) (v : Nat → Nat → Nat) (c : Nat → Nat → Int32) (x : Int32) :
    mI l yX3_includes wsX3_includes 0 0 [.ref (a 1), .int x] D (xT cI cJ cZ) A (xW a cI cJ cZ v c) (fun _ : Unit => xW a cI cJ cZ v c)
    (fun (r : Int32) (u : Unit) => (∃ j : Nat, r = nI (1) ∧ j < 4 ∧ x = nI j) ∨ (r = nI (0) ∧ (x.toInt < 0 ∨ 4 ≤ x.toInt))) := by
  refine w_bI cX3_includes 2 .boolean (by decide) rfl (Nat.le_of_ble_eq_true rfl) (Or.inr rfl) ?_
  intro p e s m args below meth c0 ls Q hx hb hml hts hown hK hN hA hret hP hD hS hl
  have hl : lv_has ls 2 [(0, .ref (a 1)), (1, .int x)] := hl
  refine lv_iload_n hx hb dX3_includes_0 rfl (lv_at hl 1 rfl) ?_
  refine r_if_lt hx hb dX3_includes_1 (tgt := 13) (by decide) (fun c1 => ?_) (fun c1 => ?_)
  · skip
    refine lv_iconst (v := nI (0)) hx hb dX3_includes_13 (by decide) ?_
    exact hret (nI (0)) () _ _ 14 _ dX3_includes_14 rfl (by exact Or.inr ⟨rfl, by omega⟩) hP hD hS
  · skip
    obtain ⟨x', x'B, rfl⟩ := r_nat c1
    have x'T := n_tI x'B
    refine lv_iload_n hx hb dX3_includes_4 rfl (lv_at hl 1 rfl) ?_
    refine lv_iconst (v := nI (4)) hx hb dX3_includes_5 (by decide) ?_
    refine w_icmp_ge (x := x') (y := 4) hx hb dX3_includes_6 (tgt := 13) (by decide) (by omega) (by omega) (fun c6 => ?_) (fun c6 => ?_)
    · skip
      refine lv_iconst (v := nI (0)) hx hb dX3_includes_13 (by decide) ?_
      exact hret (nI (0)) () _ _ 14 _ dX3_includes_14 rfl (by exact Or.inr ⟨rfl, by omega⟩) hP hD hS
    · skip
      refine lv_iconst (v := nI (1)) hx hb dX3_includes_9 (by decide) ?_
      refine lv_goto (tgt := 14) hx hb dX3_includes_10 (by decide) ?_
      exact hret (nI (1)) () _ _ 14 _ dX3_includes_14 rfl (by exact Or.inl ⟨x', rfl, by omega, rfl⟩) hP hD hS

set_option maxHeartbeats 4000000 in
set_option maxRecDepth 100000 in
theorem k_sortOf (l : Launch) (D : va_G) (a : Nat → Nat) (cI cJ cZ : ClassId) (A : Nat → Prop) (v : Nat → Nat → Nat) (c : Nat → Nat → Int32) (k : Nat) (hk : k < 4) :
    mI l yX3_sortOf wsX3_sortOf 1 21 [.ref (a 1), .int (nI k)] D (xT cI cJ cZ) A (xW a cI cJ cZ v c) (fun _ : Unit => xW a cI cJ cZ v c)
    (fun (r : Int32) (u : Unit) => r = c 2 k) := by
  refine w_bI cX3_sortOf 2 .int (by decide) rfl (Nat.le_of_ble_eq_true rfl) (Or.inl rfl) ?_
  intro p e s m args below meth c0 ls Q hx hb hml hts hown hK hN hA hret hP hD hS hl
  have hl : lv_has ls 2 [(0, .ref (a 1)), (1, .int (nI (k)))] := hl
  have hinX3 : ∀ w ∈ wsX30, w ∈ wsX3_sortOf := fun w h => List.mem_cons_of_mem _ (List.mem_append_right _ h)
  refine lv_aload_n hx hb dX3_sortOf_0 rfl (lv_at hl 0 rfl) ?_
  refine lv_iload_n hx hb dX3_sortOf_1 rfl (lv_at hl 1 rfl) ?_
  refine w_cVi (rest := []) hx hb hml hown hts (k_sincl_N l D a cI cJ cZ A v c k  (by first | assumption | omega)) 1 gX3_sortOf_X3_includes rfl hdX3_includes ⟨Nat.le_of_ble_eq_true rfl, Nat.le_of_ble_eq_true rfl⟩ hK hN hP hD hS hA 1 3 rfl rfl rfl rfl hl.1 rfl (Nat.le_of_ble_eq_true rfl) dX3_sortOf_2 ⟨Nat.le_of_ble_eq_true rfl, Nat.le_of_ble_eq_true rfl⟩ (fun r u H locs hq hP hD hS => ?_)
  rcases hq with ⟨rfl, h_2⟩ | ⟨rfl, h_2⟩
  · skip
    have hP : va_P D vwCl (xW a cI cJ cZ v c) H := hP
    have hD : va_D A (xW a cI cJ cZ v c) := hD
    refine w_if_eq (x := 1) hx hb dX3_sortOf_5 (tgt := 17) (by decide) (by decide) (fun h => absurd h (by decide)) (fun _ => ?_)
    refine lv_aload_n hx hb dX3_sortOf_8 rfl (lv_at hl 0 rfl) ?_
    refine va_get (D := D) (ci := 3) (v := .ref (a 2)) (C := RX3) (T := TX3) (N := 3) hx hb hts hinX3 hown hK hP 1 rfl rfl 0 (by decide) (hts (.fieldLink RX3 11 "DancedLock$Sheets" "sorts" "[I") (List.mem_of_getElem? (i := 1) rfl)) (fun _ h9 => h9) rfl dX3_sortOf_9 ?_
    refine lv_iload_n hx hb dX3_sortOf_12 rfl (lv_at hl 1 rfl) ?_
    refine r_iald (f := c 2) hx hb hK hP 2 0 rfl rfl (i := k) (by omega) (by decide) dX3_sortOf_13 ?_
    refine lv_goto (tgt := 18) hx hb dX3_sortOf_14 (by decide) ?_
    exact hret (c 2 k) () _ _ 18 _ dX3_sortOf_18 rfl (by rfl) hP hD hS
  · skip
    exfalso; omega

set_option maxHeartbeats 4000000 in
set_option maxRecDepth 100000 in
theorem k_isNothing (l : Launch) (D : va_G) (a : Nat → Nat) (cI cJ cZ : ClassId) (A : Nat → Prop) (v : Nat → Nat → Nat) (c : Nat → Nat → Int32) (k : Nat) (hk : k < 4) :
    mI l yX3_isNothing wsX3_isNothing 2 42 [.ref (a 1), .int (nI k)] D (xT cI cJ cZ) A (xW a cI cJ cZ v c) (fun _ : Unit => xW a cI cJ cZ v c)
    (fun (r : Int32) (u : Unit) => (r = nI (1) ∧ c 2 k = -1) ∨ (r = nI (0) ∧ c 2 k ≠ -1)) := by
  refine w_bI cX3_isNothing 2 .boolean (by decide) rfl (Nat.le_of_ble_eq_true rfl) (Or.inr rfl) ?_
  intro p e s m args below meth c0 ls Q hx hb hml hts hown hK hN hA hret hP hD hS hl
  have hl : lv_has ls 2 [(0, .ref (a 1)), (1, .int (nI (k)))] := hl
  refine lv_aload_n hx hb dX3_isNothing_0 rfl (lv_at hl 0 rfl) ?_
  refine lv_iload_n hx hb dX3_isNothing_1 rfl (lv_at hl 1 rfl) ?_
  refine w_cVi (rest := []) hx hb hml hown hts (k_sortOf l D a cI cJ cZ A v c k  (by first | assumption | omega)) 1 gX3_isNothing_X3_sortOf rfl hdX3_sortOf ⟨Nat.le_of_ble_eq_true rfl, Nat.le_of_ble_eq_true rfl⟩ hK hN hP hD hS hA 1 3 rfl rfl rfl rfl hl.1 rfl (Nat.le_of_ble_eq_true rfl) dX3_isNothing_2 ⟨Nat.le_of_ble_eq_true rfl, Nat.le_of_ble_eq_true rfl⟩ (fun r u H locs hq hP hD hS => ?_)
  obtain rfl := hq
  have hP : va_P D vwCl (xW a cI cJ cZ v c) H := hP
  have hD : va_D A (xW a cI cJ cZ v c) := hD
  refine lv_iconst (v := -1) hx hb dX3_isNothing_5 (by decide) ?_
  refine lv_icmp_ne (x := (c 2) k) (y := (-1)) hx hb dX3_isNothing_6 (tgt := 13) (by decide) (fun c6 => ?_) (fun c6 => ?_)
  · skip
    refine lv_iconst (v := nI (0)) hx hb dX3_isNothing_13 (by decide) ?_
    exact hret (nI (0)) () _ _ 14 _ dX3_isNothing_14 rfl (by exact Or.inr ⟨rfl, c6⟩) hP hD hS
  · skip
    refine lv_iconst (v := nI (1)) hx hb dX3_isNothing_9 (by decide) ?_
    refine lv_goto (tgt := 14) hx hb dX3_isNothing_10 (by decide) ?_
    exact hret (nI (1)) () _ _ 14 _ dX3_isNothing_14 rfl (by exact Or.inl ⟨rfl, c6⟩) hP hD hS

set_option maxHeartbeats 4000000 in
set_option maxRecDepth 100000 in
theorem k_lengthOf (l : Launch) (D : va_G) (a : Nat → Nat) (cI cJ cZ : ClassId) (A : Nat → Prop) (v : Nat → Nat → Nat) (c : Nat → Nat → Int32) (k : Nat) (hk : k < 4) :
    mI l yX3_lengthOf wsX3_lengthOf 1 21 [.ref (a 1), .int (nI k)] D (xT cI cJ cZ) A (xW a cI cJ cZ v c) (fun _ : Unit => xW a cI cJ cZ v c)
    (fun (r : Int32) (u : Unit) => r = nI (v 3 k)) := by
  refine w_bI cX3_lengthOf 2 .int (by decide) rfl (Nat.le_of_ble_eq_true rfl) (Or.inl rfl) ?_
  intro p e s m args below meth c0 ls Q hx hb hml hts hown hK hN hA hret hP hD hS hl
  have hl : lv_has ls 2 [(0, .ref (a 1)), (1, .int (nI (k)))] := hl
  have hinX3 : ∀ w ∈ wsX30, w ∈ wsX3_lengthOf := fun w h => List.mem_cons_of_mem _ (List.mem_append_right _ h)
  refine lv_aload_n hx hb dX3_lengthOf_0 rfl (lv_at hl 0 rfl) ?_
  refine lv_iload_n hx hb dX3_lengthOf_1 rfl (lv_at hl 1 rfl) ?_
  refine w_cVi (rest := []) hx hb hml hown hts (k_sincl_N l D a cI cJ cZ A v c k  (by first | assumption | omega)) 1 gX3_lengthOf_X3_includes rfl hdX3_includes ⟨Nat.le_of_ble_eq_true rfl, Nat.le_of_ble_eq_true rfl⟩ hK hN hP hD hS hA 1 3 rfl rfl rfl rfl hl.1 rfl (Nat.le_of_ble_eq_true rfl) dX3_lengthOf_2 ⟨Nat.le_of_ble_eq_true rfl, Nat.le_of_ble_eq_true rfl⟩ (fun r u H locs hq hP hD hS => ?_)
  rcases hq with ⟨rfl, h_2⟩ | ⟨rfl, h_2⟩
  · skip
    have hP : va_P D vwCl (xW a cI cJ cZ v c) H := hP
    have hD : va_D A (xW a cI cJ cZ v c) := hD
    refine w_if_eq (x := 1) hx hb dX3_lengthOf_5 (tgt := 17) (by decide) (by decide) (fun h => absurd h (by decide)) (fun _ => ?_)
    refine lv_aload_n hx hb dX3_lengthOf_8 rfl (lv_at hl 0 rfl) ?_
    refine va_get (D := D) (ci := 3) (v := .ref (a 3)) (C := RX3) (T := TX3) (N := 3) hx hb hts hinX3 hown hK hP 1 rfl rfl 1 (by decide) (hts (.fieldLink RX3 15 "DancedLock$Sheets" "lengths" "[I") (List.mem_of_getElem? (i := 1) rfl)) (fun _ h9 => h9) rfl dX3_lengthOf_9 ?_
    refine lv_iload_n hx hb dX3_lengthOf_12 rfl (lv_at hl 1 rfl) ?_
    refine w_iald (f := v 3) hx hb hK hP 3 0 rfl rfl (i := k) (by omega) (by decide) dX3_lengthOf_13 ?_
    refine lv_goto (tgt := 18) hx hb dX3_lengthOf_14 (by decide) ?_
    exact hret (nI (v 3 k)) () _ _ 18 _ dX3_lengthOf_18 rfl (by rfl) hP hD hS
  · skip
    exfalso; omega

set_option maxHeartbeats 4000000 in
set_option maxRecDepth 100000 in
theorem k_renew (l : Launch) (D : va_G) (a : Nat → Nat) (cI cJ cZ : ClassId) (A : Nat → Prop) (v : Nat → Nat → Nat) (c : Nat → Nat → Int32) (k : Nat) (so : Int32) (q : Nat) (hk : k < 4) (hq : q ≤ 80) :
    mV l yX3_renew wsX3_renew 2 46 [.ref (a 1), .int (nI k), .int so, .int (nI q)] D (xT cI cJ cZ) A (xW a cI cJ cZ v c) (fun u : ((Nat → Nat → Nat) × (Nat → Nat → Int32)) => xW a cI cJ cZ u.1 u.2)
    (fun (u : ((Nat → Nat → Nat) × (Nat → Nat → Int32))) => u = (va_up v 3 (va_up (v 3) k q), va_up (va_up c 2 (va_up (c 2) k so)) 4 (flf (c 4) (k * 80) (k * 80 + q) 0))) := by
  refine w_bV cX3_renew 4 (by decide) rfl (Nat.le_of_ble_eq_true rfl) ?_
  intro p e s m args below meth c0 ls Q hx hb hml hts hown hK hN hA hret hP hD hS hl
  have hl : lv_has ls 4 [(0, .ref (a 1)), (1, .int (nI (k))), (2, .int so), (3, .int (nI (q)))] := hl
  have hinX3 : ∀ w ∈ wsX30, w ∈ wsX3_renew := fun w h => List.mem_cons_of_mem _ (List.mem_append_right _ h)
  refine lv_aload_n hx hb dX3_renew_0 rfl (lv_at hl 0 rfl) ?_
  refine lv_iload_n hx hb dX3_renew_1 rfl (lv_at hl 1 rfl) ?_
  refine w_cVi (rest := []) hx hb hml hown hts (k_sincl_N l D a cI cJ cZ A v c k  (by first | assumption | omega)) 1 gX3_renew_X3_includes rfl hdX3_includes ⟨Nat.le_of_ble_eq_true rfl, Nat.le_of_ble_eq_true rfl⟩ hK hN hP hD hS hA 1 3 rfl rfl rfl rfl hl.1 rfl (Nat.le_of_ble_eq_true rfl) dX3_renew_2 ⟨Nat.le_of_ble_eq_true rfl, Nat.le_of_ble_eq_true rfl⟩ (fun r u H locs hq hP hD hS => ?_)
  rcases hq with ⟨rfl, h_2⟩ | ⟨rfl, h_2⟩
  · skip
    have hP : va_P D vwCl (xW a cI cJ cZ v c) H := hP
    have hD : va_D A (xW a cI cJ cZ v c) := hD
    refine w_if_eq (x := 1) hx hb dX3_renew_5 (tgt := 50) (by decide) (by decide) (fun h => absurd h (by decide)) (fun _ => ?_)
    refine lv_iload_n hx hb dX3_renew_8 rfl (lv_at hl 3 rfl) ?_
    refine w_if_lt (x := q) hx hb dX3_renew_9 (tgt := 50) (by decide) (by omega) ?_
    refine lv_iload_n hx hb dX3_renew_12 rfl (lv_at hl 3 rfl) ?_
    refine lv_bipush (v := nI (80)) hx hb dX3_renew_13 (by decide) ?_
    refine w_icmp_gt (x := q) (y := 80) hx hb dX3_renew_15 (tgt := 50) (by decide) (by omega) (by omega) (fun c15 => absurd c15 (by omega)) (fun c15 => ?_)
    refine lv_aload_n hx hb dX3_renew_18 rfl (lv_at hl 0 rfl) ?_
    refine va_get (D := D) (ci := 3) (v := .ref (a 2)) (C := RX3) (T := TX3) (N := 3) hx hb hts hinX3 hown hK hP 1 rfl rfl 0 (by decide) (hts (.fieldLink RX3 11 "DancedLock$Sheets" "sorts" "[I") (List.mem_of_getElem? (i := 1) rfl)) (fun _ h9 => h9) rfl dX3_renew_19 ?_
    refine lv_iload_n hx hb dX3_renew_22 rfl (lv_at hl 1 rfl) ?_
    refine lv_iload_n hx hb dX3_renew_23 rfl (lv_at hl 2 rfl) ?_
    refine r_iast (f := c 2) (w := so) hx hb hK hP hD hS 2 0 rfl rfl (i := k) (by omega) (by decide) dX3_renew_24 (fun H locs hP hD hS => ?_)
    have hP : va_P D vwCl (xW a cI cJ cZ v (va_up c 2 (va_up (c 2) k so))) H := hP
    have hD : va_D A (xW a cI cJ cZ v (va_up c 2 (va_up (c 2) k so))) := hD
    refine lv_aload_n hx hb dX3_renew_25 rfl (lv_at hl 0 rfl) ?_
    refine va_get (D := D) (ci := 3) (v := .ref (a 3)) (C := RX3) (T := TX3) (N := 3) hx hb hts hinX3 hown hK hP 1 rfl rfl 1 (by decide) (hts (.fieldLink RX3 15 "DancedLock$Sheets" "lengths" "[I") (List.mem_of_getElem? (i := 2) rfl)) (fun _ h9 => h9) rfl dX3_renew_26 ?_
    refine lv_iload_n hx hb dX3_renew_29 rfl (lv_at hl 1 rfl) ?_
    refine lv_iload_n hx hb dX3_renew_30 rfl (lv_at hl 3 rfl) ?_
    refine w_iast (f := v 3) (w := q) hx hb hK hP hD hS 3 0 rfl rfl (i := k) (by omega) (by decide) dX3_renew_31 (fun H locs hP hD hS => ?_)
    have hP : va_P D vwCl (xW a cI cJ cZ (va_up v 3 (va_up (v 3) k q)) (va_up c 2 (va_up (c 2) k so))) H := hP
    have hD : va_D A (xW a cI cJ cZ (va_up v 3 (va_up (v 3) k q)) (va_up c 2 (va_up (c 2) k so))) := hD
    refine lv_aload_n hx hb dX3_renew_32 rfl (lv_at hl 0 rfl) ?_
    refine va_get (D := D) (ci := 3) (v := .ref (a 4)) (C := RX3) (T := TX3) (N := 3) hx hb hts hinX3 hown hK hP 1 rfl rfl 2 (by decide) (hts (.fieldLink RX3 18 "DancedLock$Sheets" "cells" "[I") (List.mem_of_getElem? (i := 3) rfl)) (fun _ h9 => h9) rfl dX3_renew_33 ?_
    refine lv_iload_n hx hb dX3_renew_36 rfl (lv_at hl 1 rfl) ?_
    refine lv_bipush (v := nI (80)) hx hb dX3_renew_37 (by decide) ?_
    refine w_imul (x := k) (y := 80) hx hb dX3_renew_39  ?_
    refine lv_iload_n hx hb dX3_renew_40 rfl (lv_at hl 1 rfl) ?_
    refine lv_bipush (v := nI (80)) hx hb dX3_renew_41 (by decide) ?_
    refine w_imul (x := k) (y := 80) hx hb dX3_renew_43  ?_
    refine lv_iload_n hx hb dX3_renew_44 rfl (lv_at hl 3 rfl) ?_
    refine w_iadd (x := k * 80) (y := q) hx hb dX3_renew_45  ?_
    refine lv_iconst (v := nI (0)) hx hb dX3_renew_46 (by decide) ?_
    refine w_cSv (rest := []) hx hb hml hown hts (k_fillCells l D a cI cJ cZ A (va_up v 3 (va_up (v 3) k q)) (va_up c 2 (va_up (c 2) k so)) (k * 80) (k * 80 + q)  (by first | assumption | omega) (by first | assumption | omega)) 4 gX3_renew_J7_fill_fda19 rfl hdJ7_fill_fda19 ⟨Nat.le_of_ble_eq_true rfl, Nat.le_of_ble_eq_true rfl⟩ hK hN hP hD hS hA rfl hl.1 rfl (Nat.le_of_ble_eq_true rfl) dX3_renew_47 ⟨Nat.le_of_ble_eq_true rfl, Nat.le_of_ble_eq_true rfl⟩ (fun u H locs hq hP hD hS => ?_)
    obtain rfl := hq
    have hP : va_P D vwCl (xW a cI cJ cZ (va_up v 3 (va_up (v 3) k q)) (va_up (va_up c 2 (va_up (c 2) k so)) 4 (flf ((c 4)) (k * 80) (k * 80 + q) 0))) H := hP
    have hD : va_D A (xW a cI cJ cZ (va_up v 3 (va_up (v 3) k q)) (va_up (va_up c 2 (va_up (c 2) k so)) 4 (flf ((c 4)) (k * 80) (k * 80 + q) 0))) := hD
    exact hret (va_up v 3 (va_up (v 3) k q), va_up (va_up c 2 (va_up (c 2) k so)) 4 (flf ((c 4)) (k * 80) (k * 80 + q) 0)) _ _ 50 _ dX3_renew_50 (by rfl) hP hD hS
  · skip
    exfalso; omega

set_option maxHeartbeats 4000000 in
set_option maxRecDepth 100000 in
theorem k_hasCells (l : Launch) (D : va_G) (a : Nat → Nat) (cI cJ cZ : ClassId) (A : Nat → Prop) (v : Nat → Nat → Nat) (c : Nat → Nat → Int32) (k : Nat) (i : Int32) (q : Int32) (hk : k < 4) (hlen : v 3 k ≤ 80) :
    mI l yX3_hasCells wsX3_hasCells 2 42 [.ref (a 1), .int (nI k), .int i, .int q] D (xT cI cJ cZ) A (xW a cI cJ cZ v c) (fun _ : Unit => xW a cI cJ cZ v c)
    (fun (r : Int32) (u : Unit) => (r = nI (1) ∧ 0 ≤ i.toInt ∧ 0 ≤ q.toInt ∧ i.toInt + q.toInt ≤ v 3 k) ∨ (r = nI (0) ∧ (i.toInt < 0 ∨ q.toInt < 0 ∨ (v 3 k : Int) < i.toInt + q.toInt))) := by
  refine w_bI cX3_hasCells 4 .boolean (by decide) rfl (Nat.le_of_ble_eq_true rfl) (Or.inr rfl) ?_
  intro p e s m args below meth c0 ls Q hx hb hml hts hown hK hN hA hret hP hD hS hl
  have hl : lv_has ls 4 [(0, .ref (a 1)), (1, .int (nI (k))), (2, .int i), (3, .int q)] := hl
  refine lv_iload_n hx hb dX3_hasCells_0 rfl (lv_at hl 2 rfl) ?_
  refine r_if_lt hx hb dX3_hasCells_1 (tgt := 32) (by decide) (fun c1 => ?_) (fun c1 => ?_)
  · skip
    refine lv_iconst (v := nI (0)) hx hb dX3_hasCells_32 (by decide) ?_
    exact hret (nI (0)) () _ _ 33 _ dX3_hasCells_33 rfl (by exact Or.inr ⟨rfl, by omega⟩) hP hD hS
  · skip
    obtain ⟨i', i'B, rfl⟩ := r_nat c1
    have i'T := n_tI i'B
    refine lv_iload_n hx hb dX3_hasCells_4 rfl (lv_at hl 2 rfl) ?_
    refine lv_aload_n hx hb dX3_hasCells_5 rfl (lv_at hl 0 rfl) ?_
    refine lv_iload_n hx hb dX3_hasCells_6 rfl (lv_at hl 1 rfl) ?_
    refine w_cVi (rest := [.int (nI (i'))]) hx hb hml hown hts (k_lengthOf l D a cI cJ cZ A v c k  (by first | assumption | omega)) 1 gX3_hasCells_X3_lengthOf rfl hdX3_lengthOf ⟨Nat.le_of_ble_eq_true rfl, Nat.le_of_ble_eq_true rfl⟩ hK hN hP hD hS hA 1 3 rfl rfl rfl rfl hl.1 rfl (Nat.le_of_ble_eq_true rfl) dX3_hasCells_7 ⟨Nat.le_of_ble_eq_true rfl, Nat.le_of_ble_eq_true rfl⟩ (fun r u H locs hq hP hD hS => ?_)
    obtain rfl := hq
    have hP : va_P D vwCl (xW a cI cJ cZ v c) H := hP
    have hD : va_D A (xW a cI cJ cZ v c) := hD
    refine w_icmp_gt (x := i') (y := (v 3) k) hx hb dX3_hasCells_10 (tgt := 32) (by decide) (by omega) (by omega) (fun c10 => ?_) (fun c10 => ?_)
    · skip
      refine lv_iconst (v := nI (0)) hx hb dX3_hasCells_32 (by decide) ?_
      exact hret (nI (0)) () _ _ 33 _ dX3_hasCells_33 rfl (by exact Or.inr ⟨rfl, by omega⟩) hP hD hS
    · skip
      refine lv_iload_n hx hb dX3_hasCells_13 rfl (lv_at hl 3 rfl) ?_
      refine r_if_lt hx hb dX3_hasCells_14 (tgt := 32) (by decide) (fun c14 => ?_) (fun c14 => ?_)
      · skip
        refine lv_iconst (v := nI (0)) hx hb dX3_hasCells_32 (by decide) ?_
        exact hret (nI (0)) () _ _ 33 _ dX3_hasCells_33 rfl (by exact Or.inr ⟨rfl, by omega⟩) hP hD hS
      · skip
        obtain ⟨q', q'B, rfl⟩ := r_nat c14
        have q'T := n_tI q'B
        refine lv_iload_n hx hb dX3_hasCells_17 rfl (lv_at hl 3 rfl) ?_
        refine lv_aload_n hx hb dX3_hasCells_18 rfl (lv_at hl 0 rfl) ?_
        refine lv_iload_n hx hb dX3_hasCells_19 rfl (lv_at hl 1 rfl) ?_
        refine w_cVi (rest := [.int (nI (q'))]) hx hb hml hown hts (k_lengthOf l D a cI cJ cZ A v c k  (by first | assumption | omega)) 1 gX3_hasCells_X3_lengthOf rfl hdX3_lengthOf ⟨Nat.le_of_ble_eq_true rfl, Nat.le_of_ble_eq_true rfl⟩ hK hN hP hD hS hA 1 3 rfl rfl rfl rfl hl.1 rfl (Nat.le_of_ble_eq_true rfl) dX3_hasCells_20 ⟨Nat.le_of_ble_eq_true rfl, Nat.le_of_ble_eq_true rfl⟩ (fun r u H locs hq hP hD hS => ?_)
        obtain rfl := hq
        have hP : va_P D vwCl (xW a cI cJ cZ v c) H := hP
        have hD : va_D A (xW a cI cJ cZ v c) := hD
        refine lv_iload_n hx hb dX3_hasCells_23 rfl (lv_at hl 2 rfl) ?_
        refine w_isub (x := (v 3) k) (y := i') hx hb dX3_hasCells_24 (by omega) ?_
        refine w_icmp_gt (x := q') (y := ((v 3) k) - i') hx hb dX3_hasCells_25 (tgt := 32) (by decide) (by omega) (by omega) (fun c25 => ?_) (fun c25 => ?_)
        · skip
          refine lv_iconst (v := nI (0)) hx hb dX3_hasCells_32 (by decide) ?_
          exact hret (nI (0)) () _ _ 33 _ dX3_hasCells_33 rfl (by exact Or.inr ⟨rfl, by omega⟩) hP hD hS
        · skip
          refine lv_iconst (v := nI (1)) hx hb dX3_hasCells_28 (by decide) ?_
          refine lv_goto (tgt := 33) hx hb dX3_hasCells_29 (by decide) ?_
          exact hret (nI (1)) () _ _ 33 _ dX3_hasCells_33 rfl (by exact Or.inl ⟨rfl, by omega, by omega, by omega⟩) hP hD hS

set_option maxHeartbeats 4000000 in
set_option maxRecDepth 100000 in
theorem k_faultOfCells (l : Launch) (D : va_G) (a : Nat → Nat) (cI cJ cZ : ClassId) (A : Nat → Prop) (v : Nat → Nat → Nat) (c : Nat → Nat → Int32) (k : Nat) (z : Int32) (i : Int32) (q : Int32) (hk : k < 4) (hlen : v 3 k ≤ 80) :
    mI l yX3_faultOfCells wsX3_faultOfCells 3 65 [.ref (a 1), .int (nI k), .int z, .int i, .int q] D (xT cI cJ cZ) A (xW a cI cJ cZ v c) (fun _ : Unit => xW a cI cJ cZ v c)
    (fun (r : Int32) (u : Unit) => (r = nI (1) ∧ c 2 k = -1) ∨ (r = nI (2) ∧ c 2 k ≠ -1 ∧ c 2 k ≠ z) ∨ (r = nI (4) ∧ c 2 k ≠ -1 ∧ c 2 k = z ∧ q.toInt < 0) ∨ (r = nI (3) ∧ c 2 k ≠ -1 ∧ c 2 k = z ∧ 0 ≤ q.toInt ∧ (i.toInt < 0 ∨ (v 3 k : Int) < i.toInt + q.toInt)) ∨ (r = nI (0) ∧ c 2 k ≠ -1 ∧ c 2 k = z ∧ 0 ≤ i.toInt ∧ 0 ≤ q.toInt ∧ i.toInt + q.toInt ≤ v 3 k)) := by
  refine w_bI cX3_faultOfCells 5 .int (by decide) rfl (Nat.le_of_ble_eq_true rfl) (Or.inl rfl) ?_
  intro p e s m args below meth c0 ls Q hx hb hml hts hown hK hN hA hret hP hD hS hl
  have hl : lv_has ls 5 [(0, .ref (a 1)), (1, .int (nI (k))), (2, .int z), (3, .int i), (4, .int q)] := hl
  refine lv_aload_n hx hb dX3_faultOfCells_0 rfl (lv_at hl 0 rfl) ?_
  refine lv_iload_n hx hb dX3_faultOfCells_1 rfl (lv_at hl 1 rfl) ?_
  refine w_cVi (rest := []) hx hb hml hown hts (k_isNothing l D a cI cJ cZ A v c k  (by first | assumption | omega)) 1 gX3_faultOfCells_X3_isNothing rfl hdX3_isNothing ⟨Nat.le_of_ble_eq_true rfl, Nat.le_of_ble_eq_true rfl⟩ hK hN hP hD hS hA 1 3 rfl rfl rfl rfl hl.1 rfl (Nat.le_of_ble_eq_true rfl) dX3_faultOfCells_2 ⟨Nat.le_of_ble_eq_true rfl, Nat.le_of_ble_eq_true rfl⟩ (fun r u H locs hq hP hD hS => ?_)
  rcases hq with ⟨rfl, h_2⟩ | ⟨rfl, h_2⟩
  · skip
    have hP : va_P D vwCl (xW a cI cJ cZ v c) H := hP
    have hD : va_D A (xW a cI cJ cZ v c) := hD
    refine w_if_eq (x := 1) hx hb dX3_faultOfCells_5 (tgt := 10) (by decide) (by decide) (fun h => absurd h (by decide)) (fun _ => ?_)
    refine lv_iconst (v := nI (1)) hx hb dX3_faultOfCells_8 (by decide) ?_
    exact hret (nI (1)) () _ _ 9 _ dX3_faultOfCells_9 rfl (by exact Or.inl ⟨rfl, h_2⟩) hP hD hS
  · skip
    have hP : va_P D vwCl (xW a cI cJ cZ v c) H := hP
    have hD : va_D A (xW a cI cJ cZ v c) := hD
    refine w_if_eq (x := 0) hx hb dX3_faultOfCells_5 (tgt := 10) (by decide) (by decide) (fun _ => ?_) (fun h => absurd h (by decide))
    refine lv_aload_n hx hb dX3_faultOfCells_10 rfl (lv_at hl 0 rfl) ?_
    refine lv_iload_n hx hb dX3_faultOfCells_11 rfl (lv_at hl 1 rfl) ?_
    refine w_cVi (rest := []) hx hb hml hown hts (k_sortOf l D a cI cJ cZ A v c k  (by first | assumption | omega)) 1 gX3_faultOfCells_X3_sortOf rfl hdX3_sortOf ⟨Nat.le_of_ble_eq_true rfl, Nat.le_of_ble_eq_true rfl⟩ hK hN hP hD hS hA 1 3 rfl rfl rfl rfl hl.1 rfl (Nat.le_of_ble_eq_true rfl) dX3_faultOfCells_12 ⟨Nat.le_of_ble_eq_true rfl, Nat.le_of_ble_eq_true rfl⟩ (fun r u H locs hq hP hD hS => ?_)
    obtain rfl := hq
    have hP : va_P D vwCl (xW a cI cJ cZ v c) H := hP
    have hD : va_D A (xW a cI cJ cZ v c) := hD
    refine lv_iload_n hx hb dX3_faultOfCells_15 rfl (lv_at hl 2 rfl) ?_
    refine lv_icmp_eq (x := (c 2) k) (y := z) hx hb dX3_faultOfCells_16 (tgt := 21) (by decide) (fun c16 => ?_) (fun c16 => ?_)
    · skip
      refine lv_iload hx hb dX3_faultOfCells_21 (lv_at hl 4 rfl) ?_
      refine r_if_ge hx hb dX3_faultOfCells_23 (tgt := 28) (by decide) (fun c23 => ?_) (fun c23 => ?_)
      · skip
        refine lv_aload_n hx hb dX3_faultOfCells_28 rfl (lv_at hl 0 rfl) ?_
        refine lv_iload_n hx hb dX3_faultOfCells_29 rfl (lv_at hl 1 rfl) ?_
        refine lv_iload_n hx hb dX3_faultOfCells_30 rfl (lv_at hl 3 rfl) ?_
        refine lv_iload hx hb dX3_faultOfCells_31 (lv_at hl 4 rfl) ?_
        refine w_cVi (rest := []) hx hb hml hown hts (k_hasCells l D a cI cJ cZ A v c k i q  (by first | assumption | omega) (by first | assumption | omega)) 3 gX3_faultOfCells_X3_hasCells rfl hdX3_hasCells ⟨Nat.le_of_ble_eq_true rfl, Nat.le_of_ble_eq_true rfl⟩ hK hN hP hD hS hA 1 3 rfl rfl rfl rfl hl.1 rfl (Nat.le_of_ble_eq_true rfl) dX3_faultOfCells_33 ⟨Nat.le_of_ble_eq_true rfl, Nat.le_of_ble_eq_true rfl⟩ (fun r u H locs hq hP hD hS => ?_)
        rcases hq with ⟨rfl, h1_33, h2_33, h3_33⟩ | ⟨rfl, h_33⟩
        · skip
          have hP : va_P D vwCl (xW a cI cJ cZ v c) H := hP
          have hD : va_D A (xW a cI cJ cZ v c) := hD
          refine w_if_eq (x := 1) hx hb dX3_faultOfCells_36 (tgt := 43) (by decide) (by decide) (fun h => absurd h (by decide)) (fun _ => ?_)
          refine lv_iconst (v := nI (0)) hx hb dX3_faultOfCells_39 (by decide) ?_
          refine lv_goto (tgt := 44) hx hb dX3_faultOfCells_40 (by decide) ?_
          exact hret (nI (0)) () _ _ 44 _ dX3_faultOfCells_44 rfl (by exact Or.inr (Or.inr (Or.inr (Or.inr ⟨rfl, h_2, c16, by omega, by omega, by omega⟩)))) hP hD hS
        · skip
          have hP : va_P D vwCl (xW a cI cJ cZ v c) H := hP
          have hD : va_D A (xW a cI cJ cZ v c) := hD
          refine w_if_eq (x := 0) hx hb dX3_faultOfCells_36 (tgt := 43) (by decide) (by decide) (fun _ => ?_) (fun h => absurd h (by decide))
          refine lv_iconst (v := nI (3)) hx hb dX3_faultOfCells_43 (by decide) ?_
          exact hret (nI (3)) () _ _ 44 _ dX3_faultOfCells_44 rfl (by exact Or.inr (Or.inr (Or.inr (Or.inl ⟨rfl, h_2, c16, by omega, by omega⟩)))) hP hD hS
      · skip
        refine lv_iconst (v := nI (4)) hx hb dX3_faultOfCells_26 (by decide) ?_
        exact hret (nI (4)) () _ _ 27 _ dX3_faultOfCells_27 rfl (by exact Or.inr (Or.inr (Or.inl ⟨rfl, h_2, c16, by omega⟩))) hP hD hS
    · skip
      refine lv_iconst (v := nI (2)) hx hb dX3_faultOfCells_19 (by decide) ?_
      exact hret (nI (2)) () _ _ 20 _ dX3_faultOfCells_20 rfl (by exact Or.inr (Or.inl ⟨rfl, h_2, c16⟩)) hP hD hS

set_option maxHeartbeats 4000000 in
set_option maxRecDepth 100000 in
theorem k_cut (l : Launch) (D : va_G) (a : Nat → Nat) (cI cJ cZ : ClassId) (A : Nat → Prop) (v : Nat → Nat → Nat) (c : Nat → Nat → Int32) (x : Int32) (z : Int32) :
    mI l yX3_cut wsX3_cut 0 0 [.ref (a 1), .int x, .int z] D (xT cI cJ cZ) A (xW a cI cJ cZ v c) (fun _ : Unit => xW a cI cJ cZ v c)
    (fun (r : Int32) (u : Unit) => r = cutf x z) := by
  refine w_bI cX3_cut 3 .int (by decide) rfl (Nat.le_of_ble_eq_true rfl) (Or.inl rfl) ?_
  intro p e s m args below meth c0 ls Q hx hb hml hts hown hK hN hA hret hP hD hS hl
  have hl : lv_has ls 3 [(0, .ref (a 1)), (1, .int x), (2, .int z)] := hl
  refine lv_iload_n hx hb dX3_cut_0 rfl (lv_at hl 2 rfl) ?_
  rcases z_cases z with rfl | rfl | ⟨h0, h1⟩
  · skip
    refine lv_lookup (tgt := 28) hx hb dX3_cut_1 (by decide) (off := 27) (by decide) (by decide) ?_
    refine lv_iload_n hx hb dX3_cut_28 rfl (lv_at hl 1 rfl) ?_
    refine lv_i2b (v := x.toInt8.toInt32) hx hb dX3_cut_29 rfl ?_
    exact hret (x.toInt8.toInt32) () _ _ 30 _ dX3_cut_30 rfl (by rfl) hP hD hS
  · skip
    refine lv_lookup (tgt := 31) hx hb dX3_cut_1 (by decide) (off := 30) (by decide) (by decide) ?_
    refine lv_iload_n hx hb dX3_cut_31 rfl (lv_at hl 1 rfl) ?_
    refine lv_i2s (v := x.toInt16.toInt32) hx hb dX3_cut_32 rfl ?_
    exact hret (x.toInt16.toInt32) () _ _ 33 _ dX3_cut_33 rfl (by rfl) hP hD hS
  · skip
    refine lv_lookup (tgt := 34) hx hb dX3_cut_1 (by decide) (off := 33) ((lv_osw h0 rfl).trans ((lv_osw h1 rfl).trans rfl)) (by decide) ?_
    refine lv_iload_n hx hb dX3_cut_34 rfl (lv_at hl 1 rfl) ?_
    exact hret (x) () _ _ 35 _ dX3_cut_35 rfl (by show _ = (if _ then _ else _); rw [if_neg h0, if_neg h1]) hP hD hS

set_option maxHeartbeats 4000000 in
set_option maxRecDepth 100000 in
theorem k_write (l : Launch) (D : va_G) (a : Nat → Nat) (cI cJ cZ : ClassId) (A : Nat → Prop) (v : Nat → Nat → Nat) (c : Nat → Nat → Int32) (k : Nat) (i : Nat) (x : Int32) (hk : k < 4) (hlen : v 3 k ≤ 80) (hi : i < v 3 k) :
    mV l yX3_write wsX3_write 3 65 [.ref (a 1), .int (nI k), .int (nI i), .int x] D (xT cI cJ cZ) A (xW a cI cJ cZ v c) (fun u : ((Nat → Nat → Nat) × (Nat → Nat → Int32)) => xW a cI cJ cZ u.1 u.2)
    (fun (u : ((Nat → Nat → Nat) × (Nat → Nat → Int32))) => u = (v, va_up c 4 (va_up (c 4) (k * 80 + i) (cutf x (c 2 k))))) := by
  refine w_bV cX3_write 4 (by decide) rfl (Nat.le_of_ble_eq_true rfl) ?_
  intro p e s m args below meth c0 ls Q hx hb hml hts hown hK hN hA hret hP hD hS hl
  have hl : lv_has ls 4 [(0, .ref (a 1)), (1, .int (nI (k))), (2, .int (nI (i))), (3, .int x)] := hl
  have hinX3 : ∀ w ∈ wsX30, w ∈ wsX3_write := fun w h => List.mem_cons_of_mem _ (List.mem_append_right _ h)
  have iT := n_tI (k := i) (by omega)
  have oT : (nI 1).toInt = 1 := rfl
  refine lv_aload_n hx hb dX3_write_0 rfl (lv_at hl 0 rfl) ?_
  refine lv_iload_n hx hb dX3_write_1 rfl (lv_at hl 1 rfl) ?_
  refine lv_iload_n hx hb dX3_write_2 rfl (lv_at hl 2 rfl) ?_
  refine lv_iconst (v := nI (1)) hx hb dX3_write_3 (by decide) ?_
  refine w_cVi (rest := []) hx hb hml hown hts (k_hasCells l D a cI cJ cZ A v c k (nI (i)) (nI (1))  (by first | assumption | omega) (by first | assumption | omega)) 3 gX3_write_X3_hasCells rfl hdX3_hasCells ⟨Nat.le_of_ble_eq_true rfl, Nat.le_of_ble_eq_true rfl⟩ hK hN hP hD hS hA 1 3 rfl rfl rfl rfl hl.1 rfl (Nat.le_of_ble_eq_true rfl) dX3_write_4 ⟨Nat.le_of_ble_eq_true rfl, Nat.le_of_ble_eq_true rfl⟩ (fun r u H locs hq hP hD hS => ?_)
  rcases hq with ⟨rfl, h1_4, h2_4, h3_4⟩ | ⟨rfl, h_4⟩
  · skip
    have hP : va_P D vwCl (xW a cI cJ cZ v c) H := hP
    have hD : va_D A (xW a cI cJ cZ v c) := hD
    refine w_if_eq (x := 1) hx hb dX3_write_7 (tgt := 31) (by decide) (by decide) (fun h => absurd h (by decide)) (fun _ => ?_)
    refine lv_aload_n hx hb dX3_write_10 rfl (lv_at hl 0 rfl) ?_
    refine va_get (D := D) (ci := 3) (v := .ref (a 4)) (C := RX3) (T := TX3) (N := 3) hx hb hts hinX3 hown hK hP 1 rfl rfl 2 (by decide) (hts (.fieldLink RX3 18 "DancedLock$Sheets" "cells" "[I") (List.mem_of_getElem? (i := 1) rfl)) (fun _ h9 => h9) rfl dX3_write_11 ?_
    refine lv_iload_n hx hb dX3_write_14 rfl (lv_at hl 1 rfl) ?_
    refine lv_bipush (v := nI (80)) hx hb dX3_write_15 (by decide) ?_
    refine w_imul (x := k) (y := 80) hx hb dX3_write_17  ?_
    refine lv_iload_n hx hb dX3_write_18 rfl (lv_at hl 2 rfl) ?_
    refine w_iadd (x := k * 80) (y := i) hx hb dX3_write_19  ?_
    refine lv_aload_n hx hb dX3_write_20 rfl (lv_at hl 0 rfl) ?_
    refine lv_iload_n hx hb dX3_write_21 rfl (lv_at hl 3 rfl) ?_
    refine lv_aload_n hx hb dX3_write_22 rfl (lv_at hl 0 rfl) ?_
    refine lv_iload_n hx hb dX3_write_23 rfl (lv_at hl 1 rfl) ?_
    refine w_cVi (rest := [.int x, .ref (a 1), .int (nI (k * 80 + i)), .ref (a 4)]) hx hb hml hown hts (k_sortOf l D a cI cJ cZ A v c k  (by first | assumption | omega)) 1 gX3_write_X3_sortOf rfl hdX3_sortOf ⟨Nat.le_of_ble_eq_true rfl, Nat.le_of_ble_eq_true rfl⟩ hK hN hP hD hS hA 1 3 rfl rfl rfl rfl hl.1 rfl (Nat.le_of_ble_eq_true rfl) dX3_write_24 ⟨Nat.le_of_ble_eq_true rfl, Nat.le_of_ble_eq_true rfl⟩ (fun r u H locs hq hP hD hS => ?_)
    obtain rfl := hq
    have hP : va_P D vwCl (xW a cI cJ cZ v c) H := hP
    have hD : va_D A (xW a cI cJ cZ v c) := hD
    refine w_cVi (rest := [.int (nI (k * 80 + i)), .ref (a 4)]) hx hb hml hown hts (k_cut l D a cI cJ cZ A v c x ((c 2) k)  ) 2 gX3_write_X3_cut rfl hdX3_cut ⟨Nat.le_of_ble_eq_true rfl, Nat.le_of_ble_eq_true rfl⟩ hK hN hP hD hS hA 1 3 rfl rfl rfl rfl hl.1 rfl (Nat.le_of_ble_eq_true rfl) dX3_write_27 ⟨Nat.le_of_ble_eq_true rfl, Nat.le_of_ble_eq_true rfl⟩ (fun r u H locs hq hP hD hS => ?_)
    obtain rfl := hq
    have hP : va_P D vwCl (xW a cI cJ cZ v c) H := hP
    have hD : va_D A (xW a cI cJ cZ v c) := hD
    refine r_iast (f := c 4) (w := cutf x ((c 2) k)) hx hb hK hP hD hS 4 0 rfl rfl (i := k * 80 + i) (by omega) (by decide) dX3_write_30 (fun H locs hP hD hS => ?_)
    have hP : va_P D vwCl (xW a cI cJ cZ v (va_up c 4 (va_up (c 4) (k * 80 + i) (cutf x ((c 2) k))))) H := hP
    have hD : va_D A (xW a cI cJ cZ v (va_up c 4 (va_up (c 4) (k * 80 + i) (cutf x ((c 2) k))))) := hD
    exact hret (v, va_up c 4 (va_up (c 4) (k * 80 + i) (cutf x ((c 2) k)))) _ _ 31 _ dX3_write_31 (by rfl) hP hD hS
  · skip
    exfalso; omega

set_option maxHeartbeats 4000000 in
set_option maxRecDepth 100000 in
theorem k_readInto (l : Launch) (D : va_G) (a : Nat → Nat) (cI cJ cZ : ClassId) (A : Nat → Prop) (v : Nat → Nat → Nat) (c : Nat → Nat → Int32) (k : Nat) (i : Nat) (q : Nat) (hk : k < 4) (hlen : v 3 k ≤ 80) (hi : i + q ≤ v 3 k) :
    mV l yX3_readInto wsX3_readInto 3 65 [.ref (a 1), .ref (a 25), .int (nI k), .int (nI i), .int (nI q)] D (xT cI cJ cZ) A (xW a cI cJ cZ v c) (fun u : ((Nat → Nat → Nat) × (Nat → Nat → Int32)) => xW a cI cJ cZ u.1 u.2)
    (fun (u : ((Nat → Nat → Nat) × (Nat → Nat → Int32))) => u = (v, va_up c 25 (va_cpy (c 4) (c 25) (k * 80 + i) 0 q))) := by
  refine w_bV cX3_readInto 5 (by decide) rfl (Nat.le_of_ble_eq_true rfl) ?_
  intro p e s m args below meth c0 ls Q hx hb hml hts hown hK hN hA hret hP hD hS hl
  have hl : lv_has ls 5 [(0, .ref (a 1)), (1, .ref (a 25)), (2, .int (nI (k))), (3, .int (nI (i))), (4, .int (nI (q)))] := hl
  have hinX3 : ∀ w ∈ wsX30, w ∈ wsX3_readInto := fun w h => List.mem_cons_of_mem _ (List.mem_append_right _ h)
  have iT := n_tI (k := i) (by omega)
  have qT := n_tI (k := q) (by omega)
  refine lv_aload_n hx hb dX3_readInto_0 rfl (lv_at hl 0 rfl) ?_
  refine lv_iload_n hx hb dX3_readInto_1 rfl (lv_at hl 2 rfl) ?_
  refine lv_iload_n hx hb dX3_readInto_2 rfl (lv_at hl 3 rfl) ?_
  refine lv_iload hx hb dX3_readInto_3 (lv_at hl 4 rfl) ?_
  refine w_cVi (rest := []) hx hb hml hown hts (k_hasCells l D a cI cJ cZ A v c k (nI (i)) (nI (q))  (by first | assumption | omega) (by first | assumption | omega)) 3 gX3_readInto_X3_hasCells rfl hdX3_hasCells ⟨Nat.le_of_ble_eq_true rfl, Nat.le_of_ble_eq_true rfl⟩ hK hN hP hD hS hA 1 3 rfl rfl rfl rfl hl.1 rfl (Nat.le_of_ble_eq_true rfl) dX3_readInto_5 ⟨Nat.le_of_ble_eq_true rfl, Nat.le_of_ble_eq_true rfl⟩ (fun r u H locs hq hP hD hS => ?_)
  rcases hq with ⟨rfl, h1_5, h2_5, h3_5⟩ | ⟨rfl, h_5⟩
  · skip
    have hP : va_P D vwCl (xW a cI cJ cZ v c) H := hP
    have hD : va_D A (xW a cI cJ cZ v c) := hD
    refine w_if_eq (x := 1) hx hb dX3_readInto_8 (tgt := 35) (by decide) (by decide) (fun h => absurd h (by decide)) (fun _ => ?_)
    refine lv_iload hx hb dX3_readInto_11 (lv_at hl 4 rfl) ?_
    refine lv_aload_n hx hb dX3_readInto_13 rfl (lv_at hl 1 rfl) ?_
    refine va_alen (v := nI 80) hx hb hK hP 25 0 rfl rfl rfl dX3_readInto_14 ?_
    refine w_icmp_gt (x := q) (y := 80) hx hb dX3_readInto_15 (tgt := 35) (by decide) (by omega) (by omega) (fun c15 => absurd c15 (by omega)) (fun c15 => ?_)
    refine lv_aload_n hx hb dX3_readInto_18 rfl (lv_at hl 0 rfl) ?_
    refine va_get (D := D) (ci := 3) (v := .ref (a 4)) (C := RX3) (T := TX3) (N := 3) hx hb hts hinX3 hown hK hP 1 rfl rfl 2 (by decide) (hts (.fieldLink RX3 18 "DancedLock$Sheets" "cells" "[I") (List.mem_of_getElem? (i := 1) rfl)) (fun _ h9 => h9) rfl dX3_readInto_19 ?_
    refine lv_iload_n hx hb dX3_readInto_22 rfl (lv_at hl 2 rfl) ?_
    refine lv_bipush (v := nI (80)) hx hb dX3_readInto_23 (by decide) ?_
    refine w_imul (x := k) (y := 80) hx hb dX3_readInto_25  ?_
    refine lv_iload_n hx hb dX3_readInto_26 rfl (lv_at hl 3 rfl) ?_
    refine w_iadd (x := k * 80) (y := i) hx hb dX3_readInto_27  ?_
    refine lv_aload_n hx hb dX3_readInto_28 rfl (lv_at hl 1 rfl) ?_
    refine lv_iconst (v := nI (0)) hx hb dX3_readInto_29 (by decide) ?_
    refine lv_iload hx hb dX3_readInto_30 (lv_at hl 4 rfl) ?_
    refine r_copy (f := c 4) (g := c 25) (rest := []) (sp := k * 80 + i) (dp := 0) (k := q) hx hb (hml.trans hl.1.symm) (own := RX3) hown (hts (.methodLink RX3 52 arraycopyName) (List.mem_of_getElem? (i := 2) rfl)) (hts (.native arraycopyName) (List.mem_of_getElem? (i := 3) rfl)) (hts (.static arraycopyName) (List.mem_of_getElem? (i := 4) rfl)) (hts (.initialized "java/lang/System") (List.mem_of_getElem? (i := 5) rfl)) hK hP hD hS 4 25 0 0 rfl rfl rfl rfl (by omega) (by omega) (by decide) (by decide) (Nat.le_of_ble_eq_true rfl) (Nat.le_of_ble_eq_true rfl) dX3_readInto_32 (fun H locs hP hD hS => ?_)
    have hP : va_P D vwCl (xW a cI cJ cZ v (va_up c 25 (va_cpy (c 4) (c 25) (k * 80 + i) 0 q))) H := hP
    have hD : va_D A (xW a cI cJ cZ v (va_up c 25 (va_cpy (c 4) (c 25) (k * 80 + i) 0 q))) := hD
    exact hret (v, va_up c 25 (va_cpy (c 4) (c 25) (k * 80 + i) 0 q)) _ _ 35 _ dX3_readInto_35 (by rfl) hP hD hS
  · skip
    exfalso; omega

set_option maxHeartbeats 4000000 in
set_option maxRecDepth 100000 in
theorem k_faulted (l : Launch) (D : va_G) (a : Nat → Nat) (cI cJ cZ : ClassId) (A : Nat → Prop) (v : Nat → Nat → Nat) (c : Nat → Nat → Int32) (f : Nat) :
    mI l yX6_faulted wsX6_faulted 0 0 [.ref (a 0), .int (nI f)] D (xT cI cJ cZ) A (xW a cI cJ cZ v c) (fun u : ((Nat → Nat → Nat) × (Nat → Nat → Int32)) => xW a cI cJ cZ u.1 u.2)
    (fun (r : Int32) (u : ((Nat → Nat → Nat) × (Nat → Nat → Int32))) => r = (-10) - (nI (f)) ∧ u = (va_up v 0 (va_up (v 0) 8 (f)), c)) := by
  refine w_bI cX6_faulted 2 .int (by decide) rfl (Nat.le_of_ble_eq_true rfl) (Or.inl rfl) ?_
  intro p e s m args below meth c0 ls Q hx hb hml hts hown hK hN hA hret hP hD hS hl
  have hl : lv_has ls 2 [(0, .ref (a 0)), (1, .int (nI (f)))] := hl
  have hinX6 : ∀ w ∈ wsX60, w ∈ wsX6_faulted := fun w h => List.mem_cons_of_mem _ (List.mem_append_right _ h)
  refine lv_aload_n hx hb dX6_faulted_0 rfl (lv_at hl 0 rfl) ?_
  refine lv_iload_n hx hb dX6_faulted_1 rfl (lv_at hl 1 rfl) ?_
  refine va_put (D := D) (ci := 6) (v := .int (nI (f))) (ty := .int) (C := RX6) (T := TX6) (N := 9) hx hb hts hinX6 tyX6 tyX6_ok nmX6 hown hK hP hD hS 0 rfl rfl 8 (by decide) (hts (.fieldLink RX6 147 "DancedLock" "latestFault" "I") (List.mem_of_getElem? (i := 1) rfl)) (fun _ h9 => h9) rfl (by decide +kernel) rfl (rfl) (Nat.le_of_ble_eq_true rfl) dX6_faulted_2 (fun H locs hP hD hS => ?_)
  have hP : va_P D vwCl (xW a cI cJ cZ (va_up v 0 (va_up (v 0) 8 (f))) c) H := hP
  have hD : va_D A (xW a cI cJ cZ (va_up v 0 (va_up (v 0) 8 (f))) c) := hD
  refine lv_bipush (v := -10) hx hb dX6_faulted_5 (by decide) ?_
  refine lv_iload_n hx hb dX6_faulted_7 rfl (lv_at hl 1 rfl) ?_
  refine lv_isub hx hb dX6_faulted_8 ?_
  exact hret ((-10) - (nI (f))) (va_up v 0 (va_up (v 0) 8 (f)), c) _ _ 9 _ dX6_faulted_9 rfl (by exact ⟨rfl, rfl⟩) hP hD hS

set_option maxHeartbeats 4000000 in
set_option maxRecDepth 100000 in
theorem k_takeRow (l : Launch) (D : va_G) (a : Nat → Nat) (cI cJ cZ : ClassId) (A : Nat → Prop) (v : Nat → Nat → Nat) (c : Nat → Nat → Int32) (sh : Int32) (so : Int32) (o : Nat) (i : Int32) (q : Int32) (ho : o ≤ 1) (hln : ∀ k, k < 4 → v 3 k ≤ 80) :
    mI l yX6_takeRow wsX6_takeRow 4 89 [.ref (a 0), .int sh, .int so, .int (nI o), .int i, .int q] D (xT cI cJ cZ) A (xW a cI cJ cZ v c) (fun u : ((Nat → Nat → Nat) × (Nat → Nat → Int32)) => xW a cI cJ cZ u.1 u.2)
    (fun (r : Int32) (u : ((Nat → Nat → Nat) × (Nat → Nat → Int32))) => (r = -1 ∧ u = (va_up v 0 (va_up (v 0) 8 (0)), c) ∧ (sh.toInt < 0 ∨ 4 ≤ sh.toInt)) ∨ (∃ k : Nat, r = -2 ∧ u = (va_up v 0 (va_up (v 0) 8 (0)), c) ∧ k < 4 ∧ sh = nI k ∧ (so.toInt < 0 ∨ 3 ≤ so.toInt ∨ o ≠ 0)) ∨ (∃ k : Nat, ∃ s1 : Nat, r = (-10) - (nI (1)) ∧ u = (va_up v 0 (va_up (v 0) 8 (1)), c) ∧ k < 4 ∧ sh = nI k ∧ s1 < 3 ∧ so = nI s1 ∧ o = 0 ∧ c 2 k = -1) ∨ (∃ k : Nat, ∃ s1 : Nat, r = (-10) - (nI (2)) ∧ u = (va_up v 0 (va_up (v 0) 8 (2)), c) ∧ k < 4 ∧ sh = nI k ∧ s1 < 3 ∧ so = nI s1 ∧ o = 0 ∧ c 2 k ≠ -1 ∧ c 2 k ≠ nI s1) ∨ (∃ k : Nat, ∃ s1 : Nat, r = (-10) - (nI (4)) ∧ u = (va_up v 0 (va_up (v 0) 8 (4)), c) ∧ k < 4 ∧ sh = nI k ∧ s1 < 3 ∧ so = nI s1 ∧ o = 0 ∧ c 2 k = nI s1 ∧ q.toInt < 0) ∨ (∃ k : Nat, ∃ s1 : Nat, r = (-10) - (nI (3)) ∧ u = (va_up v 0 (va_up (v 0) 8 (3)), c) ∧ k < 4 ∧ sh = nI k ∧ s1 < 3 ∧ so = nI s1 ∧ o = 0 ∧ c 2 k = nI s1 ∧ 0 ≤ q.toInt ∧ (i.toInt < 0 ∨ (v 3 k : Int) < i.toInt + q.toInt)) ∨ (∃ k : Nat, ∃ s1 : Nat, ∃ j : Nat, ∃ n1 : Nat, r = nI (0) ∧ u = (va_up v 0 (va_up (v 0) 8 (0)), va_up c 25 (va_cpy (c 4) (c 25) (k * 80 + j) 0 n1)) ∧ k < 4 ∧ sh = nI k ∧ s1 < 3 ∧ so = nI s1 ∧ o = 0 ∧ c 2 k = nI s1 ∧ v 3 k ≤ 80 ∧ j + n1 ≤ v 3 k ∧ i = nI j ∧ q = nI n1)) := by
  refine w_bI cX6_takeRow 7 .int (by decide) rfl (Nat.le_of_ble_eq_true rfl) (Or.inl rfl) ?_
  intro p e s m args below meth c0 ls Q hx hb hml hts hown hK hN hA hret hP hD hS hl
  have hl : lv_has ls 7 [(0, .ref (a 0)), (1, .int sh), (2, .int so), (3, .int (nI (o))), (4, .int i), (5, .int q)] := hl
  have hinX6 : ∀ w ∈ wsX60, w ∈ wsX6_takeRow := fun w h => List.mem_cons_of_mem _ (List.mem_append_left _ (List.mem_append_right _ h))
  refine lv_aload_n hx hb dX6_takeRow_0 rfl (lv_at hl 0 rfl) ?_
  refine lv_iconst (v := nI (0)) hx hb dX6_takeRow_1 (by decide) ?_
  refine va_put (D := D) (ci := 6) (v := .int (nI (0))) (ty := .int) (C := RX6) (T := TX6) (N := 9) hx hb hts hinX6 tyX6 tyX6_ok nmX6 hown hK hP hD hS 0 rfl rfl 8 (by decide) (hts (.fieldLink RX6 147 "DancedLock" "latestFault" "I") (List.mem_of_getElem? (i := 1) rfl)) (fun _ h9 => h9) rfl (by decide +kernel) rfl (rfl) (Nat.le_of_ble_eq_true rfl) dX6_takeRow_2 (fun H locs hP hD hS => ?_)
  have hP : va_P D vwCl (xW a cI cJ cZ (va_up v 0 (va_up (v 0) 8 (0))) c) H := hP
  have hD : va_D A (xW a cI cJ cZ (va_up v 0 (va_up (v 0) 8 (0))) c) := hD
  refine lv_aload_n hx hb dX6_takeRow_5 rfl (lv_at hl 0 rfl) ?_
  refine va_get (D := D) (ci := 6) (v := .ref (a 1)) (C := RX6) (T := TX6) (N := 9) hx hb hts hinX6 hown hK hP 0 rfl rfl 0 (by decide) (hts (.fieldLink RX6 12 "DancedLock" "sheets" "LDancedLock$Sheets;") (List.mem_of_getElem? (i := 2) rfl)) (fun _ h9 => h9) rfl dX6_takeRow_6 ?_
  refine lv_iload_n hx hb dX6_takeRow_9 rfl (lv_at hl 1 rfl) ?_
  refine w_cVi (rest := []) hx hb hml hown hts (k_sincl_R l D a cI cJ cZ A (va_up v 0 (va_up (v 0) 8 (0))) c sh  ) 1 gX6_takeRow_X3_includes rfl hdX3_includes ⟨Nat.le_of_ble_eq_true rfl, Nat.le_of_ble_eq_true rfl⟩ hK hN hP hD hS hA 1 3 rfl rfl rfl rfl hl.1 rfl (Nat.le_of_ble_eq_true rfl) dX6_takeRow_10 ⟨Nat.le_of_ble_eq_true rfl, Nat.le_of_ble_eq_true rfl⟩ (fun r u H locs hq hP hD hS => ?_)
  rcases hq with ⟨j_10, rfl, h_10, hs_x_10⟩ | ⟨rfl, h_10⟩
  · skip
    have hP : va_P D vwCl (xW a cI cJ cZ (va_up v 0 (va_up (v 0) 8 (0))) c) H := hP
    have hD : va_D A (xW a cI cJ cZ (va_up v 0 (va_up (v 0) 8 (0))) c) := hD
    subst hs_x_10
    have j_10T := n_tI (k := j_10) (by omega)
    refine w_if_ne (x := 1) hx hb dX6_takeRow_13 (tgt := 18) (by decide) (by decide) (fun _ => ?_) (fun h => absurd h (by decide))
    refine lv_iload_n hx hb dX6_takeRow_18 rfl (lv_at hl 2 rfl) ?_
    refine r_if_lt hx hb dX6_takeRow_19 (tgt := 31) (by decide) (fun c19 => ?_) (fun c19 => ?_)
    · skip
      refine lv_bipush (v := -2) hx hb dX6_takeRow_31 (by decide) ?_
      exact hret ((-2)) (va_up v 0 (va_up (v 0) 8 (0)), c) _ _ 33 _ dX6_takeRow_33 rfl (by exact Or.inr (Or.inl (⟨j_10, rfl, rfl, h_10, rfl, by omega⟩))) hP hD hS
    · skip
      obtain ⟨so', so'B, rfl⟩ := r_nat c19
      have so'T := n_tI so'B
      refine lv_iload_n hx hb dX6_takeRow_22 rfl (lv_at hl 2 rfl) ?_
      refine lv_iconst (v := nI (3)) hx hb dX6_takeRow_23 (by decide) ?_
      refine w_icmp_ge (x := so') (y := 3) hx hb dX6_takeRow_24 (tgt := 31) (by decide) (by omega) (by omega) (fun c24 => ?_) (fun c24 => ?_)
      · skip
        refine lv_bipush (v := -2) hx hb dX6_takeRow_31 (by decide) ?_
        exact hret ((-2)) (va_up v 0 (va_up (v 0) 8 (0)), c) _ _ 33 _ dX6_takeRow_33 rfl (by exact Or.inr (Or.inl (⟨j_10, rfl, rfl, h_10, rfl, by omega⟩))) hP hD hS
      · skip
        refine lv_iload_n hx hb dX6_takeRow_27 rfl (lv_at hl 3 rfl) ?_
        refine w_if_eq (x := o) hx hb dX6_takeRow_28 (tgt := 34) (by decide) (by omega) (fun c28 => ?_) (fun c28 => ?_)
        · skip
          have hlj := hln j_10 h_10
          refine lv_aload_n hx hb dX6_takeRow_34 rfl (lv_at hl 0 rfl) ?_
          refine va_get (D := D) (ci := 6) (v := .ref (a 1)) (C := RX6) (T := TX6) (N := 9) hx hb hts hinX6 hown hK hP 0 rfl rfl 0 (by decide) (hts (.fieldLink RX6 12 "DancedLock" "sheets" "LDancedLock$Sheets;") (List.mem_of_getElem? (i := 2) rfl)) (fun _ h9 => h9) rfl dX6_takeRow_35 ?_
          refine lv_iload_n hx hb dX6_takeRow_38 rfl (lv_at hl 1 rfl) ?_
          refine lv_iload_n hx hb dX6_takeRow_39 rfl (lv_at hl 2 rfl) ?_
          refine lv_iload hx hb dX6_takeRow_40 (lv_at hl 4 rfl) ?_
          refine lv_iload hx hb dX6_takeRow_42 (lv_at hl 5 rfl) ?_
          refine w_cVi (rest := []) hx hb hml hown hts (k_faultOfCells l D a cI cJ cZ A (va_up v 0 (va_up (v 0) 8 (0))) c j_10 (nI (so')) i q  (by first | assumption | omega | exact hlj) (by first | assumption | omega | exact hlj)) 4 gX6_takeRow_X3_faultOfCells rfl hdX3_faultOfCells ⟨Nat.le_of_ble_eq_true rfl, Nat.le_of_ble_eq_true rfl⟩ hK hN hP hD hS hA 1 3 rfl rfl rfl rfl hl.1 rfl (Nat.le_of_ble_eq_true rfl) dX6_takeRow_44 ⟨Nat.le_of_ble_eq_true rfl, Nat.le_of_ble_eq_true rfl⟩ (fun r u H locs hq hP hD hS => ?_)
          rcases hq with ⟨rfl, h1_44⟩ | ⟨rfl, h1_44, h2_44⟩ | ⟨rfl, h1_44, h2_44, h3_44⟩ | ⟨rfl, h1_44, h2_44, h3_44, h4_44⟩ | ⟨rfl, h1_44, h2_44, h3_44, h4_44, h5_44⟩
          · skip
            have h1_44 : (c 2) j_10 = -1 := h1_44
            have hP : va_P D vwCl (xW a cI cJ cZ (va_up v 0 (va_up (v 0) 8 (0))) c) H := hP
            have hD : va_D A (xW a cI cJ cZ (va_up v 0 (va_up (v 0) 8 (0))) c) := hD
            refine lv_istore (lv' := [(6, .int (nI (1))), (0, .ref (a 0)), (1, .int (nI (j_10))), (2, .int (nI (so'))), (3, .int (nI (o))), (4, .int i), (5, .int q)]) hx hb dX6_takeRow_47 hl (by decide) rfl (fun ls hl => ?_)
            refine lv_iload hx hb dX6_takeRow_49 (lv_at hl 0 rfl) ?_
            refine w_if_eq (x := 1) hx hb dX6_takeRow_51 (tgt := 61) (by decide) (by decide) (fun h => absurd h (by decide)) (fun _ => ?_)
            refine lv_aload_n hx hb dX6_takeRow_54 rfl (lv_at hl 1 rfl) ?_
            refine lv_iload hx hb dX6_takeRow_55 (lv_at hl 0 rfl) ?_
            refine w_cVi (rest := []) hx hb hml hown hts (k_faulted l D a cI cJ cZ A (va_up v 0 (va_up (v 0) 8 (0))) c 1  ) 1 gX6_takeRow_X6_faulted rfl hdX6_faulted ⟨Nat.le_of_ble_eq_true rfl, Nat.le_of_ble_eq_true rfl⟩ hK hN hP hD hS hA 0 6 rfl rfl rfl rfl hl.1 rfl (Nat.le_of_ble_eq_true rfl) dX6_takeRow_57 ⟨Nat.le_of_ble_eq_true rfl, Nat.le_of_ble_eq_true rfl⟩ (fun r u H locs hq hP hD hS => ?_)
            obtain ⟨rfl, rfl⟩ := hq
            have hP : va_P D vwCl (xW a cI cJ cZ (va_up v 0 (va_up (v 0) 8 (1))) c) H := hP
            have hD : va_D A (xW a cI cJ cZ (va_up v 0 (va_up (v 0) 8 (1))) c) := hD
            exact hret ((-10) - (nI (1))) (va_up v 0 (va_up (v 0) 8 (1)), c) _ _ 60 _ dX6_takeRow_60 rfl (by first | (exact Or.inr (Or.inr (Or.inl (⟨j_10, so', rfl, rfl, h_10, rfl, by omega, rfl, by omega, h1_44⟩)))) | (exact Or.inr (Or.inr (Or.inr (Or.inl (⟨j_10, so', rfl, rfl, h_10, rfl, by omega, rfl, by omega, h1_44, h2_44⟩))))) | (exact Or.inr (Or.inr (Or.inr (Or.inr (Or.inl (⟨j_10, so', rfl, rfl, h_10, rfl, by omega, rfl, by omega, h2_44, h3_44⟩)))))) | (exact Or.inr (Or.inr (Or.inr (Or.inr (Or.inr (Or.inl (⟨j_10, so', rfl, rfl, h_10, rfl, by omega, rfl, by omega, h2_44, h3_44, h4_44⟩)))))))) hP hD hS
          · skip
            have h1_44 : (c 2) j_10 ≠ -1 := h1_44
            have h2_44 : (c 2) j_10 ≠ (nI (so')) := h2_44
            have hP : va_P D vwCl (xW a cI cJ cZ (va_up v 0 (va_up (v 0) 8 (0))) c) H := hP
            have hD : va_D A (xW a cI cJ cZ (va_up v 0 (va_up (v 0) 8 (0))) c) := hD
            refine lv_istore (lv' := [(6, .int (nI (2))), (0, .ref (a 0)), (1, .int (nI (j_10))), (2, .int (nI (so'))), (3, .int (nI (o))), (4, .int i), (5, .int q)]) hx hb dX6_takeRow_47 hl (by decide) rfl (fun ls hl => ?_)
            refine lv_iload hx hb dX6_takeRow_49 (lv_at hl 0 rfl) ?_
            refine w_if_eq (x := 2) hx hb dX6_takeRow_51 (tgt := 61) (by decide) (by decide) (fun h => absurd h (by decide)) (fun _ => ?_)
            refine lv_aload_n hx hb dX6_takeRow_54 rfl (lv_at hl 1 rfl) ?_
            refine lv_iload hx hb dX6_takeRow_55 (lv_at hl 0 rfl) ?_
            refine w_cVi (rest := []) hx hb hml hown hts (k_faulted l D a cI cJ cZ A (va_up v 0 (va_up (v 0) 8 (0))) c 2  ) 1 gX6_takeRow_X6_faulted rfl hdX6_faulted ⟨Nat.le_of_ble_eq_true rfl, Nat.le_of_ble_eq_true rfl⟩ hK hN hP hD hS hA 0 6 rfl rfl rfl rfl hl.1 rfl (Nat.le_of_ble_eq_true rfl) dX6_takeRow_57 ⟨Nat.le_of_ble_eq_true rfl, Nat.le_of_ble_eq_true rfl⟩ (fun r u H locs hq hP hD hS => ?_)
            obtain ⟨rfl, rfl⟩ := hq
            have hP : va_P D vwCl (xW a cI cJ cZ (va_up v 0 (va_up (v 0) 8 (2))) c) H := hP
            have hD : va_D A (xW a cI cJ cZ (va_up v 0 (va_up (v 0) 8 (2))) c) := hD
            exact hret ((-10) - (nI (2))) (va_up v 0 (va_up (v 0) 8 (2)), c) _ _ 60 _ dX6_takeRow_60 rfl (by first | (exact Or.inr (Or.inr (Or.inl (⟨j_10, so', rfl, rfl, h_10, rfl, by omega, rfl, by omega, h1_44⟩)))) | (exact Or.inr (Or.inr (Or.inr (Or.inl (⟨j_10, so', rfl, rfl, h_10, rfl, by omega, rfl, by omega, h1_44, h2_44⟩))))) | (exact Or.inr (Or.inr (Or.inr (Or.inr (Or.inl (⟨j_10, so', rfl, rfl, h_10, rfl, by omega, rfl, by omega, h2_44, h3_44⟩)))))) | (exact Or.inr (Or.inr (Or.inr (Or.inr (Or.inr (Or.inl (⟨j_10, so', rfl, rfl, h_10, rfl, by omega, rfl, by omega, h2_44, h3_44, h4_44⟩)))))))) hP hD hS
          · skip
            have h1_44 : (c 2) j_10 ≠ -1 := h1_44
            have h2_44 : (c 2) j_10 = (nI (so')) := h2_44
            have hP : va_P D vwCl (xW a cI cJ cZ (va_up v 0 (va_up (v 0) 8 (0))) c) H := hP
            have hD : va_D A (xW a cI cJ cZ (va_up v 0 (va_up (v 0) 8 (0))) c) := hD
            refine lv_istore (lv' := [(6, .int (nI (4))), (0, .ref (a 0)), (1, .int (nI (j_10))), (2, .int (nI (so'))), (3, .int (nI (o))), (4, .int i), (5, .int q)]) hx hb dX6_takeRow_47 hl (by decide) rfl (fun ls hl => ?_)
            refine lv_iload hx hb dX6_takeRow_49 (lv_at hl 0 rfl) ?_
            refine w_if_eq (x := 4) hx hb dX6_takeRow_51 (tgt := 61) (by decide) (by decide) (fun h => absurd h (by decide)) (fun _ => ?_)
            refine lv_aload_n hx hb dX6_takeRow_54 rfl (lv_at hl 1 rfl) ?_
            refine lv_iload hx hb dX6_takeRow_55 (lv_at hl 0 rfl) ?_
            refine w_cVi (rest := []) hx hb hml hown hts (k_faulted l D a cI cJ cZ A (va_up v 0 (va_up (v 0) 8 (0))) c 4  ) 1 gX6_takeRow_X6_faulted rfl hdX6_faulted ⟨Nat.le_of_ble_eq_true rfl, Nat.le_of_ble_eq_true rfl⟩ hK hN hP hD hS hA 0 6 rfl rfl rfl rfl hl.1 rfl (Nat.le_of_ble_eq_true rfl) dX6_takeRow_57 ⟨Nat.le_of_ble_eq_true rfl, Nat.le_of_ble_eq_true rfl⟩ (fun r u H locs hq hP hD hS => ?_)
            obtain ⟨rfl, rfl⟩ := hq
            have hP : va_P D vwCl (xW a cI cJ cZ (va_up v 0 (va_up (v 0) 8 (4))) c) H := hP
            have hD : va_D A (xW a cI cJ cZ (va_up v 0 (va_up (v 0) 8 (4))) c) := hD
            exact hret ((-10) - (nI (4))) (va_up v 0 (va_up (v 0) 8 (4)), c) _ _ 60 _ dX6_takeRow_60 rfl (by first | (exact Or.inr (Or.inr (Or.inl (⟨j_10, so', rfl, rfl, h_10, rfl, by omega, rfl, by omega, h1_44⟩)))) | (exact Or.inr (Or.inr (Or.inr (Or.inl (⟨j_10, so', rfl, rfl, h_10, rfl, by omega, rfl, by omega, h1_44, h2_44⟩))))) | (exact Or.inr (Or.inr (Or.inr (Or.inr (Or.inl (⟨j_10, so', rfl, rfl, h_10, rfl, by omega, rfl, by omega, h2_44, h3_44⟩)))))) | (exact Or.inr (Or.inr (Or.inr (Or.inr (Or.inr (Or.inl (⟨j_10, so', rfl, rfl, h_10, rfl, by omega, rfl, by omega, h2_44, h3_44, h4_44⟩)))))))) hP hD hS
          · skip
            have h1_44 : (c 2) j_10 ≠ -1 := h1_44
            have h2_44 : (c 2) j_10 = (nI (so')) := h2_44
            have h4_44 : i.toInt < 0 ∨ ((v 3) j_10 : Int) < i.toInt + q.toInt := h4_44
            have hP : va_P D vwCl (xW a cI cJ cZ (va_up v 0 (va_up (v 0) 8 (0))) c) H := hP
            have hD : va_D A (xW a cI cJ cZ (va_up v 0 (va_up (v 0) 8 (0))) c) := hD
            refine lv_istore (lv' := [(6, .int (nI (3))), (0, .ref (a 0)), (1, .int (nI (j_10))), (2, .int (nI (so'))), (3, .int (nI (o))), (4, .int i), (5, .int q)]) hx hb dX6_takeRow_47 hl (by decide) rfl (fun ls hl => ?_)
            refine lv_iload hx hb dX6_takeRow_49 (lv_at hl 0 rfl) ?_
            refine w_if_eq (x := 3) hx hb dX6_takeRow_51 (tgt := 61) (by decide) (by decide) (fun h => absurd h (by decide)) (fun _ => ?_)
            refine lv_aload_n hx hb dX6_takeRow_54 rfl (lv_at hl 1 rfl) ?_
            refine lv_iload hx hb dX6_takeRow_55 (lv_at hl 0 rfl) ?_
            refine w_cVi (rest := []) hx hb hml hown hts (k_faulted l D a cI cJ cZ A (va_up v 0 (va_up (v 0) 8 (0))) c 3  ) 1 gX6_takeRow_X6_faulted rfl hdX6_faulted ⟨Nat.le_of_ble_eq_true rfl, Nat.le_of_ble_eq_true rfl⟩ hK hN hP hD hS hA 0 6 rfl rfl rfl rfl hl.1 rfl (Nat.le_of_ble_eq_true rfl) dX6_takeRow_57 ⟨Nat.le_of_ble_eq_true rfl, Nat.le_of_ble_eq_true rfl⟩ (fun r u H locs hq hP hD hS => ?_)
            obtain ⟨rfl, rfl⟩ := hq
            have hP : va_P D vwCl (xW a cI cJ cZ (va_up v 0 (va_up (v 0) 8 (3))) c) H := hP
            have hD : va_D A (xW a cI cJ cZ (va_up v 0 (va_up (v 0) 8 (3))) c) := hD
            exact hret ((-10) - (nI (3))) (va_up v 0 (va_up (v 0) 8 (3)), c) _ _ 60 _ dX6_takeRow_60 rfl (by first | (exact Or.inr (Or.inr (Or.inl (⟨j_10, so', rfl, rfl, h_10, rfl, by omega, rfl, by omega, h1_44⟩)))) | (exact Or.inr (Or.inr (Or.inr (Or.inl (⟨j_10, so', rfl, rfl, h_10, rfl, by omega, rfl, by omega, h1_44, h2_44⟩))))) | (exact Or.inr (Or.inr (Or.inr (Or.inr (Or.inl (⟨j_10, so', rfl, rfl, h_10, rfl, by omega, rfl, by omega, h2_44, h3_44⟩)))))) | (exact Or.inr (Or.inr (Or.inr (Or.inr (Or.inr (Or.inl (⟨j_10, so', rfl, rfl, h_10, rfl, by omega, rfl, by omega, h2_44, h3_44, h4_44⟩)))))))) hP hD hS
          · skip
            have h1_44 : (c 2) j_10 ≠ -1 := h1_44
            have h2_44 : (c 2) j_10 = (nI (so')) := h2_44
            have h5_44 : i.toInt + q.toInt ≤ (v 3) j_10 := h5_44
            have hP : va_P D vwCl (xW a cI cJ cZ (va_up v 0 (va_up (v 0) 8 (0))) c) H := hP
            have hD : va_D A (xW a cI cJ cZ (va_up v 0 (va_up (v 0) 8 (0))) c) := hD
            refine lv_istore (lv' := [(6, .int (nI (0))), (0, .ref (a 0)), (1, .int (nI (j_10))), (2, .int (nI (so'))), (3, .int (nI (o))), (4, .int i), (5, .int q)]) hx hb dX6_takeRow_47 hl (by decide) rfl (fun ls hl => ?_)
            refine lv_iload hx hb dX6_takeRow_49 (lv_at hl 0 rfl) ?_
            refine w_if_eq (x := 0) hx hb dX6_takeRow_51 (tgt := 61) (by decide) (by decide) (fun _ => ?_) (fun h => absurd h (by decide))
            obtain ⟨i1, i1B, rfl⟩ := r_nat h3_44
            have i1T := n_tI i1B
            obtain ⟨q1, q1B, rfl⟩ := r_nat h4_44
            have q1T := n_tI q1B
            refine lv_aload_n hx hb dX6_takeRow_61 rfl (lv_at hl 1 rfl) ?_
            refine va_get (D := D) (ci := 6) (v := .ref (a 1)) (C := RX6) (T := TX6) (N := 9) hx hb hts hinX6 hown hK hP 0 rfl rfl 0 (by decide) (hts (.fieldLink RX6 12 "DancedLock" "sheets" "LDancedLock$Sheets;") (List.mem_of_getElem? (i := 2) rfl)) (fun _ h9 => h9) rfl dX6_takeRow_62 ?_
            refine lv_aload_n hx hb dX6_takeRow_65 rfl (lv_at hl 1 rfl) ?_
            refine va_get (D := D) (ci := 6) (v := .ref (a 25)) (C := RX6) (T := TX6) (N := 9) hx hb hts hinX6 hown hK hP 0 rfl rfl 6 (by decide) (hts (.fieldLink RX6 49 "DancedLock" "row" "[I") (List.mem_of_getElem? (i := 3) rfl)) (fun _ h9 => h9) rfl dX6_takeRow_66 ?_
            refine lv_iload_n hx hb dX6_takeRow_69 rfl (lv_at hl 2 rfl) ?_
            refine lv_iload hx hb dX6_takeRow_70 (lv_at hl 5 rfl) ?_
            refine lv_iload hx hb dX6_takeRow_72 (lv_at hl 6 rfl) ?_
            refine w_cVv (rest := []) hx hb hml hown hts (k_readInto l D a cI cJ cZ A (va_up v 0 (va_up (v 0) 8 (0))) c j_10 i1 q1  (by first | assumption | omega | exact hlj) (by first | assumption | omega | exact hlj) (by first | assumption | omega | exact hlj)) 4 gX6_takeRow_X3_readInto rfl hdX3_readInto ⟨Nat.le_of_ble_eq_true rfl, Nat.le_of_ble_eq_true rfl⟩ hK hN hP hD hS hA 1 3 rfl rfl rfl rfl hl.1 rfl (Nat.le_of_ble_eq_true rfl) dX6_takeRow_74 ⟨Nat.le_of_ble_eq_true rfl, Nat.le_of_ble_eq_true rfl⟩ (fun u H locs hq hP hD hS => ?_)
            obtain rfl := hq
            have hP : va_P D vwCl (xW a cI cJ cZ (va_up v 0 (va_up (v 0) 8 (0))) (va_up c 25 (va_cpy ((c 4)) ((c 25)) (j_10 * 80 + i1) 0 q1))) H := hP
            have hD : va_D A (xW a cI cJ cZ (va_up v 0 (va_up (v 0) 8 (0))) (va_up c 25 (va_cpy ((c 4)) ((c 25)) (j_10 * 80 + i1) 0 q1))) := hD
            refine lv_iconst (v := nI (0)) hx hb dX6_takeRow_77 (by decide) ?_
            exact hret (nI (0)) (va_up v 0 (va_up (v 0) 8 (0)), va_up c 25 (va_cpy ((c 4)) ((c 25)) (j_10 * 80 + i1) 0 q1)) _ _ 78 _ dX6_takeRow_78 rfl (by exact Or.inr (Or.inr (Or.inr (Or.inr (Or.inr (Or.inr (⟨j_10, so', i1, q1, rfl, rfl, h_10, rfl, by omega, rfl, by omega, h2_44, hlj, by omega, rfl, rfl⟩))))))) hP hD hS
        · skip
          refine lv_bipush (v := -2) hx hb dX6_takeRow_31 (by decide) ?_
          exact hret ((-2)) (va_up v 0 (va_up (v 0) 8 (0)), c) _ _ 33 _ dX6_takeRow_33 rfl (by exact Or.inr (Or.inl (⟨j_10, rfl, rfl, h_10, rfl, by omega⟩))) hP hD hS
  · skip
    have hP : va_P D vwCl (xW a cI cJ cZ (va_up v 0 (va_up (v 0) 8 (0))) c) H := hP
    have hD : va_D A (xW a cI cJ cZ (va_up v 0 (va_up (v 0) 8 (0))) c) := hD
    refine w_if_ne (x := 0) hx hb dX6_takeRow_13 (tgt := 18) (by decide) (by decide) (fun h => absurd h (by decide)) (fun _ => ?_)
    refine lv_iconst (v := -1) hx hb dX6_takeRow_16 (by decide) ?_
    exact hret ((-1)) (va_up v 0 (va_up (v 0) 8 (0)), c) _ _ 17 _ dX6_takeRow_17 rfl (by exact Or.inl (⟨rfl, rfl, h_10⟩)) hP hD hS
