/-! ===== the floor and the troupe ===== -/
set_option maxHeartbeats 4000000 in
set_option maxRecDepth 100000 in
theorem k_hasBoard_N (l : Launch) (D : va_G) (a : Nat → Nat) (cI cJ cZ : ClassId) (A : Nat → Prop) (v : Nat → Nat → Nat) (c : Nat → Nat → Int32) (x : Nat) (hlim : v 11 0 ≤ 7) (hB : x < 2147483648) :
    mI l yX2_hasBoard wsX2_hasBoard 0 0 [.ref (a 11), .int (nI x)] D (xT cI cJ cZ) A (xW a cI cJ cZ v c) (fun _ : Unit => xW a cI cJ cZ v c)
    (fun (r : Int32) (u : Unit) => (r = nI (1) ∧ x < v 11 0) ∨ (r = nI (0) ∧ v 11 0 ≤ x)) := by
  refine w_bI cX2_hasBoard 2 .boolean (by decide) rfl (Nat.le_of_ble_eq_true rfl) (Or.inr rfl) ?_
  intro p e s m args below meth c0 ls Q hx hb hml hts hown hK hN hA hret hP hD hS hl
  have hl : lv_has ls 2 [(0, .ref (a 11)), (1, .int (nI (x)))] := hl
  have hinX2 : ∀ w ∈ wsX20, w ∈ wsX2_hasBoard := fun w h => List.mem_cons_of_mem _ (List.mem_append_right _ h)
  refine lv_iload_n hx hb dX2_hasBoard_0 rfl (lv_at hl 1 rfl) ?_
  refine w_if_lt (x := x) hx hb dX2_hasBoard_1 (tgt := 22) (by decide) (by omega) ?_
  refine lv_iload_n hx hb dX2_hasBoard_4 rfl (lv_at hl 1 rfl) ?_
  refine lv_aload_n hx hb dX2_hasBoard_5 rfl (lv_at hl 0 rfl) ?_
  refine va_get (D := D) (ci := 2) (v := .int (nI (v 11 0))) (C := RX2) (T := TX2) (N := 5) hx hb hts hinX2 hown hK hP 11 rfl rfl 0 (by decide) (hts (.fieldLink RX2 21 "DancedLock$Floor" "boards" "I") (List.mem_of_getElem? (i := 1) rfl)) (fun _ h9 => h9) rfl dX2_hasBoard_6 ?_
  refine w_icmp_ge (x := x) (y := v 11 0) hx hb dX2_hasBoard_9 (tgt := 22) (by decide) (by omega) (by omega) (fun c9 => ?_) (fun c9 => ?_)
  · skip
    refine lv_iconst (v := nI (0)) hx hb dX2_hasBoard_22 (by decide) ?_
    exact hret (nI (0)) () _ _ 23 _ dX2_hasBoard_23 rfl (by exact Or.inr ⟨rfl, by omega⟩) hP hD hS
  · skip
    refine lv_iload_n hx hb dX2_hasBoard_12 rfl (lv_at hl 1 rfl) ?_
    refine lv_bipush (v := nI (7)) hx hb dX2_hasBoard_13 (by decide) ?_
    refine w_icmp_ge (x := x) (y := 7) hx hb dX2_hasBoard_15 (tgt := 22) (by decide) (by omega) (by omega) (fun c15 => ?_) (fun c15 => ?_)
    · skip
      refine lv_iconst (v := nI (0)) hx hb dX2_hasBoard_22 (by decide) ?_
      exact hret (nI (0)) () _ _ 23 _ dX2_hasBoard_23 rfl (by exact Or.inr ⟨rfl, by omega⟩) hP hD hS
    · skip
      refine lv_iconst (v := nI (1)) hx hb dX2_hasBoard_18 (by decide) ?_
      refine lv_goto (tgt := 23) hx hb dX2_hasBoard_19 (by decide) ?_
      exact hret (nI (1)) () _ _ 23 _ dX2_hasBoard_23 rfl (by exact Or.inl ⟨rfl, by omega⟩) hP hD hS

set_option maxHeartbeats 4000000 in
set_option maxRecDepth 100000 in
theorem k_hasBoard_R (l : Launch) (D : va_G) (a : Nat → Nat) (cI cJ cZ : ClassId) (A : Nat → Prop) (v : Nat → Nat → Nat) (c : Nat → Nat → Int32) (x : Int32) (hlim : v 11 0 ≤ 7) :
    mI l yX2_hasBoard wsX2_hasBoard 0 0 [.ref (a 11), .int x] D (xT cI cJ cZ) A (xW a cI cJ cZ v c) (fun _ : Unit => xW a cI cJ cZ v c)
    (fun (r : Int32) (u : Unit) => (∃ j : Nat, r = nI (1) ∧ j < v 11 0 ∧ x = nI j) ∨ (r = nI (0) ∧ (x.toInt < 0 ∨ (v 11 0 : Int) ≤ x.toInt))) := by
  refine w_bI cX2_hasBoard 2 .boolean (by decide) rfl (Nat.le_of_ble_eq_true rfl) (Or.inr rfl) ?_
  intro p e s m args below meth c0 ls Q hx hb hml hts hown hK hN hA hret hP hD hS hl
  have hl : lv_has ls 2 [(0, .ref (a 11)), (1, .int x)] := hl
  have hinX2 : ∀ w ∈ wsX20, w ∈ wsX2_hasBoard := fun w h => List.mem_cons_of_mem _ (List.mem_append_right _ h)
  refine lv_iload_n hx hb dX2_hasBoard_0 rfl (lv_at hl 1 rfl) ?_
  refine r_if_lt hx hb dX2_hasBoard_1 (tgt := 22) (by decide) (fun c1 => ?_) (fun c1 => ?_)
  · skip
    refine lv_iconst (v := nI (0)) hx hb dX2_hasBoard_22 (by decide) ?_
    exact hret (nI (0)) () _ _ 23 _ dX2_hasBoard_23 rfl (by exact Or.inr ⟨rfl, by omega⟩) hP hD hS
  · skip
    obtain ⟨x', x'B, rfl⟩ := r_nat c1
    have x'T := n_tI x'B
    refine lv_iload_n hx hb dX2_hasBoard_4 rfl (lv_at hl 1 rfl) ?_
    refine lv_aload_n hx hb dX2_hasBoard_5 rfl (lv_at hl 0 rfl) ?_
    refine va_get (D := D) (ci := 2) (v := .int (nI (v 11 0))) (C := RX2) (T := TX2) (N := 5) hx hb hts hinX2 hown hK hP 11 rfl rfl 0 (by decide) (hts (.fieldLink RX2 21 "DancedLock$Floor" "boards" "I") (List.mem_of_getElem? (i := 1) rfl)) (fun _ h9 => h9) rfl dX2_hasBoard_6 ?_
    refine w_icmp_ge (x := x') (y := v 11 0) hx hb dX2_hasBoard_9 (tgt := 22) (by decide) (by omega) (by omega) (fun c9 => ?_) (fun c9 => ?_)
    · skip
      refine lv_iconst (v := nI (0)) hx hb dX2_hasBoard_22 (by decide) ?_
      exact hret (nI (0)) () _ _ 23 _ dX2_hasBoard_23 rfl (by exact Or.inr ⟨rfl, by omega⟩) hP hD hS
    · skip
      refine lv_iload_n hx hb dX2_hasBoard_12 rfl (lv_at hl 1 rfl) ?_
      refine lv_bipush (v := nI (7)) hx hb dX2_hasBoard_13 (by decide) ?_
      refine w_icmp_ge (x := x') (y := 7) hx hb dX2_hasBoard_15 (tgt := 22) (by decide) (by omega) (by omega) (fun c15 => ?_) (fun c15 => ?_)
      · skip
        refine lv_iconst (v := nI (0)) hx hb dX2_hasBoard_22 (by decide) ?_
        exact hret (nI (0)) () _ _ 23 _ dX2_hasBoard_23 rfl (by exact Or.inr ⟨rfl, by omega⟩) hP hD hS
      · skip
        refine lv_iconst (v := nI (1)) hx hb dX2_hasBoard_18 (by decide) ?_
        refine lv_goto (tgt := 23) hx hb dX2_hasBoard_19 (by decide) ?_
        exact hret (nI (1)) () _ _ 23 _ dX2_hasBoard_23 rfl (by exact Or.inl ⟨x', rfl, by omega, rfl⟩) hP hD hS

set_option maxHeartbeats 4000000 in
set_option maxRecDepth 100000 in
theorem k_hasDoor_N (l : Launch) (D : va_G) (a : Nat → Nat) (cI cJ cZ : ClassId) (A : Nat → Prop) (v : Nat → Nat → Nat) (c : Nat → Nat → Int32) (x : Nat) (hlim : v 11 1 ≤ 4) (hB : x < 2147483648) :
    mI l yX2_hasDoor wsX2_hasDoor 0 0 [.ref (a 11), .int (nI x)] D (xT cI cJ cZ) A (xW a cI cJ cZ v c) (fun _ : Unit => xW a cI cJ cZ v c)
    (fun (r : Int32) (u : Unit) => (r = nI (1) ∧ x < v 11 1) ∨ (r = nI (0) ∧ v 11 1 ≤ x)) := by
  refine w_bI cX2_hasDoor 2 .boolean (by decide) rfl (Nat.le_of_ble_eq_true rfl) (Or.inr rfl) ?_
  intro p e s m args below meth c0 ls Q hx hb hml hts hown hK hN hA hret hP hD hS hl
  have hl : lv_has ls 2 [(0, .ref (a 11)), (1, .int (nI (x)))] := hl
  have hinX2 : ∀ w ∈ wsX20, w ∈ wsX2_hasDoor := fun w h => List.mem_cons_of_mem _ (List.mem_append_right _ h)
  refine lv_iload_n hx hb dX2_hasDoor_0 rfl (lv_at hl 1 rfl) ?_
  refine w_if_lt (x := x) hx hb dX2_hasDoor_1 (tgt := 21) (by decide) (by omega) ?_
  refine lv_iload_n hx hb dX2_hasDoor_4 rfl (lv_at hl 1 rfl) ?_
  refine lv_aload_n hx hb dX2_hasDoor_5 rfl (lv_at hl 0 rfl) ?_
  refine va_get (D := D) (ci := 2) (v := .int (nI (v 11 1))) (C := RX2) (T := TX2) (N := 5) hx hb hts hinX2 hown hK hP 11 rfl rfl 1 (by decide) (hts (.fieldLink RX2 25 "DancedLock$Floor" "doors" "I") (List.mem_of_getElem? (i := 1) rfl)) (fun _ h9 => h9) rfl dX2_hasDoor_6 ?_
  refine w_icmp_ge (x := x) (y := v 11 1) hx hb dX2_hasDoor_9 (tgt := 21) (by decide) (by omega) (by omega) (fun c9 => ?_) (fun c9 => ?_)
  · skip
    refine lv_iconst (v := nI (0)) hx hb dX2_hasDoor_21 (by decide) ?_
    exact hret (nI (0)) () _ _ 22 _ dX2_hasDoor_22 rfl (by exact Or.inr ⟨rfl, by omega⟩) hP hD hS
  · skip
    refine lv_iload_n hx hb dX2_hasDoor_12 rfl (lv_at hl 1 rfl) ?_
    refine lv_iconst (v := nI (4)) hx hb dX2_hasDoor_13 (by decide) ?_
    refine w_icmp_ge (x := x) (y := 4) hx hb dX2_hasDoor_14 (tgt := 21) (by decide) (by omega) (by omega) (fun c14 => ?_) (fun c14 => ?_)
    · skip
      refine lv_iconst (v := nI (0)) hx hb dX2_hasDoor_21 (by decide) ?_
      exact hret (nI (0)) () _ _ 22 _ dX2_hasDoor_22 rfl (by exact Or.inr ⟨rfl, by omega⟩) hP hD hS
    · skip
      refine lv_iconst (v := nI (1)) hx hb dX2_hasDoor_17 (by decide) ?_
      refine lv_goto (tgt := 22) hx hb dX2_hasDoor_18 (by decide) ?_
      exact hret (nI (1)) () _ _ 22 _ dX2_hasDoor_22 rfl (by exact Or.inl ⟨rfl, by omega⟩) hP hD hS

set_option maxHeartbeats 4000000 in
set_option maxRecDepth 100000 in
theorem k_hasDoor_R (l : Launch) (D : va_G) (a : Nat → Nat) (cI cJ cZ : ClassId) (A : Nat → Prop) (v : Nat → Nat → Nat) (c : Nat → Nat → Int32) (x : Int32) (hlim : v 11 1 ≤ 4) :
    mI l yX2_hasDoor wsX2_hasDoor 0 0 [.ref (a 11), .int x] D (xT cI cJ cZ) A (xW a cI cJ cZ v c) (fun _ : Unit => xW a cI cJ cZ v c)
    (fun (r : Int32) (u : Unit) => (∃ j : Nat, r = nI (1) ∧ j < v 11 1 ∧ x = nI j) ∨ (r = nI (0) ∧ (x.toInt < 0 ∨ (v 11 1 : Int) ≤ x.toInt))) := by
  refine w_bI cX2_hasDoor 2 .boolean (by decide) rfl (Nat.le_of_ble_eq_true rfl) (Or.inr rfl) ?_
  intro p e s m args below meth c0 ls Q hx hb hml hts hown hK hN hA hret hP hD hS hl
  have hl : lv_has ls 2 [(0, .ref (a 11)), (1, .int x)] := hl
  have hinX2 : ∀ w ∈ wsX20, w ∈ wsX2_hasDoor := fun w h => List.mem_cons_of_mem _ (List.mem_append_right _ h)
  refine lv_iload_n hx hb dX2_hasDoor_0 rfl (lv_at hl 1 rfl) ?_
  refine r_if_lt hx hb dX2_hasDoor_1 (tgt := 21) (by decide) (fun c1 => ?_) (fun c1 => ?_)
  · skip
    refine lv_iconst (v := nI (0)) hx hb dX2_hasDoor_21 (by decide) ?_
    exact hret (nI (0)) () _ _ 22 _ dX2_hasDoor_22 rfl (by exact Or.inr ⟨rfl, by omega⟩) hP hD hS
  · skip
    obtain ⟨x', x'B, rfl⟩ := r_nat c1
    have x'T := n_tI x'B
    refine lv_iload_n hx hb dX2_hasDoor_4 rfl (lv_at hl 1 rfl) ?_
    refine lv_aload_n hx hb dX2_hasDoor_5 rfl (lv_at hl 0 rfl) ?_
    refine va_get (D := D) (ci := 2) (v := .int (nI (v 11 1))) (C := RX2) (T := TX2) (N := 5) hx hb hts hinX2 hown hK hP 11 rfl rfl 1 (by decide) (hts (.fieldLink RX2 25 "DancedLock$Floor" "doors" "I") (List.mem_of_getElem? (i := 1) rfl)) (fun _ h9 => h9) rfl dX2_hasDoor_6 ?_
    refine w_icmp_ge (x := x') (y := v 11 1) hx hb dX2_hasDoor_9 (tgt := 21) (by decide) (by omega) (by omega) (fun c9 => ?_) (fun c9 => ?_)
    · skip
      refine lv_iconst (v := nI (0)) hx hb dX2_hasDoor_21 (by decide) ?_
      exact hret (nI (0)) () _ _ 22 _ dX2_hasDoor_22 rfl (by exact Or.inr ⟨rfl, by omega⟩) hP hD hS
    · skip
      refine lv_iload_n hx hb dX2_hasDoor_12 rfl (lv_at hl 1 rfl) ?_
      refine lv_iconst (v := nI (4)) hx hb dX2_hasDoor_13 (by decide) ?_
      refine w_icmp_ge (x := x') (y := 4) hx hb dX2_hasDoor_14 (tgt := 21) (by decide) (by omega) (by omega) (fun c14 => ?_) (fun c14 => ?_)
      · skip
        refine lv_iconst (v := nI (0)) hx hb dX2_hasDoor_21 (by decide) ?_
        exact hret (nI (0)) () _ _ 22 _ dX2_hasDoor_22 rfl (by exact Or.inr ⟨rfl, by omega⟩) hP hD hS
      · skip
        refine lv_iconst (v := nI (1)) hx hb dX2_hasDoor_17 (by decide) ?_
        refine lv_goto (tgt := 22) hx hb dX2_hasDoor_18 (by decide) ?_
        exact hret (nI (1)) () _ _ 22 _ dX2_hasDoor_22 rfl (by exact Or.inl ⟨x', rfl, by omega, rfl⟩) hP hD hS

set_option maxHeartbeats 4000000 in
set_option maxRecDepth 100000 in
theorem kd_hasBoard_N (l : Launch) (D : va_G) (a : Nat → Nat) (cI cJ cZ : ClassId) (A : Nat → Prop) (v : Nat → Nat → Nat) (c : Nat → Nat → Int32) (x : Nat) (hlim : v 6 0 ≤ 7) (hB : x < 2147483648) :
    mI l yX2_hasBoard wsX2_hasBoard 0 0 [.ref (a 6), .int (nI x)] D (xT cI cJ cZ) A (xW a cI cJ cZ v c) (fun _ : Unit => xW a cI cJ cZ v c)
    (fun (r : Int32) (u : Unit) => (r = nI (1) ∧ x < v 6 0) ∨ (r = nI (0) ∧ v 6 0 ≤ x)) := by
  refine w_bI cX2_hasBoard 2 .boolean (by decide) rfl (Nat.le_of_ble_eq_true rfl) (Or.inr rfl) ?_
  intro p e s m args below meth c0 ls Q hx hb hml hts hown hK hN hA hret hP hD hS hl
  have hl : lv_has ls 2 [(0, .ref (a 6)), (1, .int (nI (x)))] := hl
  have hinX2 : ∀ w ∈ wsX20, w ∈ wsX2_hasBoard := fun w h => List.mem_cons_of_mem _ (List.mem_append_right _ h)
  refine lv_iload_n hx hb dX2_hasBoard_0 rfl (lv_at hl 1 rfl) ?_
  refine w_if_lt (x := x) hx hb dX2_hasBoard_1 (tgt := 22) (by decide) (by omega) ?_
  refine lv_iload_n hx hb dX2_hasBoard_4 rfl (lv_at hl 1 rfl) ?_
  refine lv_aload_n hx hb dX2_hasBoard_5 rfl (lv_at hl 0 rfl) ?_
  refine va_get (D := D) (ci := 2) (v := .int (nI (v 6 0))) (C := RX2) (T := TX2) (N := 5) hx hb hts hinX2 hown hK hP 6 rfl rfl 0 (by decide) (hts (.fieldLink RX2 21 "DancedLock$Floor" "boards" "I") (List.mem_of_getElem? (i := 1) rfl)) (fun _ h9 => h9) rfl dX2_hasBoard_6 ?_
  refine w_icmp_ge (x := x) (y := v 6 0) hx hb dX2_hasBoard_9 (tgt := 22) (by decide) (by omega) (by omega) (fun c9 => ?_) (fun c9 => ?_)
  · skip
    refine lv_iconst (v := nI (0)) hx hb dX2_hasBoard_22 (by decide) ?_
    exact hret (nI (0)) () _ _ 23 _ dX2_hasBoard_23 rfl (by exact Or.inr ⟨rfl, by omega⟩) hP hD hS
  · skip
    refine lv_iload_n hx hb dX2_hasBoard_12 rfl (lv_at hl 1 rfl) ?_
    refine lv_bipush (v := nI (7)) hx hb dX2_hasBoard_13 (by decide) ?_
    refine w_icmp_ge (x := x) (y := 7) hx hb dX2_hasBoard_15 (tgt := 22) (by decide) (by omega) (by omega) (fun c15 => ?_) (fun c15 => ?_)
    · skip
      refine lv_iconst (v := nI (0)) hx hb dX2_hasBoard_22 (by decide) ?_
      exact hret (nI (0)) () _ _ 23 _ dX2_hasBoard_23 rfl (by exact Or.inr ⟨rfl, by omega⟩) hP hD hS
    · skip
      refine lv_iconst (v := nI (1)) hx hb dX2_hasBoard_18 (by decide) ?_
      refine lv_goto (tgt := 23) hx hb dX2_hasBoard_19 (by decide) ?_
      exact hret (nI (1)) () _ _ 23 _ dX2_hasBoard_23 rfl (by exact Or.inl ⟨rfl, by omega⟩) hP hD hS

set_option maxHeartbeats 4000000 in
set_option maxRecDepth 100000 in
theorem kd_hasBoard_R (l : Launch) (D : va_G) (a : Nat → Nat) (cI cJ cZ : ClassId) (A : Nat → Prop) (v : Nat → Nat → Nat) (c : Nat → Nat → Int32) (x : Int32) (hlim : v 6 0 ≤ 7) :
    mI l yX2_hasBoard wsX2_hasBoard 0 0 [.ref (a 6), .int x] D (xT cI cJ cZ) A (xW a cI cJ cZ v c) (fun _ : Unit => xW a cI cJ cZ v c)
    (fun (r : Int32) (u : Unit) => (∃ j : Nat, r = nI (1) ∧ j < v 6 0 ∧ x = nI j) ∨ (r = nI (0) ∧ (x.toInt < 0 ∨ (v 6 0 : Int) ≤ x.toInt))) := by
  refine w_bI cX2_hasBoard 2 .boolean (by decide) rfl (Nat.le_of_ble_eq_true rfl) (Or.inr rfl) ?_
  intro p e s m args below meth c0 ls Q hx hb hml hts hown hK hN hA hret hP hD hS hl
  have hl : lv_has ls 2 [(0, .ref (a 6)), (1, .int x)] := hl
  have hinX2 : ∀ w ∈ wsX20, w ∈ wsX2_hasBoard := fun w h => List.mem_cons_of_mem _ (List.mem_append_right _ h)
  refine lv_iload_n hx hb dX2_hasBoard_0 rfl (lv_at hl 1 rfl) ?_
  refine r_if_lt hx hb dX2_hasBoard_1 (tgt := 22) (by decide) (fun c1 => ?_) (fun c1 => ?_)
  · skip
    refine lv_iconst (v := nI (0)) hx hb dX2_hasBoard_22 (by decide) ?_
    exact hret (nI (0)) () _ _ 23 _ dX2_hasBoard_23 rfl (by exact Or.inr ⟨rfl, by omega⟩) hP hD hS
  · skip
    obtain ⟨x', x'B, rfl⟩ := r_nat c1
    have x'T := n_tI x'B
    refine lv_iload_n hx hb dX2_hasBoard_4 rfl (lv_at hl 1 rfl) ?_
    refine lv_aload_n hx hb dX2_hasBoard_5 rfl (lv_at hl 0 rfl) ?_
    refine va_get (D := D) (ci := 2) (v := .int (nI (v 6 0))) (C := RX2) (T := TX2) (N := 5) hx hb hts hinX2 hown hK hP 6 rfl rfl 0 (by decide) (hts (.fieldLink RX2 21 "DancedLock$Floor" "boards" "I") (List.mem_of_getElem? (i := 1) rfl)) (fun _ h9 => h9) rfl dX2_hasBoard_6 ?_
    refine w_icmp_ge (x := x') (y := v 6 0) hx hb dX2_hasBoard_9 (tgt := 22) (by decide) (by omega) (by omega) (fun c9 => ?_) (fun c9 => ?_)
    · skip
      refine lv_iconst (v := nI (0)) hx hb dX2_hasBoard_22 (by decide) ?_
      exact hret (nI (0)) () _ _ 23 _ dX2_hasBoard_23 rfl (by exact Or.inr ⟨rfl, by omega⟩) hP hD hS
    · skip
      refine lv_iload_n hx hb dX2_hasBoard_12 rfl (lv_at hl 1 rfl) ?_
      refine lv_bipush (v := nI (7)) hx hb dX2_hasBoard_13 (by decide) ?_
      refine w_icmp_ge (x := x') (y := 7) hx hb dX2_hasBoard_15 (tgt := 22) (by decide) (by omega) (by omega) (fun c15 => ?_) (fun c15 => ?_)
      · skip
        refine lv_iconst (v := nI (0)) hx hb dX2_hasBoard_22 (by decide) ?_
        exact hret (nI (0)) () _ _ 23 _ dX2_hasBoard_23 rfl (by exact Or.inr ⟨rfl, by omega⟩) hP hD hS
      · skip
        refine lv_iconst (v := nI (1)) hx hb dX2_hasBoard_18 (by decide) ?_
        refine lv_goto (tgt := 23) hx hb dX2_hasBoard_19 (by decide) ?_
        exact hret (nI (1)) () _ _ 23 _ dX2_hasBoard_23 rfl (by exact Or.inl ⟨x', rfl, by omega, rfl⟩) hP hD hS

set_option maxHeartbeats 4000000 in
set_option maxRecDepth 100000 in
theorem kd_hasDoor_N (l : Launch) (D : va_G) (a : Nat → Nat) (cI cJ cZ : ClassId) (A : Nat → Prop) (v : Nat → Nat → Nat) (c : Nat → Nat → Int32) (x : Nat) (hlim : v 6 1 ≤ 4) (hB : x < 2147483648) :
    mI l yX2_hasDoor wsX2_hasDoor 0 0 [.ref (a 6), .int (nI x)] D (xT cI cJ cZ) A (xW a cI cJ cZ v c) (fun _ : Unit => xW a cI cJ cZ v c)
    (fun (r : Int32) (u : Unit) => (r = nI (1) ∧ x < v 6 1) ∨ (r = nI (0) ∧ v 6 1 ≤ x)) := by
  refine w_bI cX2_hasDoor 2 .boolean (by decide) rfl (Nat.le_of_ble_eq_true rfl) (Or.inr rfl) ?_
  intro p e s m args below meth c0 ls Q hx hb hml hts hown hK hN hA hret hP hD hS hl
  have hl : lv_has ls 2 [(0, .ref (a 6)), (1, .int (nI (x)))] := hl
  have hinX2 : ∀ w ∈ wsX20, w ∈ wsX2_hasDoor := fun w h => List.mem_cons_of_mem _ (List.mem_append_right _ h)
  refine lv_iload_n hx hb dX2_hasDoor_0 rfl (lv_at hl 1 rfl) ?_
  refine w_if_lt (x := x) hx hb dX2_hasDoor_1 (tgt := 21) (by decide) (by omega) ?_
  refine lv_iload_n hx hb dX2_hasDoor_4 rfl (lv_at hl 1 rfl) ?_
  refine lv_aload_n hx hb dX2_hasDoor_5 rfl (lv_at hl 0 rfl) ?_
  refine va_get (D := D) (ci := 2) (v := .int (nI (v 6 1))) (C := RX2) (T := TX2) (N := 5) hx hb hts hinX2 hown hK hP 6 rfl rfl 1 (by decide) (hts (.fieldLink RX2 25 "DancedLock$Floor" "doors" "I") (List.mem_of_getElem? (i := 1) rfl)) (fun _ h9 => h9) rfl dX2_hasDoor_6 ?_
  refine w_icmp_ge (x := x) (y := v 6 1) hx hb dX2_hasDoor_9 (tgt := 21) (by decide) (by omega) (by omega) (fun c9 => ?_) (fun c9 => ?_)
  · skip
    refine lv_iconst (v := nI (0)) hx hb dX2_hasDoor_21 (by decide) ?_
    exact hret (nI (0)) () _ _ 22 _ dX2_hasDoor_22 rfl (by exact Or.inr ⟨rfl, by omega⟩) hP hD hS
  · skip
    refine lv_iload_n hx hb dX2_hasDoor_12 rfl (lv_at hl 1 rfl) ?_
    refine lv_iconst (v := nI (4)) hx hb dX2_hasDoor_13 (by decide) ?_
    refine w_icmp_ge (x := x) (y := 4) hx hb dX2_hasDoor_14 (tgt := 21) (by decide) (by omega) (by omega) (fun c14 => ?_) (fun c14 => ?_)
    · skip
      refine lv_iconst (v := nI (0)) hx hb dX2_hasDoor_21 (by decide) ?_
      exact hret (nI (0)) () _ _ 22 _ dX2_hasDoor_22 rfl (by exact Or.inr ⟨rfl, by omega⟩) hP hD hS
    · skip
      refine lv_iconst (v := nI (1)) hx hb dX2_hasDoor_17 (by decide) ?_
      refine lv_goto (tgt := 22) hx hb dX2_hasDoor_18 (by decide) ?_
      exact hret (nI (1)) () _ _ 22 _ dX2_hasDoor_22 rfl (by exact Or.inl ⟨rfl, by omega⟩) hP hD hS

set_option maxHeartbeats 4000000 in
set_option maxRecDepth 100000 in
theorem kd_hasDoor_R (l : Launch) (D : va_G) (a : Nat → Nat) (cI cJ cZ : ClassId) (A : Nat → Prop) (v : Nat → Nat → Nat) (c : Nat → Nat → Int32) (x : Int32) (hlim : v 6 1 ≤ 4) :
    mI l yX2_hasDoor wsX2_hasDoor 0 0 [.ref (a 6), .int x] D (xT cI cJ cZ) A (xW a cI cJ cZ v c) (fun _ : Unit => xW a cI cJ cZ v c)
    (fun (r : Int32) (u : Unit) => (∃ j : Nat, r = nI (1) ∧ j < v 6 1 ∧ x = nI j) ∨ (r = nI (0) ∧ (x.toInt < 0 ∨ (v 6 1 : Int) ≤ x.toInt))) := by
  refine w_bI cX2_hasDoor 2 .boolean (by decide) rfl (Nat.le_of_ble_eq_true rfl) (Or.inr rfl) ?_
  intro p e s m args below meth c0 ls Q hx hb hml hts hown hK hN hA hret hP hD hS hl
  have hl : lv_has ls 2 [(0, .ref (a 6)), (1, .int x)] := hl
  have hinX2 : ∀ w ∈ wsX20, w ∈ wsX2_hasDoor := fun w h => List.mem_cons_of_mem _ (List.mem_append_right _ h)
  refine lv_iload_n hx hb dX2_hasDoor_0 rfl (lv_at hl 1 rfl) ?_
  refine r_if_lt hx hb dX2_hasDoor_1 (tgt := 21) (by decide) (fun c1 => ?_) (fun c1 => ?_)
  · skip
    refine lv_iconst (v := nI (0)) hx hb dX2_hasDoor_21 (by decide) ?_
    exact hret (nI (0)) () _ _ 22 _ dX2_hasDoor_22 rfl (by exact Or.inr ⟨rfl, by omega⟩) hP hD hS
  · skip
    obtain ⟨x', x'B, rfl⟩ := r_nat c1
    have x'T := n_tI x'B
    refine lv_iload_n hx hb dX2_hasDoor_4 rfl (lv_at hl 1 rfl) ?_
    refine lv_aload_n hx hb dX2_hasDoor_5 rfl (lv_at hl 0 rfl) ?_
    refine va_get (D := D) (ci := 2) (v := .int (nI (v 6 1))) (C := RX2) (T := TX2) (N := 5) hx hb hts hinX2 hown hK hP 6 rfl rfl 1 (by decide) (hts (.fieldLink RX2 25 "DancedLock$Floor" "doors" "I") (List.mem_of_getElem? (i := 1) rfl)) (fun _ h9 => h9) rfl dX2_hasDoor_6 ?_
    refine w_icmp_ge (x := x') (y := v 6 1) hx hb dX2_hasDoor_9 (tgt := 21) (by decide) (by omega) (by omega) (fun c9 => ?_) (fun c9 => ?_)
    · skip
      refine lv_iconst (v := nI (0)) hx hb dX2_hasDoor_21 (by decide) ?_
      exact hret (nI (0)) () _ _ 22 _ dX2_hasDoor_22 rfl (by exact Or.inr ⟨rfl, by omega⟩) hP hD hS
    · skip
      refine lv_iload_n hx hb dX2_hasDoor_12 rfl (lv_at hl 1 rfl) ?_
      refine lv_iconst (v := nI (4)) hx hb dX2_hasDoor_13 (by decide) ?_
      refine w_icmp_ge (x := x') (y := 4) hx hb dX2_hasDoor_14 (tgt := 21) (by decide) (by omega) (by omega) (fun c14 => ?_) (fun c14 => ?_)
      · skip
        refine lv_iconst (v := nI (0)) hx hb dX2_hasDoor_21 (by decide) ?_
        exact hret (nI (0)) () _ _ 22 _ dX2_hasDoor_22 rfl (by exact Or.inr ⟨rfl, by omega⟩) hP hD hS
      · skip
        refine lv_iconst (v := nI (1)) hx hb dX2_hasDoor_17 (by decide) ?_
        refine lv_goto (tgt := 22) hx hb dX2_hasDoor_18 (by decide) ?_
        exact hret (nI (1)) () _ _ 22 _ dX2_hasDoor_22 rfl (by exact Or.inl ⟨x', rfl, by omega, rfl⟩) hP hD hS

set_option maxHeartbeats 4000000 in
set_option maxRecDepth 100000 in
theorem k_tincl_N (l : Launch) (D : va_G) (a : Nat → Nat) (cI cJ cZ : ClassId) (A : Nat → Prop) (v : Nat → Nat → Nat) (c : Nat → Nat → Int32) (x : Nat) (hlim : v 15 0 ≤ 4) (hB : x < 2147483648) :
    mI l yX5_includes wsX5_includes 0 0 [.ref (a 15), .int (nI x)] D (xT cI cJ cZ) A (xW a cI cJ cZ v c) (fun _ : Unit => xW a cI cJ cZ v c)
    (fun (r : Int32) (u : Unit) => (r = nI (1) ∧ x < v 15 0) ∨ (r = nI (0) ∧ v 15 0 ≤ x)) := by
  refine w_bI cX5_includes 2 .boolean (by decide) rfl (Nat.le_of_ble_eq_true rfl) (Or.inr rfl) ?_
  intro p e s m args below meth c0 ls Q hx hb hml hts hown hK hN hA hret hP hD hS hl
  have hl : lv_has ls 2 [(0, .ref (a 15)), (1, .int (nI (x)))] := hl
  have hinX5 : ∀ w ∈ wsX50, w ∈ wsX5_includes := fun w h => List.mem_cons_of_mem _ (List.mem_append_right _ h)
  refine lv_iload_n hx hb dX5_includes_0 rfl (lv_at hl 1 rfl) ?_
  refine w_if_lt (x := x) hx hb dX5_includes_1 (tgt := 21) (by decide) (by omega) ?_
  refine lv_iload_n hx hb dX5_includes_4 rfl (lv_at hl 1 rfl) ?_
  refine lv_aload_n hx hb dX5_includes_5 rfl (lv_at hl 0 rfl) ?_
  refine va_get (D := D) (ci := 5) (v := .int (nI (v 15 0))) (C := RX5) (T := TX5) (N := 3) hx hb hts hinX5 hown hK hP 15 rfl rfl 0 (by decide) (hts (.fieldLink RX5 18 "DancedLock$Troupe" "count" "I") (List.mem_of_getElem? (i := 1) rfl)) (fun _ h9 => h9) rfl dX5_includes_6 ?_
  refine w_icmp_ge (x := x) (y := v 15 0) hx hb dX5_includes_9 (tgt := 21) (by decide) (by omega) (by omega) (fun c9 => ?_) (fun c9 => ?_)
  · skip
    refine lv_iconst (v := nI (0)) hx hb dX5_includes_21 (by decide) ?_
    exact hret (nI (0)) () _ _ 22 _ dX5_includes_22 rfl (by exact Or.inr ⟨rfl, by omega⟩) hP hD hS
  · skip
    refine lv_iload_n hx hb dX5_includes_12 rfl (lv_at hl 1 rfl) ?_
    refine lv_iconst (v := nI (4)) hx hb dX5_includes_13 (by decide) ?_
    refine w_icmp_ge (x := x) (y := 4) hx hb dX5_includes_14 (tgt := 21) (by decide) (by omega) (by omega) (fun c14 => ?_) (fun c14 => ?_)
    · skip
      refine lv_iconst (v := nI (0)) hx hb dX5_includes_21 (by decide) ?_
      exact hret (nI (0)) () _ _ 22 _ dX5_includes_22 rfl (by exact Or.inr ⟨rfl, by omega⟩) hP hD hS
    · skip
      refine lv_iconst (v := nI (1)) hx hb dX5_includes_17 (by decide) ?_
      refine lv_goto (tgt := 22) hx hb dX5_includes_18 (by decide) ?_
      exact hret (nI (1)) () _ _ 22 _ dX5_includes_22 rfl (by exact Or.inl ⟨rfl, by omega⟩) hP hD hS

set_option maxHeartbeats 4000000 in
set_option maxRecDepth 100000 in
theorem k_tincl_R (l : Launch) (D : va_G) (a : Nat → Nat) (cI cJ cZ : ClassId) (A : Nat → Prop) (v : Nat → Nat → Nat) (c : Nat → Nat → Int32) (x : Int32) (hlim : v 15 0 ≤ 4) :
    mI l yX5_includes wsX5_includes 0 0 [.ref (a 15), .int x] D (xT cI cJ cZ) A (xW a cI cJ cZ v c) (fun _ : Unit => xW a cI cJ cZ v c)
    (fun (r : Int32) (u : Unit) => (∃ j : Nat, r = nI (1) ∧ j < v 15 0 ∧ x = nI j) ∨ (r = nI (0) ∧ (x.toInt < 0 ∨ (v 15 0 : Int) ≤ x.toInt))) := by
  refine w_bI cX5_includes 2 .boolean (by decide) rfl (Nat.le_of_ble_eq_true rfl) (Or.inr rfl) ?_
  intro p e s m args below meth c0 ls Q hx hb hml hts hown hK hN hA hret hP hD hS hl
  have hl : lv_has ls 2 [(0, .ref (a 15)), (1, .int x)] := hl
  have hinX5 : ∀ w ∈ wsX50, w ∈ wsX5_includes := fun w h => List.mem_cons_of_mem _ (List.mem_append_right _ h)
  refine lv_iload_n hx hb dX5_includes_0 rfl (lv_at hl 1 rfl) ?_
  refine r_if_lt hx hb dX5_includes_1 (tgt := 21) (by decide) (fun c1 => ?_) (fun c1 => ?_)
  · skip
    refine lv_iconst (v := nI (0)) hx hb dX5_includes_21 (by decide) ?_
    exact hret (nI (0)) () _ _ 22 _ dX5_includes_22 rfl (by exact Or.inr ⟨rfl, by omega⟩) hP hD hS
  · skip
    obtain ⟨x', x'B, rfl⟩ := r_nat c1
    have x'T := n_tI x'B
    refine lv_iload_n hx hb dX5_includes_4 rfl (lv_at hl 1 rfl) ?_
    refine lv_aload_n hx hb dX5_includes_5 rfl (lv_at hl 0 rfl) ?_
    refine va_get (D := D) (ci := 5) (v := .int (nI (v 15 0))) (C := RX5) (T := TX5) (N := 3) hx hb hts hinX5 hown hK hP 15 rfl rfl 0 (by decide) (hts (.fieldLink RX5 18 "DancedLock$Troupe" "count" "I") (List.mem_of_getElem? (i := 1) rfl)) (fun _ h9 => h9) rfl dX5_includes_6 ?_
    refine w_icmp_ge (x := x') (y := v 15 0) hx hb dX5_includes_9 (tgt := 21) (by decide) (by omega) (by omega) (fun c9 => ?_) (fun c9 => ?_)
    · skip
      refine lv_iconst (v := nI (0)) hx hb dX5_includes_21 (by decide) ?_
      exact hret (nI (0)) () _ _ 22 _ dX5_includes_22 rfl (by exact Or.inr ⟨rfl, by omega⟩) hP hD hS
    · skip
      refine lv_iload_n hx hb dX5_includes_12 rfl (lv_at hl 1 rfl) ?_
      refine lv_iconst (v := nI (4)) hx hb dX5_includes_13 (by decide) ?_
      refine w_icmp_ge (x := x') (y := 4) hx hb dX5_includes_14 (tgt := 21) (by decide) (by omega) (by omega) (fun c14 => ?_) (fun c14 => ?_)
      · skip
        refine lv_iconst (v := nI (0)) hx hb dX5_includes_21 (by decide) ?_
        exact hret (nI (0)) () _ _ 22 _ dX5_includes_22 rfl (by exact Or.inr ⟨rfl, by omega⟩) hP hD hS
      · skip
        refine lv_iconst (v := nI (1)) hx hb dX5_includes_17 (by decide) ?_
        refine lv_goto (tgt := 22) hx hb dX5_includes_18 (by decide) ?_
        exact hret (nI (1)) () _ _ 22 _ dX5_includes_22 rfl (by exact Or.inl ⟨x', rfl, by omega, rfl⟩) hP hD hS

set_option maxHeartbeats 4000000 in
set_option maxRecDepth 100000 in
theorem k_stands (l : Launch) (D : va_G) (a : Nat → Nat) (cI cJ cZ : ClassId) (A : Nat → Prop) (v : Nat → Nat → Nat) (c : Nat → Nat → Int32) (hnd : v 11 1 ≤ 4) :
    mI l yX2_stands wsX2_stands 0 0 [.ref (a 11)] D (xT cI cJ cZ) A (xW a cI cJ cZ v c) (fun _ : Unit => xW a cI cJ cZ v c)
    (fun (r : Int32) (u : Unit) => (r = nI (1) ∧ 0 < v 11 1) ∨ (r = nI (0) ∧ v 11 1 = 0)) := by
  refine w_bI cX2_stands 1 .boolean (by decide) rfl (Nat.le_of_ble_eq_true rfl) (Or.inr rfl) ?_
  intro p e s m args below meth c0 ls Q hx hb hml hts hown hK hN hA hret hP hD hS hl
  have hl : lv_has ls 1 [(0, .ref (a 11))] := hl
  have hinX2 : ∀ w ∈ wsX20, w ∈ wsX2_stands := fun w h => List.mem_cons_of_mem _ (List.mem_append_right _ h)
  refine lv_aload_n hx hb dX2_stands_0 rfl (lv_at hl 0 rfl) ?_
  refine va_get (D := D) (ci := 2) (v := .int (nI (v 11 1))) (C := RX2) (T := TX2) (N := 5) hx hb hts hinX2 hown hK hP 11 rfl rfl 1 (by decide) (hts (.fieldLink RX2 25 "DancedLock$Floor" "doors" "I") (List.mem_of_getElem? (i := 1) rfl)) (fun _ h9 => h9) rfl dX2_stands_1 ?_
  refine w_if_le (x := v 11 1) hx hb dX2_stands_4 (tgt := 11) (by decide) (by omega) (fun c4 => ?_) (fun c4 => ?_)
  · skip
    refine lv_iconst (v := nI (0)) hx hb dX2_stands_11 (by decide) ?_
    exact hret (nI (0)) () _ _ 12 _ dX2_stands_12 rfl (by exact Or.inr ⟨rfl, by omega⟩) hP hD hS
  · skip
    refine lv_iconst (v := nI (1)) hx hb dX2_stands_7 (by decide) ?_
    refine lv_goto (tgt := 12) hx hb dX2_stands_8 (by decide) ?_
    exact hret (nI (1)) () _ _ 12 _ dX2_stands_12 rfl (by exact Or.inl ⟨rfl, by omega⟩) hP hD hS

set_option maxHeartbeats 4000000 in
set_option maxRecDepth 100000 in
theorem k_hasBeat_N (l : Launch) (D : va_G) (a : Nat → Nat) (cI cJ cZ : ClassId) (A : Nat → Prop) (v : Nat → Nat → Nat) (c : Nat → Nat → Int32) (d : Nat) (k : Nat) (hnd : v 11 1 ≤ 4) (hbt : ∀ d, d < v 11 1 → 1 ≤ v 13 d ∧ v 13 d ≤ 6) (hd : d < v 11 1) (hB : k < 2147483648) :
    mI l yX2_hasBeat wsX2_hasBeat 1 21 [.ref (a 11), .int (nI d), .int (nI k)] D (xT cI cJ cZ) A (xW a cI cJ cZ v c) (fun _ : Unit => xW a cI cJ cZ v c)
    (fun (r : Int32) (u : Unit) => (r = nI (1) ∧ k < v 13 d) ∨ (r = nI (0) ∧ v 13 d ≤ k)) := by
  refine w_bI cX2_hasBeat 3 .boolean (by decide) rfl (Nat.le_of_ble_eq_true rfl) (Or.inr rfl) ?_
  intro p e s m args below meth c0 ls Q hx hb hml hts hown hK hN hA hret hP hD hS hl
  have hl : lv_has ls 3 [(0, .ref (a 11)), (1, .int (nI (d))), (2, .int (nI (k)))] := hl
  have hinX2 : ∀ w ∈ wsX20, w ∈ wsX2_hasBeat := fun w h => List.mem_cons_of_mem _ (List.mem_append_right _ h)
  have hbd := hbt d hd
  refine lv_aload_n hx hb dX2_hasBeat_0 rfl (lv_at hl 0 rfl) ?_
  refine lv_iload_n hx hb dX2_hasBeat_1 rfl (lv_at hl 1 rfl) ?_
  refine w_cVi (rest := []) hx hb hml hown hts (k_hasDoor_N l D a cI cJ cZ A v c d  (by first | assumption | omega) (by first | assumption | omega)) 1 gX2_hasBeat_X2_hasDoor rfl hdX2_hasDoor ⟨Nat.le_of_ble_eq_true rfl, Nat.le_of_ble_eq_true rfl⟩ hK hN hP hD hS hA 11 2 rfl rfl rfl rfl hl.1 rfl (Nat.le_of_ble_eq_true rfl) dX2_hasBeat_2 ⟨Nat.le_of_ble_eq_true rfl, Nat.le_of_ble_eq_true rfl⟩ (fun r u H locs hq hP hD hS => ?_)
  rcases hq with ⟨rfl, h_2⟩ | ⟨rfl, h_2⟩
  · skip
    have hP : va_P D vwCl (xW a cI cJ cZ v c) H := hP
    have hD : va_D A (xW a cI cJ cZ v c) := hD
    refine w_if_eq (x := 1) hx hb dX2_hasBeat_5 (tgt := 32) (by decide) (by decide) (fun h => absurd h (by decide)) (fun _ => ?_)
    refine lv_iload_n hx hb dX2_hasBeat_8 rfl (lv_at hl 2 rfl) ?_
    refine w_if_lt (x := k) hx hb dX2_hasBeat_9 (tgt := 32) (by decide) (by omega) ?_
    refine lv_iload_n hx hb dX2_hasBeat_12 rfl (lv_at hl 2 rfl) ?_
    refine lv_aload_n hx hb dX2_hasBeat_13 rfl (lv_at hl 0 rfl) ?_
    refine va_get (D := D) (ci := 2) (v := .ref (a 13)) (C := RX2) (T := TX2) (N := 5) hx hb hts hinX2 hown hK hP 11 rfl rfl 3 (by decide) (hts (.fieldLink RX2 15 "DancedLock$Floor" "beats" "[I") (List.mem_of_getElem? (i := 1) rfl)) (fun _ h9 => h9) rfl dX2_hasBeat_14 ?_
    refine lv_iload_n hx hb dX2_hasBeat_17 rfl (lv_at hl 1 rfl) ?_
    refine w_iald (f := v 13) hx hb hK hP 13 0 rfl rfl (i := d) (by omega) (by decide) dX2_hasBeat_18 ?_
    refine w_icmp_ge (x := k) (y := v 13 d) hx hb dX2_hasBeat_19 (tgt := 32) (by decide) (by omega) (by omega) (fun c19 => ?_) (fun c19 => ?_)
    · skip
      refine lv_iconst (v := nI (0)) hx hb dX2_hasBeat_32 (by decide) ?_
      exact hret (nI (0)) () _ _ 33 _ dX2_hasBeat_33 rfl (by exact Or.inr ⟨rfl, by omega⟩) hP hD hS
    · skip
      refine lv_iload_n hx hb dX2_hasBeat_22 rfl (lv_at hl 2 rfl) ?_
      refine lv_bipush (v := nI (6)) hx hb dX2_hasBeat_23 (by decide) ?_
      refine w_icmp_ge (x := k) (y := 6) hx hb dX2_hasBeat_25 (tgt := 32) (by decide) (by omega) (by omega) (fun c25 => ?_) (fun c25 => ?_)
      · skip
        refine lv_iconst (v := nI (0)) hx hb dX2_hasBeat_32 (by decide) ?_
        exact hret (nI (0)) () _ _ 33 _ dX2_hasBeat_33 rfl (by exact Or.inr ⟨rfl, by omega⟩) hP hD hS
      · skip
        refine lv_iconst (v := nI (1)) hx hb dX2_hasBeat_28 (by decide) ?_
        refine lv_goto (tgt := 33) hx hb dX2_hasBeat_29 (by decide) ?_
        exact hret (nI (1)) () _ _ 33 _ dX2_hasBeat_33 rfl (by exact Or.inl ⟨rfl, by omega⟩) hP hD hS
  · skip
    exfalso; omega

set_option maxHeartbeats 4000000 in
set_option maxRecDepth 100000 in
theorem k_hasBeat_R (l : Launch) (D : va_G) (a : Nat → Nat) (cI cJ cZ : ClassId) (A : Nat → Prop) (v : Nat → Nat → Nat) (c : Nat → Nat → Int32) (d : Int32) (k : Int32) (hnd : v 11 1 ≤ 4) (hbt : ∀ d, d < v 11 1 → 1 ≤ v 13 d ∧ v 13 d ≤ 6) :
    mI l yX2_hasBeat wsX2_hasBeat 1 21 [.ref (a 11), .int d, .int k] D (xT cI cJ cZ) A (xW a cI cJ cZ v c) (fun _ : Unit => xW a cI cJ cZ v c)
    (fun (r : Int32) (u : Unit) => (∃ i : Nat, ∃ j : Nat, r = nI (1) ∧ i < v 11 1 ∧ j < v 13 i ∧ d = nI i ∧ k = nI j) ∨ (r = nI (0) ∧ (d.toInt < 0 ∨ (v 11 1 : Int) ≤ d.toInt)) ∨ (∃ i : Nat, r = nI (0) ∧ i < v 11 1 ∧ d = nI i ∧ (k.toInt < 0 ∨ (v 13 i : Int) ≤ k.toInt))) := by
  refine w_bI cX2_hasBeat 3 .boolean (by decide) rfl (Nat.le_of_ble_eq_true rfl) (Or.inr rfl) ?_
  intro p e s m args below meth c0 ls Q hx hb hml hts hown hK hN hA hret hP hD hS hl
  have hl : lv_has ls 3 [(0, .ref (a 11)), (1, .int d), (2, .int k)] := hl
  have hinX2 : ∀ w ∈ wsX20, w ∈ wsX2_hasBeat := fun w h => List.mem_cons_of_mem _ (List.mem_append_right _ h)
  refine lv_aload_n hx hb dX2_hasBeat_0 rfl (lv_at hl 0 rfl) ?_
  refine lv_iload_n hx hb dX2_hasBeat_1 rfl (lv_at hl 1 rfl) ?_
  refine w_cVi (rest := []) hx hb hml hown hts (k_hasDoor_R l D a cI cJ cZ A v c d  (by first | assumption | omega)) 1 gX2_hasBeat_X2_hasDoor rfl hdX2_hasDoor ⟨Nat.le_of_ble_eq_true rfl, Nat.le_of_ble_eq_true rfl⟩ hK hN hP hD hS hA 11 2 rfl rfl rfl rfl hl.1 rfl (Nat.le_of_ble_eq_true rfl) dX2_hasBeat_2 ⟨Nat.le_of_ble_eq_true rfl, Nat.le_of_ble_eq_true rfl⟩ (fun r u H locs hq hP hD hS => ?_)
  rcases hq with ⟨j_2, rfl, h_2, hs_x_2⟩ | ⟨rfl, h_2⟩
  · skip
    have hP : va_P D vwCl (xW a cI cJ cZ v c) H := hP
    have hD : va_D A (xW a cI cJ cZ v c) := hD
    subst hs_x_2
    have j_2T := n_tI (k := j_2) (by omega)
    refine w_if_eq (x := 1) hx hb dX2_hasBeat_5 (tgt := 32) (by decide) (by decide) (fun h => absurd h (by decide)) (fun _ => ?_)
    have hbd := hbt j_2 h_2
    refine lv_iload_n hx hb dX2_hasBeat_8 rfl (lv_at hl 2 rfl) ?_
    refine r_if_lt hx hb dX2_hasBeat_9 (tgt := 32) (by decide) (fun c9 => ?_) (fun c9 => ?_)
    · skip
      refine lv_iconst (v := nI (0)) hx hb dX2_hasBeat_32 (by decide) ?_
      exact hret (nI (0)) () _ _ 33 _ dX2_hasBeat_33 rfl (by first | (exact Or.inr (Or.inl ⟨rfl, h_2⟩)) | (exact Or.inr (Or.inr ⟨j_2, rfl, h_2, rfl, by omega⟩))) hP hD hS
    · skip
      obtain ⟨k', k'B, rfl⟩ := r_nat c9
      have k'T := n_tI k'B
      refine lv_iload_n hx hb dX2_hasBeat_12 rfl (lv_at hl 2 rfl) ?_
      refine lv_aload_n hx hb dX2_hasBeat_13 rfl (lv_at hl 0 rfl) ?_
      refine va_get (D := D) (ci := 2) (v := .ref (a 13)) (C := RX2) (T := TX2) (N := 5) hx hb hts hinX2 hown hK hP 11 rfl rfl 3 (by decide) (hts (.fieldLink RX2 15 "DancedLock$Floor" "beats" "[I") (List.mem_of_getElem? (i := 1) rfl)) (fun _ h9 => h9) rfl dX2_hasBeat_14 ?_
      refine lv_iload_n hx hb dX2_hasBeat_17 rfl (lv_at hl 1 rfl) ?_
      refine w_iald (f := v 13) hx hb hK hP 13 0 rfl rfl (i := j_2) (by omega) (by decide) dX2_hasBeat_18 ?_
      refine w_icmp_ge (x := k') (y := v 13 j_2) hx hb dX2_hasBeat_19 (tgt := 32) (by decide) (by omega) (by omega) (fun c19 => ?_) (fun c19 => ?_)
      · skip
        refine lv_iconst (v := nI (0)) hx hb dX2_hasBeat_32 (by decide) ?_
        exact hret (nI (0)) () _ _ 33 _ dX2_hasBeat_33 rfl (by first | (exact Or.inr (Or.inl ⟨rfl, h_2⟩)) | (exact Or.inr (Or.inr ⟨j_2, rfl, h_2, rfl, by omega⟩))) hP hD hS
      · skip
        refine lv_iload_n hx hb dX2_hasBeat_22 rfl (lv_at hl 2 rfl) ?_
        refine lv_bipush (v := nI (6)) hx hb dX2_hasBeat_23 (by decide) ?_
        refine w_icmp_ge (x := k') (y := 6) hx hb dX2_hasBeat_25 (tgt := 32) (by decide) (by omega) (by omega) (fun c25 => ?_) (fun c25 => ?_)
        · skip
          refine lv_iconst (v := nI (0)) hx hb dX2_hasBeat_32 (by decide) ?_
          exact hret (nI (0)) () _ _ 33 _ dX2_hasBeat_33 rfl (by first | (exact Or.inr (Or.inl ⟨rfl, h_2⟩)) | (exact Or.inr (Or.inr ⟨j_2, rfl, h_2, rfl, by omega⟩))) hP hD hS
        · skip
          refine lv_iconst (v := nI (1)) hx hb dX2_hasBeat_28 (by decide) ?_
          refine lv_goto (tgt := 33) hx hb dX2_hasBeat_29 (by decide) ?_
          exact hret (nI (1)) () _ _ 33 _ dX2_hasBeat_33 rfl (by exact Or.inl ⟨j_2, k', rfl, h_2, by omega, rfl, rfl⟩) hP hD hS
  · skip
    have hP : va_P D vwCl (xW a cI cJ cZ v c) H := hP
    have hD : va_D A (xW a cI cJ cZ v c) := hD
    refine w_if_eq (x := 0) hx hb dX2_hasBeat_5 (tgt := 32) (by decide) (by decide) (fun _ => ?_) (fun h => absurd h (by decide))
    refine lv_iconst (v := nI (0)) hx hb dX2_hasBeat_32 (by decide) ?_
    exact hret (nI (0)) () _ _ 33 _ dX2_hasBeat_33 rfl (by first | (exact Or.inr (Or.inl ⟨rfl, h_2⟩)) | (exact Or.inr (Or.inr ⟨j_2, rfl, h_2, rfl, by omega⟩))) hP hD hS

set_option maxHeartbeats 4000000 in
set_option maxRecDepth 100000 in
theorem k_beatsOf (l : Launch) (D : va_G) (a : Nat → Nat) (cI cJ cZ : ClassId) (A : Nat → Prop) (v : Nat → Nat → Nat) (c : Nat → Nat → Int32) (d : Nat) (hnd : v 11 1 ≤ 4) (hd : d < v 11 1) :
    mI l yX2_beatsOf wsX2_beatsOf 1 21 [.ref (a 11), .int (nI d)] D (xT cI cJ cZ) A (xW a cI cJ cZ v c) (fun _ : Unit => xW a cI cJ cZ v c)
    (fun (r : Int32) (u : Unit) => r = nI (v 13 d)) := by
  refine w_bI cX2_beatsOf 2 .int (by decide) rfl (Nat.le_of_ble_eq_true rfl) (Or.inl rfl) ?_
  intro p e s m args below meth c0 ls Q hx hb hml hts hown hK hN hA hret hP hD hS hl
  have hl : lv_has ls 2 [(0, .ref (a 11)), (1, .int (nI (d)))] := hl
  have hinX2 : ∀ w ∈ wsX20, w ∈ wsX2_beatsOf := fun w h => List.mem_cons_of_mem _ (List.mem_append_right _ h)
  refine lv_aload_n hx hb dX2_beatsOf_0 rfl (lv_at hl 0 rfl) ?_
  refine lv_iload_n hx hb dX2_beatsOf_1 rfl (lv_at hl 1 rfl) ?_
  refine w_cVi (rest := []) hx hb hml hown hts (k_hasDoor_N l D a cI cJ cZ A v c d  (by first | assumption | omega) (by first | assumption | omega)) 1 gX2_beatsOf_X2_hasDoor rfl hdX2_hasDoor ⟨Nat.le_of_ble_eq_true rfl, Nat.le_of_ble_eq_true rfl⟩ hK hN hP hD hS hA 11 2 rfl rfl rfl rfl hl.1 rfl (Nat.le_of_ble_eq_true rfl) dX2_beatsOf_2 ⟨Nat.le_of_ble_eq_true rfl, Nat.le_of_ble_eq_true rfl⟩ (fun r u H locs hq hP hD hS => ?_)
  rcases hq with ⟨rfl, h_2⟩ | ⟨rfl, h_2⟩
  · skip
    have hP : va_P D vwCl (xW a cI cJ cZ v c) H := hP
    have hD : va_D A (xW a cI cJ cZ v c) := hD
    refine w_if_eq (x := 1) hx hb dX2_beatsOf_5 (tgt := 17) (by decide) (by decide) (fun h => absurd h (by decide)) (fun _ => ?_)
    refine lv_aload_n hx hb dX2_beatsOf_8 rfl (lv_at hl 0 rfl) ?_
    refine va_get (D := D) (ci := 2) (v := .ref (a 13)) (C := RX2) (T := TX2) (N := 5) hx hb hts hinX2 hown hK hP 11 rfl rfl 3 (by decide) (hts (.fieldLink RX2 15 "DancedLock$Floor" "beats" "[I") (List.mem_of_getElem? (i := 1) rfl)) (fun _ h9 => h9) rfl dX2_beatsOf_9 ?_
    refine lv_iload_n hx hb dX2_beatsOf_12 rfl (lv_at hl 1 rfl) ?_
    refine w_iald (f := v 13) hx hb hK hP 13 0 rfl rfl (i := d) (by omega) (by decide) dX2_beatsOf_13 ?_
    refine lv_goto (tgt := 18) hx hb dX2_beatsOf_14 (by decide) ?_
    exact hret (nI (v 13 d)) () _ _ 18 _ dX2_beatsOf_18 rfl (by rfl) hP hD hS
  · skip
    exfalso; omega

set_option maxHeartbeats 4000000 in
set_option maxRecDepth 100000 in
theorem k_figureAt (l : Launch) (D : va_G) (a : Nat → Nat) (cI cJ cZ : ClassId) (A : Nat → Prop) (v : Nat → Nat → Nat) (c : Nat → Nat → Int32) (d : Nat) (k : Nat) (hnd : v 11 1 ≤ 4) (hbt : ∀ d, d < v 11 1 → 1 ≤ v 13 d ∧ v 13 d ≤ 6) (hd : d < v 11 1) (hB : k < 2147483648) :
    mI l yX2_figureAt wsX2_figureAt 2 43 [.ref (a 11), .int (nI d), .int (nI k)] D (xT cI cJ cZ) A (xW a cI cJ cZ v c) (fun _ : Unit => xW a cI cJ cZ v c)
    (fun (r : Int32) (u : Unit) => r = nI (if k < v 13 d then v 14 (d * 6 + k) else 0)) := by
  refine w_bI cX2_figureAt 3 .int (by decide) rfl (Nat.le_of_ble_eq_true rfl) (Or.inl rfl) ?_
  intro p e s m args below meth c0 ls Q hx hb hml hts hown hK hN hA hret hP hD hS hl
  have hl : lv_has ls 3 [(0, .ref (a 11)), (1, .int (nI (d))), (2, .int (nI (k)))] := hl
  have hinX2 : ∀ w ∈ wsX20, w ∈ wsX2_figureAt := fun w h => List.mem_cons_of_mem _ (List.mem_append_right _ h)
  have hbd := hbt d hd
  refine lv_aload_n hx hb dX2_figureAt_0 rfl (lv_at hl 0 rfl) ?_
  refine lv_iload_n hx hb dX2_figureAt_1 rfl (lv_at hl 1 rfl) ?_
  refine lv_iload_n hx hb dX2_figureAt_2 rfl (lv_at hl 2 rfl) ?_
  refine w_cVi (rest := []) hx hb hml hown hts (k_hasBeat_N l D a cI cJ cZ A v c d k  (by first | assumption | omega) (by first | assumption | omega) (by first | assumption | omega) (by first | assumption | omega)) 2 gX2_figureAt_X2_hasBeat rfl hdX2_hasBeat ⟨Nat.le_of_ble_eq_true rfl, Nat.le_of_ble_eq_true rfl⟩ hK hN hP hD hS hA 11 2 rfl rfl rfl rfl hl.1 rfl (Nat.le_of_ble_eq_true rfl) dX2_figureAt_3 ⟨Nat.le_of_ble_eq_true rfl, Nat.le_of_ble_eq_true rfl⟩ (fun r u H locs hq hP hD hS => ?_)
  rcases hq with ⟨rfl, h_3⟩ | ⟨rfl, h_3⟩
  · skip
    have hP : va_P D vwCl (xW a cI cJ cZ v c) H := hP
    have hD : va_D A (xW a cI cJ cZ v c) := hD
    refine w_if_eq (x := 1) hx hb dX2_figureAt_6 (tgt := 23) (by decide) (by decide) (fun h => absurd h (by decide)) (fun _ => ?_)
    refine lv_aload_n hx hb dX2_figureAt_9 rfl (lv_at hl 0 rfl) ?_
    refine va_get (D := D) (ci := 2) (v := .ref (a 14)) (C := RX2) (T := TX2) (N := 5) hx hb hts hinX2 hown hK hP 11 rfl rfl 4 (by decide) (hts (.fieldLink RX2 18 "DancedLock$Floor" "figures" "[I") (List.mem_of_getElem? (i := 1) rfl)) (fun _ h9 => h9) rfl dX2_figureAt_10 ?_
    refine lv_iload_n hx hb dX2_figureAt_13 rfl (lv_at hl 1 rfl) ?_
    refine lv_bipush (v := nI (6)) hx hb dX2_figureAt_14 (by decide) ?_
    refine w_imul (x := d) (y := 6) hx hb dX2_figureAt_16  ?_
    refine lv_iload_n hx hb dX2_figureAt_17 rfl (lv_at hl 2 rfl) ?_
    refine w_iadd (x := d * 6) (y := k) hx hb dX2_figureAt_18  ?_
    refine w_iald (f := v 14) hx hb hK hP 14 0 rfl rfl (i := d * 6 + k) (by omega) (by decide) dX2_figureAt_19 ?_
    refine lv_goto (tgt := 24) hx hb dX2_figureAt_20 (by decide) ?_
    exact hret (nI (v 14 (d * 6 + k))) () _ _ 24 _ dX2_figureAt_24 rfl (by rw [if_pos (by omega)]) hP hD hS
  · skip
    have hP : va_P D vwCl (xW a cI cJ cZ v c) H := hP
    have hD : va_D A (xW a cI cJ cZ v c) := hD
    refine w_if_eq (x := 0) hx hb dX2_figureAt_6 (tgt := 23) (by decide) (by decide) (fun _ => ?_) (fun h => absurd h (by decide))
    refine lv_iconst (v := nI (0)) hx hb dX2_figureAt_23 (by decide) ?_
    exact hret (nI (0)) () _ _ 24 _ dX2_figureAt_24 rfl (by rw [if_neg (by omega)]) hP hD hS

set_option maxHeartbeats 4000000 in
set_option maxRecDepth 100000 in
theorem k_tfull (l : Launch) (D : va_G) (a : Nat → Nat) (cI cJ cZ : ClassId) (A : Nat → Prop) (v : Nat → Nat → Nat) (c : Nat → Nat → Int32) (hnc : v 15 0 ≤ 4) :
    mI l yX5_isFull wsX5_isFull 0 0 [.ref (a 15)] D (xT cI cJ cZ) A (xW a cI cJ cZ v c) (fun _ : Unit => xW a cI cJ cZ v c)
    (fun (r : Int32) (u : Unit) => (r = nI (1) ∧ 4 ≤ v 15 0) ∨ (r = nI (0) ∧ v 15 0 < 4)) := by
  refine w_bI cX5_isFull 1 .boolean (by decide) rfl (Nat.le_of_ble_eq_true rfl) (Or.inr rfl) ?_
  intro p e s m args below meth c0 ls Q hx hb hml hts hown hK hN hA hret hP hD hS hl
  have hl : lv_has ls 1 [(0, .ref (a 15))] := hl
  have hinX5 : ∀ w ∈ wsX50, w ∈ wsX5_isFull := fun w h => List.mem_cons_of_mem _ (List.mem_append_right _ h)
  refine lv_aload_n hx hb dX5_isFull_0 rfl (lv_at hl 0 rfl) ?_
  refine va_get (D := D) (ci := 5) (v := .int (nI (v 15 0))) (C := RX5) (T := TX5) (N := 3) hx hb hts hinX5 hown hK hP 15 rfl rfl 0 (by decide) (hts (.fieldLink RX5 18 "DancedLock$Troupe" "count" "I") (List.mem_of_getElem? (i := 1) rfl)) (fun _ h9 => h9) rfl dX5_isFull_1 ?_
  refine lv_iconst (v := nI (4)) hx hb dX5_isFull_4 (by decide) ?_
  refine w_icmp_lt (x := v 15 0) (y := 4) hx hb dX5_isFull_5 (tgt := 12) (by decide) (by omega) (by omega) (fun c5 => ?_) (fun c5 => ?_)
  · skip
    refine lv_iconst (v := nI (0)) hx hb dX5_isFull_12 (by decide) ?_
    exact hret (nI (0)) () _ _ 13 _ dX5_isFull_13 rfl (by exact Or.inr ⟨rfl, by omega⟩) hP hD hS
  · skip
    refine lv_iconst (v := nI (1)) hx hb dX5_isFull_8 (by decide) ?_
    refine lv_goto (tgt := 13) hx hb dX5_isFull_9 (by decide) ?_
    exact hret (nI (1)) () _ _ 13 _ dX5_isFull_13 rfl (by exact Or.inl ⟨rfl, by omega⟩) hP hD hS

set_option maxHeartbeats 4000000 in
set_option maxRecDepth 100000 in
theorem k_join (l : Launch) (D : va_G) (a : Nat → Nat) (cI cJ cZ : ClassId) (A : Nat → Prop) (v : Nat → Nat → Nat) (c : Nat → Nat → Int32) (k : Nat) (w : Nat) (hnc : v 15 0 < 4) :
    mI l yX5_join wsX5_join 1 20 [.ref (a 15), .int (nI k), .int (nI w)] D (xT cI cJ cZ) A (xW a cI cJ cZ v c) (fun u : ((Nat → Nat → Nat) × (Nat → Nat → Int32)) => xW a cI cJ cZ u.1 u.2)
    (fun (r : Int32) (u : ((Nat → Nat → Nat) × (Nat → Nat → Int32))) => r = nI (v 15 0) ∧ u = (va_up (va_up (va_up v 15 (va_up (v 15) 0 (v 15 0 + 1))) 16 (va_up (v 16) (v 15 0) k)) 17 (va_up (v 17) (v 15 0) w), c)) := by
  refine w_bI cX5_join 3 .int (by decide) rfl (Nat.le_of_ble_eq_true rfl) (Or.inl rfl) ?_
  intro p e s m args below meth c0 ls Q hx hb hml hts hown hK hN hA hret hP hD hS hl
  have hl : lv_has ls 3 [(0, .ref (a 15)), (1, .int (nI (k))), (2, .int (nI (w)))] := hl
  have hinX5 : ∀ w ∈ wsX50, w ∈ wsX5_join := fun w h => List.mem_cons_of_mem _ (List.mem_append_right _ h)
  refine lv_aload_n hx hb dX5_join_0 rfl (lv_at hl 0 rfl) ?_
  refine w_cVi (rest := []) hx hb hml hown hts (k_tfull l D a cI cJ cZ A v c   (by first | assumption | omega)) 0 gX5_join_X5_isFull rfl hdX5_isFull ⟨Nat.le_of_ble_eq_true rfl, Nat.le_of_ble_eq_true rfl⟩ hK hN hP hD hS hA 15 5 rfl rfl rfl rfl hl.1 rfl (Nat.le_of_ble_eq_true rfl) dX5_join_1 ⟨Nat.le_of_ble_eq_true rfl, Nat.le_of_ble_eq_true rfl⟩ (fun r u H locs hq hP hD hS => ?_)
  rcases hq with ⟨rfl, h_1⟩ | ⟨rfl, h_1⟩
  · skip
    exfalso; omega
  · skip
    have hP : va_P D vwCl (xW a cI cJ cZ v c) H := hP
    have hD : va_D A (xW a cI cJ cZ v c) := hD
    refine w_if_eq (x := 0) hx hb dX5_join_4 (tgt := 10) (by decide) (by decide) (fun _ => ?_) (fun h => absurd h (by decide))
    refine lv_aload_n hx hb dX5_join_10 rfl (lv_at hl 0 rfl) ?_
    refine va_get (D := D) (ci := 5) (v := .ref (a 16)) (C := RX5) (T := TX5) (N := 3) hx hb hts hinX5 hown hK hP 15 rfl rfl 1 (by decide) (hts (.fieldLink RX5 11 "DancedLock$Troupe" "kinds" "[I") (List.mem_of_getElem? (i := 1) rfl)) (fun _ h9 => h9) rfl dX5_join_11 ?_
    refine lv_aload_n hx hb dX5_join_14 rfl (lv_at hl 0 rfl) ?_
    refine va_get (D := D) (ci := 5) (v := .int (nI (v 15 0))) (C := RX5) (T := TX5) (N := 3) hx hb hts hinX5 hown hK hP 15 rfl rfl 0 (by decide) (hts (.fieldLink RX5 18 "DancedLock$Troupe" "count" "I") (List.mem_of_getElem? (i := 2) rfl)) (fun _ h9 => h9) rfl dX5_join_15 ?_
    refine lv_iload_n hx hb dX5_join_18 rfl (lv_at hl 1 rfl) ?_
    refine w_iast (f := v 16) (w := k) hx hb hK hP hD hS 16 0 rfl rfl (i := v 15 0) (by omega) (by decide) dX5_join_19 (fun H locs hP hD hS => ?_)
    have hP : va_P D vwCl (xW a cI cJ cZ (va_up v 16 (va_up (v 16) (v 15 0) k)) c) H := hP
    have hD : va_D A (xW a cI cJ cZ (va_up v 16 (va_up (v 16) (v 15 0) k)) c) := hD
    refine lv_aload_n hx hb dX5_join_20 rfl (lv_at hl 0 rfl) ?_
    refine va_get (D := D) (ci := 5) (v := .ref (a 17)) (C := RX5) (T := TX5) (N := 3) hx hb hts hinX5 hown hK hP 15 rfl rfl 2 (by decide) (hts (.fieldLink RX5 15 "DancedLock$Troupe" "weights" "[I") (List.mem_of_getElem? (i := 3) rfl)) (fun _ h9 => h9) rfl dX5_join_21 ?_
    refine lv_aload_n hx hb dX5_join_24 rfl (lv_at hl 0 rfl) ?_
    refine va_get (D := D) (ci := 5) (v := .int (nI (v 15 0))) (C := RX5) (T := TX5) (N := 3) hx hb hts hinX5 hown hK hP 15 rfl rfl 0 (by decide) (hts (.fieldLink RX5 18 "DancedLock$Troupe" "count" "I") (List.mem_of_getElem? (i := 2) rfl)) (fun _ h9 => h9) rfl dX5_join_25 ?_
    refine lv_iload_n hx hb dX5_join_28 rfl (lv_at hl 2 rfl) ?_
    refine w_iast (f := v 17) (w := w) hx hb hK hP hD hS 17 0 rfl rfl (i := v 15 0) (by omega) (by decide) dX5_join_29 (fun H locs hP hD hS => ?_)
    have hP : va_P D vwCl (xW a cI cJ cZ (va_up (va_up v 16 (va_up (v 16) (v 15 0) k)) 17 (va_up (v 17) (v 15 0) w)) c) H := hP
    have hD : va_D A (xW a cI cJ cZ (va_up (va_up v 16 (va_up (v 16) (v 15 0) k)) 17 (va_up (v 17) (v 15 0) w)) c) := hD
    refine lv_aload_n hx hb dX5_join_30 rfl (lv_at hl 0 rfl) ?_
    refine lv_dup hx hb dX5_join_31 rfl ?_
    refine va_get (D := D) (ci := 5) (v := .int (nI (v 15 0))) (C := RX5) (T := TX5) (N := 3) hx hb hts hinX5 hown hK hP 15 rfl rfl 0 (by decide) (hts (.fieldLink RX5 18 "DancedLock$Troupe" "count" "I") (List.mem_of_getElem? (i := 2) rfl)) (fun _ h9 => h9) rfl dX5_join_32 ?_
    refine lv_iconst (v := nI (1)) hx hb dX5_join_35 (by decide) ?_
    refine w_iadd (x := v 15 0) (y := 1) hx hb dX5_join_36  ?_
    refine va_put (D := D) (ci := 5) (v := .int (nI (v 15 0 + 1))) (ty := .int) (C := RX5) (T := TX5) (N := 3) hx hb hts hinX5 tyX5 tyX5_ok nmX5 hown hK hP hD hS 15 rfl rfl 0 (by decide) (hts (.fieldLink RX5 18 "DancedLock$Troupe" "count" "I") (List.mem_of_getElem? (i := 2) rfl)) (fun _ h9 => h9) rfl (by decide +kernel) rfl (rfl) (Nat.le_of_ble_eq_true rfl) dX5_join_37 (fun H locs hP hD hS => ?_)
    have hP : va_P D vwCl (xW a cI cJ cZ (va_up (va_up (va_up v 15 (va_up (v 15) 0 (v 15 0 + 1))) 16 (va_up (v 16) (v 15 0) k)) 17 (va_up (v 17) (v 15 0) w)) c) H := hP
    have hD : va_D A (xW a cI cJ cZ (va_up (va_up (va_up v 15 (va_up (v 15) 0 (v 15 0 + 1))) 16 (va_up (v 16) (v 15 0) k)) 17 (va_up (v 17) (v 15 0) w)) c) := hD
    refine lv_aload_n hx hb dX5_join_40 rfl (lv_at hl 0 rfl) ?_
    refine va_get (D := D) (ci := 5) (v := .int (nI (v 15 0 + 1))) (C := RX5) (T := TX5) (N := 3) hx hb hts hinX5 hown hK hP 15 rfl rfl 0 (by decide) (hts (.fieldLink RX5 18 "DancedLock$Troupe" "count" "I") (List.mem_of_getElem? (i := 2) rfl)) (fun _ h9 => h9) rfl dX5_join_41 ?_
    refine lv_iconst (v := nI (1)) hx hb dX5_join_44 (by decide) ?_
    refine w_isub (x := v 15 0 + 1) (y := 1) hx hb dX5_join_45 (by omega) ?_
    exact hret (nI ((v 15 0 + 1) - 1)) (va_up (va_up (va_up v 15 (va_up (v 15) 0 (v 15 0 + 1))) 16 (va_up (v 16) (v 15 0) k)) 17 (va_up (v 17) (v 15 0) w), c) _ _ 46 _ dX5_join_46 rfl (by exact ⟨by rw [Nat.add_sub_cancel], rfl⟩) hP hD hS

set_option maxHeartbeats 4000000 in
set_option maxRecDepth 100000 in
theorem k_kindOf (l : Launch) (D : va_G) (a : Nat → Nat) (cI cJ cZ : ClassId) (A : Nat → Prop) (v : Nat → Nat → Nat) (c : Nat → Nat → Int32) (d : Nat) (hnc : v 15 0 ≤ 4) (hd : d < v 15 0) :
    mI l yX5_kindOf wsX5_kindOf 1 21 [.ref (a 15), .int (nI d)] D (xT cI cJ cZ) A (xW a cI cJ cZ v c) (fun _ : Unit => xW a cI cJ cZ v c)
    (fun (r : Int32) (u : Unit) => r = nI (v 16 d)) := by
  refine w_bI cX5_kindOf 2 .int (by decide) rfl (Nat.le_of_ble_eq_true rfl) (Or.inl rfl) ?_
  intro p e s m args below meth c0 ls Q hx hb hml hts hown hK hN hA hret hP hD hS hl
  have hl : lv_has ls 2 [(0, .ref (a 15)), (1, .int (nI (d)))] := hl
  have hinX5 : ∀ w ∈ wsX50, w ∈ wsX5_kindOf := fun w h => List.mem_cons_of_mem _ (List.mem_append_right _ h)
  refine lv_aload_n hx hb dX5_kindOf_0 rfl (lv_at hl 0 rfl) ?_
  refine lv_iload_n hx hb dX5_kindOf_1 rfl (lv_at hl 1 rfl) ?_
  refine w_cVi (rest := []) hx hb hml hown hts (k_tincl_N l D a cI cJ cZ A v c d  (by first | assumption | omega) (by first | assumption | omega)) 1 gX5_kindOf_X5_includes rfl hdX5_includes ⟨Nat.le_of_ble_eq_true rfl, Nat.le_of_ble_eq_true rfl⟩ hK hN hP hD hS hA 15 5 rfl rfl rfl rfl hl.1 rfl (Nat.le_of_ble_eq_true rfl) dX5_kindOf_2 ⟨Nat.le_of_ble_eq_true rfl, Nat.le_of_ble_eq_true rfl⟩ (fun r u H locs hq hP hD hS => ?_)
  rcases hq with ⟨rfl, h_2⟩ | ⟨rfl, h_2⟩
  · skip
    have hP : va_P D vwCl (xW a cI cJ cZ v c) H := hP
    have hD : va_D A (xW a cI cJ cZ v c) := hD
    refine w_if_eq (x := 1) hx hb dX5_kindOf_5 (tgt := 17) (by decide) (by decide) (fun h => absurd h (by decide)) (fun _ => ?_)
    refine lv_aload_n hx hb dX5_kindOf_8 rfl (lv_at hl 0 rfl) ?_
    refine va_get (D := D) (ci := 5) (v := .ref (a 16)) (C := RX5) (T := TX5) (N := 3) hx hb hts hinX5 hown hK hP 15 rfl rfl 1 (by decide) (hts (.fieldLink RX5 11 "DancedLock$Troupe" "kinds" "[I") (List.mem_of_getElem? (i := 1) rfl)) (fun _ h9 => h9) rfl dX5_kindOf_9 ?_
    refine lv_iload_n hx hb dX5_kindOf_12 rfl (lv_at hl 1 rfl) ?_
    refine w_iald (f := v 16) hx hb hK hP 16 0 rfl rfl (i := d) (by omega) (by decide) dX5_kindOf_13 ?_
    refine lv_goto (tgt := 18) hx hb dX5_kindOf_14 (by decide) ?_
    exact hret (nI (v 16 d)) () _ _ 18 _ dX5_kindOf_18 rfl (by rfl) hP hD hS
  · skip
    exfalso; omega

set_option maxHeartbeats 4000000 in
set_option maxRecDepth 100000 in
theorem k_weightOf (l : Launch) (D : va_G) (a : Nat → Nat) (cI cJ cZ : ClassId) (A : Nat → Prop) (v : Nat → Nat → Nat) (c : Nat → Nat → Int32) (d : Nat) (hnc : v 15 0 ≤ 4) (hd : d < v 15 0) :
    mI l yX5_weightOf wsX5_weightOf 1 21 [.ref (a 15), .int (nI d)] D (xT cI cJ cZ) A (xW a cI cJ cZ v c) (fun _ : Unit => xW a cI cJ cZ v c)
    (fun (r : Int32) (u : Unit) => r = nI (v 17 d)) := by
  refine w_bI cX5_weightOf 2 .int (by decide) rfl (Nat.le_of_ble_eq_true rfl) (Or.inl rfl) ?_
  intro p e s m args below meth c0 ls Q hx hb hml hts hown hK hN hA hret hP hD hS hl
  have hl : lv_has ls 2 [(0, .ref (a 15)), (1, .int (nI (d)))] := hl
  have hinX5 : ∀ w ∈ wsX50, w ∈ wsX5_weightOf := fun w h => List.mem_cons_of_mem _ (List.mem_append_right _ h)
  refine lv_aload_n hx hb dX5_weightOf_0 rfl (lv_at hl 0 rfl) ?_
  refine lv_iload_n hx hb dX5_weightOf_1 rfl (lv_at hl 1 rfl) ?_
  refine w_cVi (rest := []) hx hb hml hown hts (k_tincl_N l D a cI cJ cZ A v c d  (by first | assumption | omega) (by first | assumption | omega)) 1 gX5_weightOf_X5_includes rfl hdX5_includes ⟨Nat.le_of_ble_eq_true rfl, Nat.le_of_ble_eq_true rfl⟩ hK hN hP hD hS hA 15 5 rfl rfl rfl rfl hl.1 rfl (Nat.le_of_ble_eq_true rfl) dX5_weightOf_2 ⟨Nat.le_of_ble_eq_true rfl, Nat.le_of_ble_eq_true rfl⟩ (fun r u H locs hq hP hD hS => ?_)
  rcases hq with ⟨rfl, h_2⟩ | ⟨rfl, h_2⟩
  · skip
    have hP : va_P D vwCl (xW a cI cJ cZ v c) H := hP
    have hD : va_D A (xW a cI cJ cZ v c) := hD
    refine w_if_eq (x := 1) hx hb dX5_weightOf_5 (tgt := 17) (by decide) (by decide) (fun h => absurd h (by decide)) (fun _ => ?_)
    refine lv_aload_n hx hb dX5_weightOf_8 rfl (lv_at hl 0 rfl) ?_
    refine va_get (D := D) (ci := 5) (v := .ref (a 17)) (C := RX5) (T := TX5) (N := 3) hx hb hts hinX5 hown hK hP 15 rfl rfl 2 (by decide) (hts (.fieldLink RX5 15 "DancedLock$Troupe" "weights" "[I") (List.mem_of_getElem? (i := 1) rfl)) (fun _ h9 => h9) rfl dX5_weightOf_9 ?_
    refine lv_iload_n hx hb dX5_weightOf_12 rfl (lv_at hl 1 rfl) ?_
    refine w_iald (f := v 17) hx hb hK hP 17 0 rfl rfl (i := d) (by omega) (by decide) dX5_weightOf_13 ?_
    refine lv_goto (tgt := 18) hx hb dX5_weightOf_14 (by decide) ?_
    exact hret (nI (v 17 d)) () _ _ 18 _ dX5_weightOf_18 rfl (by rfl) hP hD hS
  · skip
    exfalso; omega

set_option maxHeartbeats 4000000 in
set_option maxRecDepth 100000 in
theorem k_pull (l : Launch) (D : va_G) (a : Nat → Nat) (cI cJ cZ : ClassId) (A : Nat → Prop) (v : Nat → Nat → Nat) (c : Nat → Nat → Int32) (k : Nat) (w : Nat) (hB : k < 2147483648) (hB2 : w < 2147483648) :
    mI l yX5_pull wsX5_pull 0 0 [.int (nI k), .int (nI w)] D (xT cI cJ cZ) A (xW a cI cJ cZ v c) (fun _ : Unit => xW a cI cJ cZ v c)
    (fun (r : Int32) (u : Unit) => r = nI (if k = 2 then w / 2 else w)) := by
  refine w_bI cX5_pull 2 .int (by decide) rfl (Nat.le_of_ble_eq_true rfl) (Or.inl rfl) ?_
  intro p e s m args below meth c0 ls Q hx hb hml hts hown hK hN hA hret hP hD hS hl
  have hl : lv_has ls 2 [(0, .int (nI (k))), (1, .int (nI (w)))] := hl
  refine lv_iload_n hx hb dX5_pull_0 rfl (lv_at hl 0 rfl) ?_
  refine lv_iconst (v := nI (2)) hx hb dX5_pull_1 (by decide) ?_
  refine w_icmp_ne (x := k) (y := 2) hx hb dX5_pull_2 (tgt := 11) (by decide) (by omega) (by omega) (fun c2 => ?_) (fun c2 => ?_)
  · skip
    refine lv_iload_n hx hb dX5_pull_11 rfl (lv_at hl 1 rfl) ?_
    exact hret (nI (w)) () _ _ 12 _ dX5_pull_12 rfl (by rw [if_neg c2]) hP hD hS
  · skip
    refine lv_iload_n hx hb dX5_pull_5 rfl (lv_at hl 1 rfl) ?_
    refine lv_iconst (v := nI (2)) hx hb dX5_pull_6 (by decide) ?_
    refine w_idiv (x := w) (y := 2) hx hb dX5_pull_7 (by omega) (by omega) (by omega) ?_
    refine lv_goto (tgt := 12) hx hb dX5_pull_8 (by decide) ?_
    exact hret (nI (w / 2)) () _ _ 12 _ dX5_pull_12 rfl (by rw [if_pos c2]) hP hD hS
