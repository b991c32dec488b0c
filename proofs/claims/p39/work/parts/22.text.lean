/-! ===== the text ===== -/
set_option maxHeartbeats 4000000 in
set_option maxRecDepth 100000 in
theorem kd_clear (l : Launch) (D : va_G) (a : Nat → Nat) (cI cJ cZ : ClassId) (A : Nat → Prop) (v : Nat → Nat → Nat) (c : Nat → Nat → Int32) :
    mV l yX2_clear wsX2_clear 0 0 [.ref (a 6)] D (xT cI cJ cZ) A (xW a cI cJ cZ v c) (fun u : ((Nat → Nat → Nat) × (Nat → Nat → Int32)) => xW a cI cJ cZ u.1 u.2)
    (fun (u : ((Nat → Nat → Nat) × (Nat → Nat → Int32))) => u = (va_up v 6 (va_up (va_up (v 6) 0 (0)) 1 (0)), c)) := by
  refine w_bV cX2_clear 1 (by decide) rfl (Nat.le_of_ble_eq_true rfl) ?_
  intro p e s m args below meth c0 ls Q hx hb hml hts hown hK hN hA hret hP hD hS hl
  have hl : lv_has ls 1 [(0, .ref (a 6))] := hl
  have hinX2 : ∀ w ∈ wsX20, w ∈ wsX2_clear := fun w h => List.mem_cons_of_mem _ (List.mem_append_right _ h)
  refine lv_aload_n hx hb dX2_clear_0 rfl (lv_at hl 0 rfl) ?_
  refine lv_iconst (v := nI (0)) hx hb dX2_clear_1 (by decide) ?_
  refine va_put (D := D) (ci := 2) (v := .int (nI (0))) (ty := .int) (C := RX2) (T := TX2) (N := 5) hx hb hts hinX2 tyX2 tyX2_ok nmX2 hown hK hP hD hS 6 rfl rfl 0 (by decide) (hts (.fieldLink RX2 21 "DancedLock$Floor" "boards" "I") (List.mem_of_getElem? (i := 1) rfl)) (fun _ h9 => h9) rfl (by decide +kernel) rfl (rfl) (Nat.le_of_ble_eq_true rfl) dX2_clear_2 (fun H locs hP hD hS => ?_)
  have hP : va_P D vwCl (xW a cI cJ cZ (va_up v 6 (va_up (v 6) 0 (0))) c) H := hP
  have hD : va_D A (xW a cI cJ cZ (va_up v 6 (va_up (v 6) 0 (0))) c) := hD
  refine lv_aload_n hx hb dX2_clear_5 rfl (lv_at hl 0 rfl) ?_
  refine lv_iconst (v := nI (0)) hx hb dX2_clear_6 (by decide) ?_
  refine va_put (D := D) (ci := 2) (v := .int (nI (0))) (ty := .int) (C := RX2) (T := TX2) (N := 5) hx hb hts hinX2 tyX2 tyX2_ok nmX2 hown hK hP hD hS 6 rfl rfl 1 (by decide) (hts (.fieldLink RX2 25 "DancedLock$Floor" "doors" "I") (List.mem_of_getElem? (i := 2) rfl)) (fun _ h9 => h9) rfl (by decide +kernel) rfl (rfl) (Nat.le_of_ble_eq_true rfl) dX2_clear_7 (fun H locs hP hD hS => ?_)
  have hP : va_P D vwCl (xW a cI cJ cZ (va_up v 6 (va_up (va_up (v 6) 0 (0)) 1 (0))) c) H := hP
  have hD : va_D A (xW a cI cJ cZ (va_up v 6 (va_up (va_up (v 6) 0 (0)) 1 (0))) c) := hD
  exact hret (va_up v 6 (va_up (va_up (v 6) 0 (0)) 1 (0)), c) _ _ 10 _ dX2_clear_10 (by rfl) hP hD hS

set_option maxHeartbeats 4000000 in
set_option maxRecDepth 100000 in
theorem kd_addBoard (l : Launch) (D : va_G) (a : Nat → Nat) (cI cJ cZ : ClassId) (A : Nat → Prop) (v : Nat → Nat → Nat) (c : Nat → Nat → Int32) (x : Nat) (h7 : v 6 0 < 7) :
    mV l yX2_addBoard wsX2_addBoard 0 0 [.ref (a 6), .int (nI x)] D (xT cI cJ cZ) A (xW a cI cJ cZ v c) (fun u : ((Nat → Nat → Nat) × (Nat → Nat → Int32)) => xW a cI cJ cZ u.1 u.2)
    (fun (u : ((Nat → Nat → Nat) × (Nat → Nat → Int32))) => u = (va_up (va_up v 6 (va_up (v 6) 0 (v 6 0 + 1))) 7 (va_up (v 7) (v 6 0) x), c)) := by
  refine w_bV cX2_addBoard 2 (by decide) rfl (Nat.le_of_ble_eq_true rfl) ?_
  intro p e s m args below meth c0 ls Q hx hb hml hts hown hK hN hA hret hP hD hS hl
  have hl : lv_has ls 2 [(0, .ref (a 6)), (1, .int (nI (x)))] := hl
  have hinX2 : ∀ w ∈ wsX20, w ∈ wsX2_addBoard := fun w h => List.mem_cons_of_mem _ (List.mem_append_right _ h)
  refine lv_aload_n hx hb dX2_addBoard_0 rfl (lv_at hl 0 rfl) ?_
  refine va_get (D := D) (ci := 2) (v := .int (nI (v 6 0))) (C := RX2) (T := TX2) (N := 5) hx hb hts hinX2 hown hK hP 6 rfl rfl 0 (by decide) (hts (.fieldLink RX2 21 "DancedLock$Floor" "boards" "I") (List.mem_of_getElem? (i := 1) rfl)) (fun _ h9 => h9) rfl dX2_addBoard_1 ?_
  refine lv_bipush (v := nI (7)) hx hb dX2_addBoard_4 (by decide) ?_
  refine w_icmp_ge (x := v 6 0) (y := 7) hx hb dX2_addBoard_6 (tgt := 29) (by decide) (by omega) (by omega) (fun c6 => absurd c6 (by omega)) (fun c6 => ?_)
  refine lv_aload_n hx hb dX2_addBoard_9 rfl (lv_at hl 0 rfl) ?_
  refine va_get (D := D) (ci := 2) (v := .ref (a 7)) (C := RX2) (T := TX2) (N := 5) hx hb hts hinX2 hown hK hP 6 rfl rfl 2 (by decide) (hts (.fieldLink RX2 11 "DancedLock$Floor" "needs" "[I") (List.mem_of_getElem? (i := 2) rfl)) (fun _ h9 => h9) rfl dX2_addBoard_10 ?_
  refine lv_aload_n hx hb dX2_addBoard_13 rfl (lv_at hl 0 rfl) ?_
  refine va_get (D := D) (ci := 2) (v := .int (nI (v 6 0))) (C := RX2) (T := TX2) (N := 5) hx hb hts hinX2 hown hK hP 6 rfl rfl 0 (by decide) (hts (.fieldLink RX2 21 "DancedLock$Floor" "boards" "I") (List.mem_of_getElem? (i := 1) rfl)) (fun _ h9 => h9) rfl dX2_addBoard_14 ?_
  refine lv_iload_n hx hb dX2_addBoard_17 rfl (lv_at hl 1 rfl) ?_
  refine w_iast (f := v 7) (w := x) hx hb hK hP hD hS 7 0 rfl rfl (i := v 6 0) (by omega) (by decide) dX2_addBoard_18 (fun H locs hP hD hS => ?_)
  have hP : va_P D vwCl (xW a cI cJ cZ (va_up v 7 (va_up (v 7) (v 6 0) x)) c) H := hP
  have hD : va_D A (xW a cI cJ cZ (va_up v 7 (va_up (v 7) (v 6 0) x)) c) := hD
  refine lv_aload_n hx hb dX2_addBoard_19 rfl (lv_at hl 0 rfl) ?_
  refine lv_dup hx hb dX2_addBoard_20 rfl ?_
  refine va_get (D := D) (ci := 2) (v := .int (nI (v 6 0))) (C := RX2) (T := TX2) (N := 5) hx hb hts hinX2 hown hK hP 6 rfl rfl 0 (by decide) (hts (.fieldLink RX2 21 "DancedLock$Floor" "boards" "I") (List.mem_of_getElem? (i := 1) rfl)) (fun _ h9 => h9) rfl dX2_addBoard_21 ?_
  refine lv_iconst (v := nI (1)) hx hb dX2_addBoard_24 (by decide) ?_
  refine w_iadd (x := v 6 0) (y := 1) hx hb dX2_addBoard_25  ?_
  refine va_put (D := D) (ci := 2) (v := .int (nI (v 6 0 + 1))) (ty := .int) (C := RX2) (T := TX2) (N := 5) hx hb hts hinX2 tyX2 tyX2_ok nmX2 hown hK hP hD hS 6 rfl rfl 0 (by decide) (hts (.fieldLink RX2 21 "DancedLock$Floor" "boards" "I") (List.mem_of_getElem? (i := 1) rfl)) (fun _ h9 => h9) rfl (by decide +kernel) rfl (rfl) (Nat.le_of_ble_eq_true rfl) dX2_addBoard_26 (fun H locs hP hD hS => ?_)
  have hP : va_P D vwCl (xW a cI cJ cZ (va_up (va_up v 6 (va_up (v 6) 0 (v 6 0 + 1))) 7 (va_up (v 7) (v 6 0) x)) c) H := hP
  have hD : va_D A (xW a cI cJ cZ (va_up (va_up v 6 (va_up (v 6) 0 (v 6 0 + 1))) 7 (va_up (v 7) (v 6 0) x)) c) := hD
  exact hret (va_up (va_up v 6 (va_up (v 6) 0 (v 6 0 + 1))) 7 (va_up (v 7) (v 6 0) x), c) _ _ 29 _ dX2_addBoard_29 (by rfl) hP hD hS

set_option maxHeartbeats 4000000 in
set_option maxRecDepth 100000 in
theorem kd_addBeat_1 (l : Launch) (D : va_G) (a : Nat → Nat) (cI cJ cZ : ClassId) (A : Nat → Prop) (v : Nat → Nat → Nat) (c : Nat → Nat → Int32) (hd1 : 0 < v 6 1) (hnd6 : v 6 1 ≤ 4) (hbt6 : ∀ e, e < v 6 1 → v 8 e ≤ 6) :
    mI l yX2_addBeat wsX2_addBeat 1 21 [.ref (a 6)] D (xT cI cJ cZ) A (xW a cI cJ cZ v c) (fun u : ((Nat → Nat → Nat) × (Nat → Nat → Int32)) => xW a cI cJ cZ u.1 u.2)
    (fun (r : Int32) (u : ((Nat → Nat → Nat) × (Nat → Nat → Int32))) => (r = nI (1) ∧ u = (va_up (va_up v 8 (va_up (v 8) (v 6 1 - 1) (v 8 (v 6 1 - 1) + 1))) 9 (va_up (v 9) ((v 6 1 - 1) * 6 + v 8 (v 6 1 - 1)) 0), c) ∧ v 8 (v 6 1 - 1) < 6) ∨ (r = nI (0) ∧ u = (v, c) ∧ 6 ≤ v 8 (v 6 1 - 1))) := by
  refine w_bI cX2_addBeat 2 .boolean (by decide) rfl (Nat.le_of_ble_eq_true rfl) (Or.inr rfl) ?_
  intro p e s m args below meth c0 ls Q hx hb hml hts hown hK hN hA hret hP hD hS hl
  have hl : lv_has ls 2 [(0, .ref (a 6))] := hl
  have hinX2 : ∀ w ∈ wsX20, w ∈ wsX2_addBeat := fun w h => List.mem_cons_of_mem _ (List.mem_append_right _ h)
  have hb6 := hbt6 (v 6 1 - 1) (by omega)
  refine lv_aload_n hx hb dX2_addBeat_0 rfl (lv_at hl 0 rfl) ?_
  refine va_get (D := D) (ci := 2) (v := .int (nI (v 6 1))) (C := RX2) (T := TX2) (N := 5) hx hb hts hinX2 hown hK hP 6 rfl rfl 1 (by decide) (hts (.fieldLink RX2 25 "DancedLock$Floor" "doors" "I") (List.mem_of_getElem? (i := 1) rfl)) (fun _ h9 => h9) rfl dX2_addBeat_1 ?_
  refine lv_iconst (v := nI (1)) hx hb dX2_addBeat_4 (by decide) ?_
  refine w_isub (x := v 6 1) (y := 1) hx hb dX2_addBeat_5 (by omega) ?_
  refine lv_istore_n (lv' := [(1, .int (nI ((v 6 1) - 1))), (0, .ref (a 6))]) hx hb dX2_addBeat_6 rfl hl (by decide) rfl (fun ls hl => ?_)
  refine lv_aload_n hx hb dX2_addBeat_7 rfl (lv_at hl 1 rfl) ?_
  refine lv_iload_n hx hb dX2_addBeat_8 rfl (lv_at hl 0 rfl) ?_
  refine w_cVi (rest := []) hx hb hml hown hts (kd_hasDoor_N l D a cI cJ cZ A v c ((v 6 1) - 1)  (by first | assumption | omega) (by first | assumption | omega)) 1 gX2_addBeat_X2_hasDoor rfl hdX2_hasDoor ⟨Nat.le_of_ble_eq_true rfl, Nat.le_of_ble_eq_true rfl⟩ hK hN hP hD hS hA 6 2 rfl rfl rfl rfl hl.1 rfl (Nat.le_of_ble_eq_true rfl) dX2_addBeat_9 ⟨Nat.le_of_ble_eq_true rfl, Nat.le_of_ble_eq_true rfl⟩ (fun r u H locs hq hP hD hS => ?_)
  rcases hq with ⟨rfl, h_9⟩ | ⟨rfl, h_9⟩
  · skip
    have hP : va_P D vwCl (xW a cI cJ cZ v c) H := hP
    have hD : va_D A (xW a cI cJ cZ v c) := hD
    refine w_if_eq (x := 1) hx hb dX2_addBeat_12 (tgt := 26) (by decide) (by decide) (fun h => absurd h (by decide)) (fun _ => ?_)
    refine lv_aload_n hx hb dX2_addBeat_15 rfl (lv_at hl 1 rfl) ?_
    refine va_get (D := D) (ci := 2) (v := .ref (a 8)) (C := RX2) (T := TX2) (N := 5) hx hb hts hinX2 hown hK hP 6 rfl rfl 3 (by decide) (hts (.fieldLink RX2 15 "DancedLock$Floor" "beats" "[I") (List.mem_of_getElem? (i := 2) rfl)) (fun _ h9 => h9) rfl dX2_addBeat_16 ?_
    refine lv_iload_n hx hb dX2_addBeat_19 rfl (lv_at hl 0 rfl) ?_
    refine w_iald (f := v 8) hx hb hK hP 8 0 rfl rfl (i := (v 6 1) - 1) (by omega) (by decide) dX2_addBeat_20 ?_
    refine lv_bipush (v := nI (6)) hx hb dX2_addBeat_21 (by decide) ?_
    refine w_icmp_lt (x := v 8 ((v 6 1) - 1)) (y := 6) hx hb dX2_addBeat_23 (tgt := 28) (by decide) (by omega) (by omega) (fun c23 => ?_) (fun c23 => ?_)
    · skip
      refine lv_aload_n hx hb dX2_addBeat_28 rfl (lv_at hl 1 rfl) ?_
      refine va_get (D := D) (ci := 2) (v := .ref (a 9)) (C := RX2) (T := TX2) (N := 5) hx hb hts hinX2 hown hK hP 6 rfl rfl 4 (by decide) (hts (.fieldLink RX2 18 "DancedLock$Floor" "figures" "[I") (List.mem_of_getElem? (i := 3) rfl)) (fun _ h9 => h9) rfl dX2_addBeat_29 ?_
      refine lv_iload_n hx hb dX2_addBeat_32 rfl (lv_at hl 0 rfl) ?_
      refine lv_bipush (v := nI (6)) hx hb dX2_addBeat_33 (by decide) ?_
      refine w_imul (x := (v 6 1) - 1) (y := 6) hx hb dX2_addBeat_35  ?_
      refine lv_aload_n hx hb dX2_addBeat_36 rfl (lv_at hl 1 rfl) ?_
      refine va_get (D := D) (ci := 2) (v := .ref (a 8)) (C := RX2) (T := TX2) (N := 5) hx hb hts hinX2 hown hK hP 6 rfl rfl 3 (by decide) (hts (.fieldLink RX2 15 "DancedLock$Floor" "beats" "[I") (List.mem_of_getElem? (i := 2) rfl)) (fun _ h9 => h9) rfl dX2_addBeat_37 ?_
      refine lv_iload_n hx hb dX2_addBeat_40 rfl (lv_at hl 0 rfl) ?_
      refine w_iald (f := v 8) hx hb hK hP 8 0 rfl rfl (i := (v 6 1) - 1) (by omega) (by decide) dX2_addBeat_41 ?_
      refine w_iadd (x := ((v 6 1) - 1) * 6) (y := v 8 ((v 6 1) - 1)) hx hb dX2_addBeat_42  ?_
      refine lv_iconst (v := nI (0)) hx hb dX2_addBeat_43 (by decide) ?_
      refine w_iast (f := v 9) (w := 0) hx hb hK hP hD hS 9 0 rfl rfl (i := (((v 6 1) - 1) * 6) + (v 8 ((v 6 1) - 1))) (by omega) (by decide) dX2_addBeat_44 (fun H locs hP hD hS => ?_)
      have hP : va_P D vwCl (xW a cI cJ cZ (va_up v 9 (va_up (v 9) ((((v 6 1) - 1) * 6) + (v 8 ((v 6 1) - 1))) 0)) c) H := hP
      have hD : va_D A (xW a cI cJ cZ (va_up v 9 (va_up (v 9) ((((v 6 1) - 1) * 6) + (v 8 ((v 6 1) - 1))) 0)) c) := hD
      refine lv_aload_n hx hb dX2_addBeat_45 rfl (lv_at hl 1 rfl) ?_
      refine va_get (D := D) (ci := 2) (v := .ref (a 8)) (C := RX2) (T := TX2) (N := 5) hx hb hts hinX2 hown hK hP 6 rfl rfl 3 (by decide) (hts (.fieldLink RX2 15 "DancedLock$Floor" "beats" "[I") (List.mem_of_getElem? (i := 2) rfl)) (fun _ h9 => h9) rfl dX2_addBeat_46 ?_
      refine lv_iload_n hx hb dX2_addBeat_49 rfl (lv_at hl 0 rfl) ?_
      refine lv_dup2_11 hx hb dX2_addBeat_50 rfl rfl ?_
      refine w_iald (f := v 8) hx hb hK hP 8 0 rfl rfl (i := (v 6 1) - 1) (by omega) (by decide) dX2_addBeat_51 ?_
      refine lv_iconst (v := nI (1)) hx hb dX2_addBeat_52 (by decide) ?_
      refine w_iadd (x := v 8 ((v 6 1) - 1)) (y := 1) hx hb dX2_addBeat_53  ?_
      refine w_iast (f := v 8) (w := v 8 ((v 6 1) - 1) + 1) hx hb hK hP hD hS 8 0 rfl rfl (i := (v 6 1) - 1) (by omega) (by decide) dX2_addBeat_54 (fun H locs hP hD hS => ?_)
      have hP : va_P D vwCl (xW a cI cJ cZ (va_up (va_up v 8 (va_up (v 8) ((v 6 1) - 1) (v 8 ((v 6 1) - 1) + 1))) 9 (va_up (v 9) ((((v 6 1) - 1) * 6) + (v 8 ((v 6 1) - 1))) 0)) c) H := hP
      have hD : va_D A (xW a cI cJ cZ (va_up (va_up v 8 (va_up (v 8) ((v 6 1) - 1) (v 8 ((v 6 1) - 1) + 1))) 9 (va_up (v 9) ((((v 6 1) - 1) * 6) + (v 8 ((v 6 1) - 1))) 0)) c) := hD
      refine lv_iconst (v := nI (1)) hx hb dX2_addBeat_55 (by decide) ?_
      exact hret (nI (1)) (va_up (va_up v 8 (va_up (v 8) ((v 6 1) - 1) (v 8 ((v 6 1) - 1) + 1))) 9 (va_up (v 9) ((((v 6 1) - 1) * 6) + (v 8 ((v 6 1) - 1))) 0), c) _ _ 56 _ dX2_addBeat_56 rfl (by exact Or.inl ⟨rfl, rfl, c23⟩) hP hD hS
    · skip
      refine lv_iconst (v := nI (0)) hx hb dX2_addBeat_26 (by decide) ?_
      exact hret (nI (0)) (v, c) _ _ 27 _ dX2_addBeat_27 rfl (by exact Or.inr ⟨rfl, rfl, c23⟩) hP hD hS
  · skip
    exfalso; omega

set_option maxHeartbeats 4000000 in
set_option maxRecDepth 100000 in
theorem kd_addBeat_0 (l : Launch) (D : va_G) (a : Nat → Nat) (cI cJ cZ : ClassId) (A : Nat → Prop) (v : Nat → Nat → Nat) (c : Nat → Nat → Int32) (hd0 : v 6 1 = 0) :
    mI l yX2_addBeat wsX2_addBeat 1 21 [.ref (a 6)] D (xT cI cJ cZ) A (xW a cI cJ cZ v c) (fun _ : Unit => xW a cI cJ cZ v c)
    (fun (r : Int32) (u : Unit) => r = nI (0)) := by
  refine w_bI cX2_addBeat 2 .boolean (by decide) rfl (Nat.le_of_ble_eq_true rfl) (Or.inr rfl) ?_
  intro p e s m args below meth c0 ls Q hx hb hml hts hown hK hN hA hret hP hD hS hl
  have hl : lv_has ls 2 [(0, .ref (a 6))] := hl
  have hinX2 : ∀ w ∈ wsX20, w ∈ wsX2_addBeat := fun w h => List.mem_cons_of_mem _ (List.mem_append_right _ h)
  have hm1 : (nI (v 6 1) - nI 1).toInt = -1 := by rw [hd0]; rfl
  refine lv_aload_n hx hb dX2_addBeat_0 rfl (lv_at hl 0 rfl) ?_
  refine va_get (D := D) (ci := 2) (v := .int (nI (v 6 1))) (C := RX2) (T := TX2) (N := 5) hx hb hts hinX2 hown hK hP 6 rfl rfl 1 (by decide) (hts (.fieldLink RX2 25 "DancedLock$Floor" "doors" "I") (List.mem_of_getElem? (i := 1) rfl)) (fun _ h9 => h9) rfl dX2_addBeat_1 ?_
  refine lv_iconst (v := nI (1)) hx hb dX2_addBeat_4 (by decide) ?_
  refine lv_isub hx hb dX2_addBeat_5 ?_
  refine lv_istore_n (lv' := [(1, .int ((nI (v 6 1)) - (nI (1)))), (0, .ref (a 6))]) hx hb dX2_addBeat_6 rfl hl (by decide) rfl (fun ls hl => ?_)
  refine lv_aload_n hx hb dX2_addBeat_7 rfl (lv_at hl 1 rfl) ?_
  refine lv_iload_n hx hb dX2_addBeat_8 rfl (lv_at hl 0 rfl) ?_
  refine w_cVi (rest := []) hx hb hml hown hts (kd_hasDoor_R l D a cI cJ cZ A v c ((nI (v 6 1)) - (nI (1)))  (by first | assumption | omega)) 1 gX2_addBeat_X2_hasDoor rfl hdX2_hasDoor ⟨Nat.le_of_ble_eq_true rfl, Nat.le_of_ble_eq_true rfl⟩ hK hN hP hD hS hA 6 2 rfl rfl rfl rfl hl.1 rfl (Nat.le_of_ble_eq_true rfl) dX2_addBeat_9 ⟨Nat.le_of_ble_eq_true rfl, Nat.le_of_ble_eq_true rfl⟩ (fun r u H locs hq hP hD hS => ?_)
  rcases hq with ⟨j_9, rfl, h_9, hs_x_9⟩ | ⟨rfl, h_9⟩
  · skip
    exfalso; omega
  · skip
    have hP : va_P D vwCl (xW a cI cJ cZ v c) H := hP
    have hD : va_D A (xW a cI cJ cZ v c) := hD
    refine w_if_eq (x := 0) hx hb dX2_addBeat_12 (tgt := 26) (by decide) (by decide) (fun _ => ?_) (fun h => absurd h (by decide))
    refine lv_iconst (v := nI (0)) hx hb dX2_addBeat_26 (by decide) ?_
    exact hret (nI (0)) () _ _ 27 _ dX2_addBeat_27 rfl (by rfl) hP hD hS

set_option maxHeartbeats 4000000 in
set_option maxRecDepth 100000 in
theorem kd_addDoor (l : Launch) (D : va_G) (a : Nat → Nat) (cI cJ cZ : ClassId) (A : Nat → Prop) (v : Nat → Nat → Nat) (c : Nat → Nat → Int32) (hnd6 : v 6 1 ≤ 4) (hbt6 : ∀ e, e < v 6 1 → v 8 e ≤ 6) :
    mI l yX2_addDoor wsX2_addDoor 2 42 [.ref (a 6)] D (xT cI cJ cZ) A (xW a cI cJ cZ v c) (fun u : ((Nat → Nat → Nat) × (Nat → Nat → Int32)) => xW a cI cJ cZ u.1 u.2)
    (fun (r : Int32) (u : ((Nat → Nat → Nat) × (Nat → Nat → Int32))) => (∃ g8 : Nat → Nat, ∃ g9 : Nat → Nat, r = nI (1) ∧ u = (va_up (va_up (va_up v 6 (va_up (v 6) 1 (v 6 1 + 1))) 8 (g8)) 9 (g9), c) ∧ v 6 1 < 4 ∧ g8 = va_up (va_up (v 8) (v 6 1) 0) (v 6 1) (0 + 1) ∧ g9 = va_up (v 9) (v 6 1 * 6 + 0) 0) ∨ (r = nI (0) ∧ u = (v, c) ∧ 4 ≤ v 6 1)) := by
  refine w_bI cX2_addDoor 1 .boolean (by decide) rfl (Nat.le_of_ble_eq_true rfl) (Or.inr rfl) ?_
  intro p e s m args below meth c0 ls Q hx hb hml hts hown hK hN hA hret hP hD hS hl
  have hl : lv_has ls 1 [(0, .ref (a 6))] := hl
  have hinX2 : ∀ w ∈ wsX20, w ∈ wsX2_addDoor := fun w h => List.mem_cons_of_mem _ (List.mem_append_right _ h)
  refine lv_aload_n hx hb dX2_addDoor_0 rfl (lv_at hl 0 rfl) ?_
  refine va_get (D := D) (ci := 2) (v := .int (nI (v 6 1))) (C := RX2) (T := TX2) (N := 5) hx hb hts hinX2 hown hK hP 6 rfl rfl 1 (by decide) (hts (.fieldLink RX2 25 "DancedLock$Floor" "doors" "I") (List.mem_of_getElem? (i := 1) rfl)) (fun _ h9 => h9) rfl dX2_addDoor_1 ?_
  refine lv_iconst (v := nI (4)) hx hb dX2_addDoor_4 (by decide) ?_
  refine w_icmp_lt (x := v 6 1) (y := 4) hx hb dX2_addDoor_5 (tgt := 10) (by decide) (by omega) (by omega) (fun c5 => ?_) (fun c5 => ?_)
  · skip
    refine lv_aload_n hx hb dX2_addDoor_10 rfl (lv_at hl 0 rfl) ?_
    refine va_get (D := D) (ci := 2) (v := .ref (a 8)) (C := RX2) (T := TX2) (N := 5) hx hb hts hinX2 hown hK hP 6 rfl rfl 3 (by decide) (hts (.fieldLink RX2 15 "DancedLock$Floor" "beats" "[I") (List.mem_of_getElem? (i := 2) rfl)) (fun _ h9 => h9) rfl dX2_addDoor_11 ?_
    refine lv_aload_n hx hb dX2_addDoor_14 rfl (lv_at hl 0 rfl) ?_
    refine va_get (D := D) (ci := 2) (v := .int (nI (v 6 1))) (C := RX2) (T := TX2) (N := 5) hx hb hts hinX2 hown hK hP 6 rfl rfl 1 (by decide) (hts (.fieldLink RX2 25 "DancedLock$Floor" "doors" "I") (List.mem_of_getElem? (i := 1) rfl)) (fun _ h9 => h9) rfl dX2_addDoor_15 ?_
    refine lv_iconst (v := nI (0)) hx hb dX2_addDoor_18 (by decide) ?_
    refine w_iast (f := v 8) (w := 0) hx hb hK hP hD hS 8 0 rfl rfl (i := v 6 1) (by omega) (by decide) dX2_addDoor_19 (fun H locs hP hD hS => ?_)
    have hP : va_P D vwCl (xW a cI cJ cZ (va_up v 8 (va_up (v 8) (v 6 1) 0)) c) H := hP
    have hD : va_D A (xW a cI cJ cZ (va_up v 8 (va_up (v 8) (v 6 1) 0)) c) := hD
    refine lv_aload_n hx hb dX2_addDoor_20 rfl (lv_at hl 0 rfl) ?_
    refine lv_dup hx hb dX2_addDoor_21 rfl ?_
    refine va_get (D := D) (ci := 2) (v := .int (nI (v 6 1))) (C := RX2) (T := TX2) (N := 5) hx hb hts hinX2 hown hK hP 6 rfl rfl 1 (by decide) (hts (.fieldLink RX2 25 "DancedLock$Floor" "doors" "I") (List.mem_of_getElem? (i := 1) rfl)) (fun _ h9 => h9) rfl dX2_addDoor_22 ?_
    refine lv_iconst (v := nI (1)) hx hb dX2_addDoor_25 (by decide) ?_
    refine w_iadd (x := v 6 1) (y := 1) hx hb dX2_addDoor_26  ?_
    refine va_put (D := D) (ci := 2) (v := .int (nI (v 6 1 + 1))) (ty := .int) (C := RX2) (T := TX2) (N := 5) hx hb hts hinX2 tyX2 tyX2_ok nmX2 hown hK hP hD hS 6 rfl rfl 1 (by decide) (hts (.fieldLink RX2 25 "DancedLock$Floor" "doors" "I") (List.mem_of_getElem? (i := 1) rfl)) (fun _ h9 => h9) rfl (by decide +kernel) rfl (rfl) (Nat.le_of_ble_eq_true rfl) dX2_addDoor_27 (fun H locs hP hD hS => ?_)
    have hP : va_P D vwCl (xW a cI cJ cZ (va_up (va_up v 6 (va_up (v 6) 1 (v 6 1 + 1))) 8 (va_up (v 8) (v 6 1) 0)) c) H := hP
    have hD : va_D A (xW a cI cJ cZ (va_up (va_up v 6 (va_up (v 6) 1 (v 6 1 + 1))) 8 (va_up (v 8) (v 6 1) 0)) c) := hD
    refine lv_aload_n hx hb dX2_addDoor_30 rfl (lv_at hl 0 rfl) ?_
    refine w_cVi (rest := []) hx hb hml hown hts (kd_addBeat_1 l D a cI cJ cZ A (va_up (va_up v 6 (va_up (v 6) 1 (v 6 1 + 1))) 8 (va_up (v 8) (v 6 1) 0)) c   (by show 0 < (v 6 1 + 1); exact Nat.succ_pos _) (by show (v 6 1 + 1) ≤ 4; exact c5) (by show ∀ e, e < (v 6 1 + 1) → (va_up (v 8) (v 6 1) 0) e ≤ 6; exact b6_s hbt6)) 0 gX2_addDoor_X2_addBeat rfl hdX2_addBeat ⟨Nat.le_of_ble_eq_true rfl, Nat.le_of_ble_eq_true rfl⟩ hK hN hP hD hS hA 6 2 rfl rfl rfl rfl hl.1 rfl (Nat.le_of_ble_eq_true rfl) dX2_addDoor_31 ⟨Nat.le_of_ble_eq_true rfl, Nat.le_of_ble_eq_true rfl⟩ (fun r u H locs hq hP hD hS => ?_)
    rcases hq with ⟨rfl, rfl, h_31⟩ | ⟨rfl, rfl, h_31⟩
    · skip
      have h_31 : (va_up (v 8) (v 6 1) 0) ((v 6 1 + 1) - 1) < 6 := h_31
      have hP : va_P D vwCl (xW a cI cJ cZ (va_up (va_up (va_up v 6 (va_up (v 6) 1 (v 6 1 + 1))) 8 (va_up ((va_up (v 8) (v 6 1) 0)) ((v 6 1 + 1) - 1) ((va_up (v 8) (v 6 1) 0) ((v 6 1 + 1) - 1) + 1))) 9 (va_up ((v 9)) (((v 6 1 + 1) - 1) * 6 + (va_up (v 8) (v 6 1) 0) ((v 6 1 + 1) - 1)) 0)) c) H := hP
      have hD : va_D A (xW a cI cJ cZ (va_up (va_up (va_up v 6 (va_up (v 6) 1 (v 6 1 + 1))) 8 (va_up ((va_up (v 8) (v 6 1) 0)) ((v 6 1 + 1) - 1) ((va_up (v 8) (v 6 1) 0) ((v 6 1 + 1) - 1) + 1))) 9 (va_up ((v 9)) (((v 6 1 + 1) - 1) * 6 + (va_up (v 8) (v 6 1) 0) ((v 6 1 + 1) - 1)) 0)) c) := hD
      exact hret (nI (1)) (va_up (va_up (va_up v 6 (va_up (v 6) 1 (v 6 1 + 1))) 8 (va_up ((va_up (v 8) (v 6 1) 0)) ((v 6 1 + 1) - 1) ((va_up (v 8) (v 6 1) 0) ((v 6 1 + 1) - 1) + 1))) 9 (va_up ((v 9)) (((v 6 1 + 1) - 1) * 6 + (va_up (v 8) (v 6 1) 0) ((v 6 1 + 1) - 1)) 0), c) _ _ 34 _ dX2_addDoor_34 rfl (by exact Or.inl ⟨_, _, rfl, rfl, c5, by rw [Nat.add_sub_cancel, up_eq], by rw [Nat.add_sub_cancel, up_eq]⟩) hP hD hS
    · skip
      have h_31 : 6 ≤ (va_up (v 8) (v 6 1) 0) ((v 6 1 + 1) - 1) := h_31
      rw [Nat.add_sub_cancel, up_eq] at h_31; exact absurd h_31 (by decide)
  · skip
    refine lv_iconst (v := nI (0)) hx hb dX2_addDoor_8 (by decide) ?_
    exact hret (nI (0)) (v, c) _ _ 9 _ dX2_addDoor_9 rfl (by exact Or.inr ⟨rfl, rfl, c5⟩) hP hD hS

set_option maxHeartbeats 4000000 in
set_option maxRecDepth 100000 in
theorem kd_addRising_1 (l : Launch) (D : va_G) (a : Nat → Nat) (cI cJ cZ : ClassId) (A : Nat → Prop) (v : Nat → Nat → Nat) (c : Nat → Nat → Int32) (x : Int32) (hd1 : 0 < v 6 1) (hDI : DIb (v 6 0) (v 6 1) (v 8) (v 9)) (hnb : v 6 0 ≤ 7) :
    mI l yX2_addRising wsX2_addRising 1 21 [.ref (a 6), .int x] D (xT cI cJ cZ) A (xW a cI cJ cZ v c) (fun u : ((Nat → Nat → Nat) × (Nat → Nat → Int32)) => xW a cI cJ cZ u.1 u.2)
    (fun (r : Int32) (u : ((Nat → Nat → Nat) × (Nat → Nat → Int32))) => (∃ j : Nat, r = nI (1) ∧ u = (va_up v 9 (va_up (v 9) ((v 6 1 - 1) * 6 + v 8 (v 6 1 - 1) - 1) (v 9 ((v 6 1 - 1) * 6 + v 8 (v 6 1 - 1) - 1) ||| 1 * 2 ^ j)), c) ∧ j < v 6 0 ∧ x = nI j ∧ v 9 ((v 6 1 - 1) * 6 + v 8 (v 6 1 - 1) - 1) / 2 ^ j = 0 ∧ pc (v 9 ((v 6 1 - 1) * 6 + v 8 (v 6 1 - 1) - 1)) < 4) ∨ (r = nI (0) ∧ u = (v, c) ∧ (∀ j, j < v 6 0 → x = nI j → (v 9 ((v 6 1 - 1) * 6 + v 8 (v 6 1 - 1) - 1) / 2 ^ j ≠ 0 ∨ 4 ≤ pc (v 9 ((v 6 1 - 1) * 6 + v 8 (v 6 1 - 1) - 1)))))) := by
  refine w_bI cX2_addRising 4 .boolean (by decide) rfl (Nat.le_of_ble_eq_true rfl) (Or.inr rfl) ?_
  intro p e s m args below meth c0 ls Q hx hb hml hts hown hK hN hA hret hP hD hS hl
  have hl : lv_has ls 4 [(0, .ref (a 6)), (1, .int x)] := hl
  have hinX2 : ∀ w ∈ wsX20, w ∈ wsX2_addRising := fun w h => List.mem_cons_of_mem _ (List.mem_append_right _ h)
  have hnd6 := hDI.1
  have hb6 := hDI.2.1 (v 6 1 - 1) (by omega)
  have hf6 := hDI.2.2 (v 6 1 - 1) (v 8 (v 6 1 - 1) - 1) (by omega) (by omega)
  rw [show (v 6 1 - 1) * 6 + (v 8 (v 6 1 - 1) - 1) = (v 6 1 - 1) * 6 + v 8 (v 6 1 - 1) - 1 by omega] at hf6
  have hp7 := pow_le_128 hnb
  refine lv_aload_n hx hb dX2_addRising_0 rfl (lv_at hl 0 rfl) ?_
  refine va_get (D := D) (ci := 2) (v := .int (nI (v 6 1))) (C := RX2) (T := TX2) (N := 5) hx hb hts hinX2 hown hK hP 6 rfl rfl 1 (by decide) (hts (.fieldLink RX2 25 "DancedLock$Floor" "doors" "I") (List.mem_of_getElem? (i := 1) rfl)) (fun _ h9 => h9) rfl dX2_addRising_1 ?_
  refine lv_iconst (v := nI (1)) hx hb dX2_addRising_4 (by decide) ?_
  refine w_isub (x := v 6 1) (y := 1) hx hb dX2_addRising_5 (by omega) ?_
  refine lv_istore_n (lv' := [(2, .int (nI ((v 6 1) - 1))), (0, .ref (a 6)), (1, .int x)]) hx hb dX2_addRising_6 rfl hl (by decide) rfl (fun ls hl => ?_)
  refine lv_aload_n hx hb dX2_addRising_7 rfl (lv_at hl 1 rfl) ?_
  refine lv_iload_n hx hb dX2_addRising_8 rfl (lv_at hl 0 rfl) ?_
  refine w_cVi (rest := []) hx hb hml hown hts (kd_hasDoor_N l D a cI cJ cZ A v c ((v 6 1) - 1)  (by first | assumption | omega) (by first | assumption | omega)) 1 gX2_addRising_X2_hasDoor rfl hdX2_hasDoor ⟨Nat.le_of_ble_eq_true rfl, Nat.le_of_ble_eq_true rfl⟩ hK hN hP hD hS hA 6 2 rfl rfl rfl rfl hl.1 rfl (Nat.le_of_ble_eq_true rfl) dX2_addRising_9 ⟨Nat.le_of_ble_eq_true rfl, Nat.le_of_ble_eq_true rfl⟩ (fun r u H locs hq hP hD hS => ?_)
  rcases hq with ⟨rfl, h_9⟩ | ⟨rfl, h_9⟩
  · skip
    have hP : va_P D vwCl (xW a cI cJ cZ v c) H := hP
    have hD : va_D A (xW a cI cJ cZ v c) := hD
    refine w_if_eq (x := 1) hx hb dX2_addRising_12 (tgt := 23) (by decide) (by decide) (fun h => absurd h (by decide)) (fun _ => ?_)
    refine lv_aload_n hx hb dX2_addRising_15 rfl (lv_at hl 1 rfl) ?_
    refine lv_iload_n hx hb dX2_addRising_16 rfl (lv_at hl 2 rfl) ?_
    refine w_cVi (rest := []) hx hb hml hown hts (kd_hasBoard_R l D a cI cJ cZ A v c x  (by first | assumption | omega)) 1 gX2_addRising_X2_hasBoard rfl hdX2_hasBoard ⟨Nat.le_of_ble_eq_true rfl, Nat.le_of_ble_eq_true rfl⟩ hK hN hP hD hS hA 6 2 rfl rfl rfl rfl hl.1 rfl (Nat.le_of_ble_eq_true rfl) dX2_addRising_17 ⟨Nat.le_of_ble_eq_true rfl, Nat.le_of_ble_eq_true rfl⟩ (fun r u H locs hq hP hD hS => ?_)
    rcases hq with ⟨j_17, rfl, h_17, hs_x_17⟩ | ⟨rfl, h_17⟩
    · skip
      have hP : va_P D vwCl (xW a cI cJ cZ v c) H := hP
      have hD : va_D A (xW a cI cJ cZ v c) := hD
      subst hs_x_17
      have j_17T := n_tI (k := j_17) (by omega)
      refine w_if_ne (x := 1) hx hb dX2_addRising_20 (tgt := 25) (by decide) (by decide) (fun _ => ?_) (fun h => absurd h (by decide))
      refine lv_iload_n hx hb dX2_addRising_25 rfl (lv_at hl 0 rfl) ?_
      refine lv_bipush (v := nI (6)) hx hb dX2_addRising_26 (by decide) ?_
      refine w_imul (x := (v 6 1) - 1) (y := 6) hx hb dX2_addRising_28  ?_
      refine lv_aload_n hx hb dX2_addRising_29 rfl (lv_at hl 1 rfl) ?_
      refine va_get (D := D) (ci := 2) (v := .ref (a 8)) (C := RX2) (T := TX2) (N := 5) hx hb hts hinX2 hown hK hP 6 rfl rfl 3 (by decide) (hts (.fieldLink RX2 15 "DancedLock$Floor" "beats" "[I") (List.mem_of_getElem? (i := 2) rfl)) (fun _ h9 => h9) rfl dX2_addRising_30 ?_
      refine lv_iload_n hx hb dX2_addRising_33 rfl (lv_at hl 0 rfl) ?_
      refine w_iald (f := v 8) hx hb hK hP 8 0 rfl rfl (i := (v 6 1) - 1) (by omega) (by decide) dX2_addRising_34 ?_
      refine w_iadd (x := ((v 6 1) - 1) * 6) (y := v 8 ((v 6 1) - 1)) hx hb dX2_addRising_35  ?_
      refine lv_iconst (v := nI (1)) hx hb dX2_addRising_36 (by decide) ?_
      refine w_isub (x := (((v 6 1) - 1) * 6) + (v 8 ((v 6 1) - 1))) (y := 1) hx hb dX2_addRising_37 (by omega) ?_
      obtain ⟨at1, hat⟩ : ∃ zz : Nat, zz = ((((v 6 1) - 1) * 6) + (v 8 ((v 6 1) - 1))) - 1 := ⟨_, rfl⟩
      rw [← hat]
      refine lv_istore_n (lv' := [(3, .int (nI (at1))), (2, .int (nI ((v 6 1) - 1))), (0, .ref (a 6)), (1, .int (nI (j_17)))]) hx hb dX2_addRising_38 rfl hl (by decide) rfl (fun ls hl => ?_)
      refine lv_iload_n hx hb dX2_addRising_39 rfl (lv_at hl 0 rfl) ?_
      refine w_if_lt (x := at1) hx hb dX2_addRising_40 (tgt := 52) (by decide) (by omega) ?_
      refine lv_iload_n hx hb dX2_addRising_43 rfl (lv_at hl 0 rfl) ?_
      refine lv_aload_n hx hb dX2_addRising_44 rfl (lv_at hl 2 rfl) ?_
      refine va_get (D := D) (ci := 2) (v := .ref (a 9)) (C := RX2) (T := TX2) (N := 5) hx hb hts hinX2 hown hK hP 6 rfl rfl 4 (by decide) (hts (.fieldLink RX2 18 "DancedLock$Floor" "figures" "[I") (List.mem_of_getElem? (i := 3) rfl)) (fun _ h9 => h9) rfl dX2_addRising_45 ?_
      refine va_alen (v := nI 24) hx hb hK hP 9 0 rfl rfl rfl dX2_addRising_48 ?_
      refine w_icmp_lt (x := at1) (y := 24) hx hb dX2_addRising_49 (tgt := 54) (by decide) (by omega) (by omega) (fun c49 => ?_) (fun c49 => absurd c49 (by omega))
      rw [← hat] at hf6
      refine lv_aload_n hx hb dX2_addRising_54 rfl (lv_at hl 2 rfl) ?_
      refine va_get (D := D) (ci := 2) (v := .ref (a 9)) (C := RX2) (T := TX2) (N := 5) hx hb hts hinX2 hown hK hP 6 rfl rfl 4 (by decide) (hts (.fieldLink RX2 18 "DancedLock$Floor" "figures" "[I") (List.mem_of_getElem? (i := 3) rfl)) (fun _ h9 => h9) rfl dX2_addRising_55 ?_
      refine lv_iload_n hx hb dX2_addRising_58 rfl (lv_at hl 0 rfl) ?_
      refine w_iald (f := v 9) hx hb hK hP 9 0 rfl rfl (i := at1) (by omega) (by decide) dX2_addRising_59 ?_
      refine lv_iload_n hx hb dX2_addRising_60 rfl (lv_at hl 3 rfl) ?_
      refine w_ishr (x := v 9 at1) (y := j_17) hx hb dX2_addRising_61 (by omega) (by omega) ?_
      refine w_if_ne (x := (v 9 at1) / 2 ^ j_17) hx hb dX2_addRising_62 (tgt := 78) (by decide) (by exact Nat.lt_of_le_of_lt (Nat.div_le_self _ _) (by omega)) (fun c62 => ?_) (fun c62 => ?_)
      · skip
        refine lv_iconst (v := nI (0)) hx hb dX2_addRising_78 (by decide) ?_
        exact hret (nI (0)) (v, c) _ _ 79 _ dX2_addRising_79 rfl (by first | exact Or.inr ⟨rfl, rfl, fun j hj e => Or.inl (by have e2 := (n_inj (by omega) (by omega)).mp e; subst e2; rw [← hat]; exact c62)⟩ | exact Or.inr ⟨rfl, rfl, fun j hj e => Or.inr (by rw [← hat]; exact c75)⟩) hP hD hS
      · skip
        refine lv_aload_n hx hb dX2_addRising_65 rfl (lv_at hl 2 rfl) ?_
        refine va_get (D := D) (ci := 2) (v := .ref (a 9)) (C := RX2) (T := TX2) (N := 5) hx hb hts hinX2 hown hK hP 6 rfl rfl 4 (by decide) (hts (.fieldLink RX2 18 "DancedLock$Floor" "figures" "[I") (List.mem_of_getElem? (i := 3) rfl)) (fun _ h9 => h9) rfl dX2_addRising_66 ?_
        refine lv_iload_n hx hb dX2_addRising_69 rfl (lv_at hl 0 rfl) ?_
        refine w_iald (f := v 9) hx hb hK hP 9 0 rfl rfl (i := at1) (by omega) (by decide) dX2_addRising_70 ?_
        refine w_cSi (rest := []) hx hb hml hown hts (k_bctN l D a cI cJ cZ A v c (v 9 at1)  (by exact bct_small _ (by omega))) 1 gX2_addRising_J6_bitCount_0f7a4 rfl hdJ6_bitCount_0f7a4 ⟨Nat.le_of_ble_eq_true rfl, Nat.le_of_ble_eq_true rfl⟩ hK hN hP hD hS hA rfl hl.1 rfl (Nat.le_of_ble_eq_true rfl) dX2_addRising_71 ⟨Nat.le_of_ble_eq_true rfl, Nat.le_of_ble_eq_true rfl⟩ (fun r u H locs hq hP hD hS => ?_)
        obtain rfl := hq
        have hP : va_P D vwCl (xW a cI cJ cZ v c) H := hP
        have hD : va_D A (xW a cI cJ cZ v c) := hD
        refine lv_iconst (v := nI (4)) hx hb dX2_addRising_74 (by decide) ?_
        refine w_icmp_lt (x := pc (v 9 at1)) (y := 4) hx hb dX2_addRising_75 (tgt := 80) (by decide) (by have := pc_le (v 9 at1); omega) (by omega) (fun c75 => ?_) (fun c75 => ?_)
        · skip
          refine lv_aload_n hx hb dX2_addRising_80 rfl (lv_at hl 2 rfl) ?_
          refine va_get (D := D) (ci := 2) (v := .ref (a 9)) (C := RX2) (T := TX2) (N := 5) hx hb hts hinX2 hown hK hP 6 rfl rfl 4 (by decide) (hts (.fieldLink RX2 18 "DancedLock$Floor" "figures" "[I") (List.mem_of_getElem? (i := 3) rfl)) (fun _ h9 => h9) rfl dX2_addRising_81 ?_
          refine lv_iload_n hx hb dX2_addRising_84 rfl (lv_at hl 0 rfl) ?_
          refine lv_dup2_11 hx hb dX2_addRising_85 rfl rfl ?_
          refine w_iald (f := v 9) hx hb hK hP 9 0 rfl rfl (i := at1) (by omega) (by decide) dX2_addRising_86 ?_
          refine lv_iconst (v := nI (1)) hx hb dX2_addRising_87 (by decide) ?_
          refine lv_iload_n hx hb dX2_addRising_88 rfl (lv_at hl 3 rfl) ?_
          refine w_ishl (x := 1) (y := j_17) hx hb dX2_addRising_89 (by omega) (by have := Nat.pow_le_pow_right (show 0 < 2 by decide) (show j_17 ≤ 7 by omega); omega) ?_
          refine w_ior (x := v 9 at1) (y := 1 * 2 ^ j_17) hx hb dX2_addRising_90  ?_
          refine w_iast (f := v 9) (w := (v 9 at1) ||| (1 * 2 ^ j_17)) hx hb hK hP hD hS 9 0 rfl rfl (i := at1) (by omega) (by decide) dX2_addRising_91 (fun H locs hP hD hS => ?_)
          have hP : va_P D vwCl (xW a cI cJ cZ (va_up v 9 (va_up (v 9) at1 ((v 9 at1) ||| (1 * 2 ^ j_17)))) c) H := hP
          have hD : va_D A (xW a cI cJ cZ (va_up v 9 (va_up (v 9) at1 ((v 9 at1) ||| (1 * 2 ^ j_17)))) c) := hD
          refine lv_iconst (v := nI (1)) hx hb dX2_addRising_92 (by decide) ?_
          exact hret (nI (1)) (va_up v 9 (va_up (v 9) at1 ((v 9 at1) ||| (1 * 2 ^ j_17))), c) _ _ 93 _ dX2_addRising_93 rfl (by subst hat; exact Or.inl ⟨j_17, rfl, rfl, h_17, rfl, c62, c75⟩) hP hD hS
        · skip
          refine lv_iconst (v := nI (0)) hx hb dX2_addRising_78 (by decide) ?_
          exact hret (nI (0)) (v, c) _ _ 79 _ dX2_addRising_79 rfl (by first | exact Or.inr ⟨rfl, rfl, fun j hj e => Or.inl (by have e2 := (n_inj (by omega) (by omega)).mp e; subst e2; rw [← hat]; exact c62)⟩ | exact Or.inr ⟨rfl, rfl, fun j hj e => Or.inr (by rw [← hat]; exact c75)⟩) hP hD hS
    · skip
      have hP : va_P D vwCl (xW a cI cJ cZ v c) H := hP
      have hD : va_D A (xW a cI cJ cZ v c) := hD
      refine w_if_ne (x := 0) hx hb dX2_addRising_20 (tgt := 25) (by decide) (by decide) (fun h => absurd h (by decide)) (fun _ => ?_)
      refine lv_iconst (v := nI (0)) hx hb dX2_addRising_23 (by decide) ?_
      exact hret (nI (0)) (v, c) _ _ 24 _ dX2_addRising_24 rfl (by exact Or.inr ⟨rfl, rfl, fun j hj e => by rw [e, n_tI (by omega)] at h_17; omega⟩) hP hD hS
  · skip
    exfalso; omega

set_option maxHeartbeats 4000000 in
set_option maxRecDepth 100000 in
theorem kd_addRising_0 (l : Launch) (D : va_G) (a : Nat → Nat) (cI cJ cZ : ClassId) (A : Nat → Prop) (v : Nat → Nat → Nat) (c : Nat → Nat → Int32) (x : Int32) (hd0 : v 6 1 = 0) :
    mI l yX2_addRising wsX2_addRising 1 21 [.ref (a 6), .int x] D (xT cI cJ cZ) A (xW a cI cJ cZ v c) (fun _ : Unit => xW a cI cJ cZ v c)
    (fun (r : Int32) (u : Unit) => r = nI (0)) := by
  refine w_bI cX2_addRising 4 .boolean (by decide) rfl (Nat.le_of_ble_eq_true rfl) (Or.inr rfl) ?_
  intro p e s m args below meth c0 ls Q hx hb hml hts hown hK hN hA hret hP hD hS hl
  have hl : lv_has ls 4 [(0, .ref (a 6)), (1, .int x)] := hl
  have hinX2 : ∀ w ∈ wsX20, w ∈ wsX2_addRising := fun w h => List.mem_cons_of_mem _ (List.mem_append_right _ h)
  have hm1 : (nI (v 6 1) - nI 1).toInt = -1 := by rw [hd0]; rfl
  refine lv_aload_n hx hb dX2_addRising_0 rfl (lv_at hl 0 rfl) ?_
  refine va_get (D := D) (ci := 2) (v := .int (nI (v 6 1))) (C := RX2) (T := TX2) (N := 5) hx hb hts hinX2 hown hK hP 6 rfl rfl 1 (by decide) (hts (.fieldLink RX2 25 "DancedLock$Floor" "doors" "I") (List.mem_of_getElem? (i := 1) rfl)) (fun _ h9 => h9) rfl dX2_addRising_1 ?_
  refine lv_iconst (v := nI (1)) hx hb dX2_addRising_4 (by decide) ?_
  refine lv_isub hx hb dX2_addRising_5 ?_
  refine lv_istore_n (lv' := [(2, .int ((nI (v 6 1)) - (nI (1)))), (0, .ref (a 6)), (1, .int x)]) hx hb dX2_addRising_6 rfl hl (by decide) rfl (fun ls hl => ?_)
  refine lv_aload_n hx hb dX2_addRising_7 rfl (lv_at hl 1 rfl) ?_
  refine lv_iload_n hx hb dX2_addRising_8 rfl (lv_at hl 0 rfl) ?_
  refine w_cVi (rest := []) hx hb hml hown hts (kd_hasDoor_R l D a cI cJ cZ A v c ((nI (v 6 1)) - (nI (1)))  (by first | assumption | omega)) 1 gX2_addRising_X2_hasDoor rfl hdX2_hasDoor ⟨Nat.le_of_ble_eq_true rfl, Nat.le_of_ble_eq_true rfl⟩ hK hN hP hD hS hA 6 2 rfl rfl rfl rfl hl.1 rfl (Nat.le_of_ble_eq_true rfl) dX2_addRising_9 ⟨Nat.le_of_ble_eq_true rfl, Nat.le_of_ble_eq_true rfl⟩ (fun r u H locs hq hP hD hS => ?_)
  rcases hq with ⟨j_9, rfl, h_9, hs_x_9⟩ | ⟨rfl, h_9⟩
  · skip
    exfalso; omega
  · skip
    have hP : va_P D vwCl (xW a cI cJ cZ v c) H := hP
    have hD : va_D A (xW a cI cJ cZ v c) := hD
    refine w_if_eq (x := 0) hx hb dX2_addRising_12 (tgt := 23) (by decide) (by decide) (fun _ => ?_) (fun h => absurd h (by decide))
    refine lv_iconst (v := nI (0)) hx hb dX2_addRising_23 (by decide) ?_
    exact hret (nI (0)) () _ _ 24 _ dX2_addRising_24 rfl (by rfl) hP hD hS

set_option maxHeartbeats 4000000 in
set_option maxRecDepth 100000 in
theorem k_goesOn_1 (l : Launch) (D : va_G) (a : Nat → Nat) (cI cJ cZ : ClassId) (A : Nat → Prop) (v : Nat → Nat → Nat) (c : Nat → Nat → Int32) (x : Int32) (hd1 : 0 < v 6 1) (hDI : DIb (v 6 0) (v 6 1) (v 8) (v 9)) (hnb : v 6 0 ≤ 7) :
    mI l yX4_goesOn wsX4_goesOn 3 62 [.ref (a 5), .int x] D (xT cI cJ cZ) A (xW a cI cJ cZ v c) (fun u : ((Nat → Nat → Nat) × (Nat → Nat → Int32)) => xW a cI cJ cZ u.1 u.2)
    (fun (r : Int32) (u : ((Nat → Nat → Nat) × (Nat → Nat → Int32))) => (∃ g8 : Nat → Nat, ∃ g9 : Nat → Nat, r = nI (1) ∧ u = (va_up (va_up (va_up v 6 (va_up (v 6) 1 (v 6 1 + 1))) 8 (g8)) 9 (g9), c) ∧ x = nI 59 ∧ v 6 1 < 4 ∧ g8 = va_up (va_up (v 8) (v 6 1) 0) (v 6 1) (0 + 1) ∧ g9 = va_up (v 9) (v 6 1 * 6 + 0) 0) ∨ (r = nI (1) ∧ u = (va_up (va_up v 8 (va_up (v 8) (v 6 1 - 1) (v 8 (v 6 1 - 1) + 1))) 9 (va_up (v 9) ((v 6 1 - 1) * 6 + v 8 (v 6 1 - 1)) 0), c) ∧ x = nI 44 ∧ v 8 (v 6 1 - 1) < 6) ∨ (∃ j : Nat, r = nI (1) ∧ u = (va_up v 9 (va_up (v 9) ((v 6 1 - 1) * 6 + v 8 (v 6 1 - 1) - 1) (v 9 ((v 6 1 - 1) * 6 + v 8 (v 6 1 - 1) - 1) ||| 1 * 2 ^ j)), c) ∧ j < v 6 0 ∧ x = nI (48 + j) ∧ v 9 ((v 6 1 - 1) * 6 + v 8 (v 6 1 - 1) - 1) / 2 ^ j = 0 ∧ pc (v 9 ((v 6 1 - 1) * 6 + v 8 (v 6 1 - 1) - 1)) < 4) ∨ (r = nI (0) ∧ u = (v, c) ∧ ((x = nI 59 ∧ 4 ≤ v 6 1) ∨ (x = nI 44 ∧ 6 ≤ v 8 (v 6 1 - 1)) ∨ (x ≠ nI 59 ∧ x ≠ nI 44 ∧ ∀ j, j < v 6 0 → x = nI (48 + j) → (v 9 ((v 6 1 - 1) * 6 + v 8 (v 6 1 - 1) - 1) / 2 ^ j ≠ 0 ∨ 4 ≤ pc (v 9 ((v 6 1 - 1) * 6 + v 8 (v 6 1 - 1) - 1))))))) := by
  refine w_bI cX4_goesOn 2 .boolean (by decide) rfl (Nat.le_of_ble_eq_true rfl) (Or.inr rfl) ?_
  intro p e s m args below meth c0 ls Q hx hb hml hts hown hK hN hA hret hP hD hS hl
  have hl : lv_has ls 2 [(0, .ref (a 5)), (1, .int x)] := hl
  have hinX4 : ∀ w ∈ wsX40, w ∈ wsX4_goesOn := fun w h => List.mem_cons_of_mem _ (List.mem_append_left _ (List.mem_append_right _ h))
  have hnd6 := hDI.1
  have hbt6 : ∀ e, e < v 6 1 → v 8 e ≤ 6 := fun e he => (hDI.2.1 e he).2
  refine lv_iload_n hx hb dX4_goesOn_0 rfl (lv_at hl 1 rfl) ?_
  rcases g_cases x with rfl | rfl | ⟨h0, h1⟩
  · skip
    refine lv_lookup (tgt := 36) hx hb dX4_goesOn_1 (by decide) (off := 35) (by decide) (by decide) ?_
    refine lv_aload_n hx hb dX4_goesOn_36 rfl (lv_at hl 0 rfl) ?_
    refine va_get (D := D) (ci := 4) (v := .ref (a 6)) (C := RX4) (T := TX4) (N := 1) hx hb hts hinX4 hown hK hP 5 rfl rfl 0 (by decide) (hts (.fieldLink RX4 10 "DancedLock$Text" "draft" "LDancedLock$Floor;") (List.mem_of_getElem? (i := 1) rfl)) (fun _ h9 => h9) rfl dX4_goesOn_37 ?_
    refine w_cVi (rest := []) hx hb hml hown hts (kd_addBeat_1 l D a cI cJ cZ A v c   (by first | assumption | omega) (by first | assumption | omega) (by first | assumption | omega)) 0 gX4_goesOn_X2_addBeat rfl hdX2_addBeat ⟨Nat.le_of_ble_eq_true rfl, Nat.le_of_ble_eq_true rfl⟩ hK hN hP hD hS hA 6 2 rfl rfl rfl rfl hl.1 rfl (Nat.le_of_ble_eq_true rfl) dX4_goesOn_40 ⟨Nat.le_of_ble_eq_true rfl, Nat.le_of_ble_eq_true rfl⟩ (fun r u H locs hq hP hD hS => ?_)
    rcases hq with ⟨rfl, rfl, h_40⟩ | ⟨rfl, rfl, h_40⟩
    · skip
      have hP : va_P D vwCl (xW a cI cJ cZ (va_up (va_up v 8 (va_up ((v 8)) ((v 6 1) - 1) ((v 8) ((v 6 1) - 1) + 1))) 9 (va_up ((v 9)) (((v 6 1) - 1) * 6 + (v 8) ((v 6 1) - 1)) 0)) c) H := hP
      have hD : va_D A (xW a cI cJ cZ (va_up (va_up v 8 (va_up ((v 8)) ((v 6 1) - 1) ((v 8) ((v 6 1) - 1) + 1))) 9 (va_up ((v 9)) (((v 6 1) - 1) * 6 + (v 8) ((v 6 1) - 1)) 0)) c) := hD
      exact hret (nI (1)) (va_up (va_up v 8 (va_up ((v 8)) ((v 6 1) - 1) ((v 8) ((v 6 1) - 1) + 1))) 9 (va_up ((v 9)) (((v 6 1) - 1) * 6 + (v 8) ((v 6 1) - 1)) 0), c) _ _ 43 _ dX4_goesOn_43 rfl (by exact Or.inr (Or.inl ⟨rfl, rfl, rfl, h_40⟩)) hP hD hS
    · skip
      have hP : va_P D vwCl (xW a cI cJ cZ v c) H := hP
      have hD : va_D A (xW a cI cJ cZ v c) := hD
      exact hret (nI (0)) (v, c) _ _ 43 _ dX4_goesOn_43 rfl (by exact Or.inr (Or.inr (Or.inr ⟨rfl, rfl, Or.inr (Or.inl ⟨rfl, h_40⟩)⟩))) hP hD hS
  · skip
    refine lv_lookup (tgt := 28) hx hb dX4_goesOn_1 (by decide) (off := 27) (by decide) (by decide) ?_
    refine lv_aload_n hx hb dX4_goesOn_28 rfl (lv_at hl 0 rfl) ?_
    refine va_get (D := D) (ci := 4) (v := .ref (a 6)) (C := RX4) (T := TX4) (N := 1) hx hb hts hinX4 hown hK hP 5 rfl rfl 0 (by decide) (hts (.fieldLink RX4 10 "DancedLock$Text" "draft" "LDancedLock$Floor;") (List.mem_of_getElem? (i := 1) rfl)) (fun _ h9 => h9) rfl dX4_goesOn_29 ?_
    refine w_cVi (rest := []) hx hb hml hown hts (kd_addDoor l D a cI cJ cZ A v c   (by first | assumption | omega) (by first | assumption | omega)) 0 gX4_goesOn_X2_addDoor rfl hdX2_addDoor ⟨Nat.le_of_ble_eq_true rfl, Nat.le_of_ble_eq_true rfl⟩ hK hN hP hD hS hA 6 2 rfl rfl rfl rfl hl.1 rfl (Nat.le_of_ble_eq_true rfl) dX4_goesOn_32 ⟨Nat.le_of_ble_eq_true rfl, Nat.le_of_ble_eq_true rfl⟩ (fun r u H locs hq hP hD hS => ?_)
    rcases hq with ⟨g8_32, g9_32, rfl, rfl, h_32, h8_32, h9_32⟩ | ⟨rfl, rfl, h_32⟩
    · skip
      have hP : va_P D vwCl (xW a cI cJ cZ (va_up (va_up (va_up v 6 (va_up (v 6) 1 ((v 6 1) + 1))) 8 (g8_32)) 9 (g9_32)) c) H := hP
      have hD : va_D A (xW a cI cJ cZ (va_up (va_up (va_up v 6 (va_up (v 6) 1 ((v 6 1) + 1))) 8 (g8_32)) 9 (g9_32)) c) := hD
      exact hret (nI (1)) (va_up (va_up (va_up v 6 (va_up (v 6) 1 ((v 6 1) + 1))) 8 (g8_32)) 9 (g9_32), c) _ _ 35 _ dX4_goesOn_35 rfl (by exact Or.inl ⟨g8_32, g9_32, rfl, rfl, rfl, h_32, h8_32, h9_32⟩) hP hD hS
    · skip
      have hP : va_P D vwCl (xW a cI cJ cZ v c) H := hP
      have hD : va_D A (xW a cI cJ cZ v c) := hD
      exact hret (nI (0)) (v, c) _ _ 35 _ dX4_goesOn_35 rfl (by exact Or.inr (Or.inr (Or.inr ⟨rfl, rfl, Or.inl ⟨rfl, h_32⟩⟩))) hP hD hS
  · skip
    refine lv_lookup (tgt := 44) hx hb dX4_goesOn_1 (by decide) (off := 43) ((lv_osw h0 (by decide)).trans ((lv_osw h1 (by decide)).trans rfl)) (by decide) ?_
    refine lv_aload_n hx hb dX4_goesOn_44 rfl (lv_at hl 0 rfl) ?_
    refine va_get (D := D) (ci := 4) (v := .ref (a 6)) (C := RX4) (T := TX4) (N := 1) hx hb hts hinX4 hown hK hP 5 rfl rfl 0 (by decide) (hts (.fieldLink RX4 10 "DancedLock$Text" "draft" "LDancedLock$Floor;") (List.mem_of_getElem? (i := 1) rfl)) (fun _ h9 => h9) rfl dX4_goesOn_45 ?_
    refine lv_iload_n hx hb dX4_goesOn_48 rfl (lv_at hl 1 rfl) ?_
    refine lv_bipush (v := nI (48)) hx hb dX4_goesOn_49 (by decide) ?_
    refine lv_isub hx hb dX4_goesOn_51 ?_
    refine w_cVi (rest := []) hx hb hml hown hts (kd_addRising_1 l D a cI cJ cZ A v c (x - (nI (48)))  (by first | assumption | omega) (by first | assumption | omega) (by first | assumption | omega)) 1 gX4_goesOn_X2_addRising rfl hdX2_addRising ⟨Nat.le_of_ble_eq_true rfl, Nat.le_of_ble_eq_true rfl⟩ hK hN hP hD hS hA 6 2 rfl rfl rfl rfl hl.1 rfl (Nat.le_of_ble_eq_true rfl) dX4_goesOn_52 ⟨Nat.le_of_ble_eq_true rfl, Nat.le_of_ble_eq_true rfl⟩ (fun r u H locs hq hP hD hS => ?_)
    rcases hq with ⟨j_52, rfl, rfl, hj_52, hx0_52, h1_52, h2_52⟩ | ⟨rfl, rfl, h_52⟩
    · skip
      have hP : va_P D vwCl (xW a cI cJ cZ (va_up v 9 (va_up ((v 9)) (((v 6 1) - 1) * 6 + (v 8) ((v 6 1) - 1) - 1) ((v 9) (((v 6 1) - 1) * 6 + (v 8) ((v 6 1) - 1) - 1) ||| 1 * 2 ^ j_52))) c) H := hP
      have hD : va_D A (xW a cI cJ cZ (va_up v 9 (va_up ((v 9)) (((v 6 1) - 1) * 6 + (v 8) ((v 6 1) - 1) - 1) ((v 9) (((v 6 1) - 1) * 6 + (v 8) ((v 6 1) - 1) - 1) ||| 1 * 2 ^ j_52))) c) := hD
      exact hret (nI (1)) (va_up v 9 (va_up ((v 9)) (((v 6 1) - 1) * 6 + (v 8) ((v 6 1) - 1) - 1) ((v 9) (((v 6 1) - 1) * 6 + (v 8) ((v 6 1) - 1) - 1) ||| 1 * 2 ^ j_52)), c) _ _ 55 _ dX4_goesOn_55 rfl (by exact Or.inr (Or.inr (Or.inl ⟨j_52, rfl, rfl, hj_52, sub48.mp hx0_52, h1_52, h2_52⟩))) hP hD hS
    · skip
      have hP : va_P D vwCl (xW a cI cJ cZ v c) H := hP
      have hD : va_D A (xW a cI cJ cZ v c) := hD
      exact hret (nI (0)) (v, c) _ _ 55 _ dX4_goesOn_55 rfl (by exact Or.inr (Or.inr (Or.inr ⟨rfl, rfl, Or.inr (Or.inr ⟨h1, h0, fun j hj e => h_52 j hj (sub48.mpr e)⟩)⟩))) hP hD hS

set_option maxHeartbeats 4000000 in
set_option maxRecDepth 100000 in
theorem k_goesOn_0 (l : Launch) (D : va_G) (a : Nat → Nat) (cI cJ cZ : ClassId) (A : Nat → Prop) (v : Nat → Nat → Nat) (c : Nat → Nat → Int32) (x : Int32) (hd0 : v 6 1 = 0) :
    mI l yX4_goesOn wsX4_goesOn 3 62 [.ref (a 5), .int x] D (xT cI cJ cZ) A (xW a cI cJ cZ v c) (fun u : ((Nat → Nat → Nat) × (Nat → Nat → Int32)) => xW a cI cJ cZ u.1 u.2)
    (fun (r : Int32) (u : ((Nat → Nat → Nat) × (Nat → Nat → Int32))) => (∃ g8 : Nat → Nat, ∃ g9 : Nat → Nat, r = nI (1) ∧ u = (va_up (va_up (va_up v 6 (va_up (v 6) 1 (v 6 1 + 1))) 8 (g8)) 9 (g9), c) ∧ x = nI 59 ∧ v 6 1 < 4 ∧ g8 = va_up (va_up (v 8) (v 6 1) 0) (v 6 1) (0 + 1) ∧ g9 = va_up (v 9) (v 6 1 * 6 + 0) 0) ∨ (r = nI (0) ∧ u = (v, c) ∧ x ≠ nI 59)) := by
  refine w_bI cX4_goesOn 2 .boolean (by decide) rfl (Nat.le_of_ble_eq_true rfl) (Or.inr rfl) ?_
  intro p e s m args below meth c0 ls Q hx hb hml hts hown hK hN hA hret hP hD hS hl
  have hl : lv_has ls 2 [(0, .ref (a 5)), (1, .int x)] := hl
  have hinX4 : ∀ w ∈ wsX40, w ∈ wsX4_goesOn := fun w h => List.mem_cons_of_mem _ (List.mem_append_left _ (List.mem_append_right _ h))
  have hnd6 : v 6 1 ≤ 4 := by omega
  have hbt6 : ∀ e, e < v 6 1 → v 8 e ≤ 6 := fun e he => by omega
  refine lv_iload_n hx hb dX4_goesOn_0 rfl (lv_at hl 1 rfl) ?_
  rcases g_cases x with rfl | rfl | ⟨h0, h1⟩
  · skip
    refine lv_lookup (tgt := 36) hx hb dX4_goesOn_1 (by decide) (off := 35) (by decide) (by decide) ?_
    refine lv_aload_n hx hb dX4_goesOn_36 rfl (lv_at hl 0 rfl) ?_
    refine va_get (D := D) (ci := 4) (v := .ref (a 6)) (C := RX4) (T := TX4) (N := 1) hx hb hts hinX4 hown hK hP 5 rfl rfl 0 (by decide) (hts (.fieldLink RX4 10 "DancedLock$Text" "draft" "LDancedLock$Floor;") (List.mem_of_getElem? (i := 1) rfl)) (fun _ h9 => h9) rfl dX4_goesOn_37 ?_
    refine w_cVi (rest := []) hx hb hml hown hts (kd_addBeat_0 l D a cI cJ cZ A v c   (by first | assumption | omega)) 0 gX4_goesOn_X2_addBeat rfl hdX2_addBeat ⟨Nat.le_of_ble_eq_true rfl, Nat.le_of_ble_eq_true rfl⟩ hK hN hP hD hS hA 6 2 rfl rfl rfl rfl hl.1 rfl (Nat.le_of_ble_eq_true rfl) dX4_goesOn_40 ⟨Nat.le_of_ble_eq_true rfl, Nat.le_of_ble_eq_true rfl⟩ (fun r u H locs hq hP hD hS => ?_)
    obtain rfl := hq
    have hP : va_P D vwCl (xW a cI cJ cZ v c) H := hP
    have hD : va_D A (xW a cI cJ cZ v c) := hD
    exact hret (nI (0)) (v, c) _ _ 43 _ dX4_goesOn_43 rfl (by exact Or.inr ⟨rfl, rfl, by decide⟩) hP hD hS
  · skip
    refine lv_lookup (tgt := 28) hx hb dX4_goesOn_1 (by decide) (off := 27) (by decide) (by decide) ?_
    refine lv_aload_n hx hb dX4_goesOn_28 rfl (lv_at hl 0 rfl) ?_
    refine va_get (D := D) (ci := 4) (v := .ref (a 6)) (C := RX4) (T := TX4) (N := 1) hx hb hts hinX4 hown hK hP 5 rfl rfl 0 (by decide) (hts (.fieldLink RX4 10 "DancedLock$Text" "draft" "LDancedLock$Floor;") (List.mem_of_getElem? (i := 1) rfl)) (fun _ h9 => h9) rfl dX4_goesOn_29 ?_
    refine w_cVi (rest := []) hx hb hml hown hts (kd_addDoor l D a cI cJ cZ A v c   (by first | assumption | omega) (by first | assumption | omega)) 0 gX4_goesOn_X2_addDoor rfl hdX2_addDoor ⟨Nat.le_of_ble_eq_true rfl, Nat.le_of_ble_eq_true rfl⟩ hK hN hP hD hS hA 6 2 rfl rfl rfl rfl hl.1 rfl (Nat.le_of_ble_eq_true rfl) dX4_goesOn_32 ⟨Nat.le_of_ble_eq_true rfl, Nat.le_of_ble_eq_true rfl⟩ (fun r u H locs hq hP hD hS => ?_)
    rcases hq with ⟨g8_32, g9_32, rfl, rfl, h_32, h8_32, h9_32⟩ | ⟨rfl, rfl, h_32⟩
    · skip
      have hP : va_P D vwCl (xW a cI cJ cZ (va_up (va_up (va_up v 6 (va_up (v 6) 1 ((v 6 1) + 1))) 8 (g8_32)) 9 (g9_32)) c) H := hP
      have hD : va_D A (xW a cI cJ cZ (va_up (va_up (va_up v 6 (va_up (v 6) 1 ((v 6 1) + 1))) 8 (g8_32)) 9 (g9_32)) c) := hD
      exact hret (nI (1)) (va_up (va_up (va_up v 6 (va_up (v 6) 1 ((v 6 1) + 1))) 8 (g8_32)) 9 (g9_32), c) _ _ 35 _ dX4_goesOn_35 rfl (by exact Or.inl ⟨g8_32, g9_32, rfl, rfl, rfl, h_32, h8_32, h9_32⟩) hP hD hS
    · skip
      exfalso; omega
  · skip
    refine lv_lookup (tgt := 44) hx hb dX4_goesOn_1 (by decide) (off := 43) ((lv_osw h0 (by decide)).trans ((lv_osw h1 (by decide)).trans rfl)) (by decide) ?_
    refine lv_aload_n hx hb dX4_goesOn_44 rfl (lv_at hl 0 rfl) ?_
    refine va_get (D := D) (ci := 4) (v := .ref (a 6)) (C := RX4) (T := TX4) (N := 1) hx hb hts hinX4 hown hK hP 5 rfl rfl 0 (by decide) (hts (.fieldLink RX4 10 "DancedLock$Text" "draft" "LDancedLock$Floor;") (List.mem_of_getElem? (i := 1) rfl)) (fun _ h9 => h9) rfl dX4_goesOn_45 ?_
    refine lv_iload_n hx hb dX4_goesOn_48 rfl (lv_at hl 1 rfl) ?_
    refine lv_bipush (v := nI (48)) hx hb dX4_goesOn_49 (by decide) ?_
    refine lv_isub hx hb dX4_goesOn_51 ?_
    refine w_cVi (rest := []) hx hb hml hown hts (kd_addRising_0 l D a cI cJ cZ A v c (x - (nI (48)))  (by first | assumption | omega)) 1 gX4_goesOn_X2_addRising rfl hdX2_addRising ⟨Nat.le_of_ble_eq_true rfl, Nat.le_of_ble_eq_true rfl⟩ hK hN hP hD hS hA 6 2 rfl rfl rfl rfl hl.1 rfl (Nat.le_of_ble_eq_true rfl) dX4_goesOn_52 ⟨Nat.le_of_ble_eq_true rfl, Nat.le_of_ble_eq_true rfl⟩ (fun r u H locs hq hP hD hS => ?_)
    obtain rfl := hq
    have hP : va_P D vwCl (xW a cI cJ cZ v c) H := hP
    have hD : va_D A (xW a cI cJ cZ v c) := hD
    exact hret (nI (0)) (v, c) _ _ 55 _ dX4_goesOn_55 rfl (by exact Or.inr ⟨rfl, rfl, h1⟩) hP hD hS

set_option maxHeartbeats 4000000 in
set_option maxRecDepth 100000 in
theorem k_ffDoors (l : Launch) (D : va_G) (a : Nat → Nat) (cI cJ cZ : ClassId) (A : Nat → Prop) (v : Nat → Nat → Nat) (c : Nat → Nat → Int32) (fi : Nat) (cnt : Nat) (hnb2 : 2 ≤ v 6 0) (hnb : v 6 0 ≤ 7) (hz : v 6 1 = 0) (hfc : fi ≤ cnt) (hc80 : cnt ≤ 80) :
    mI l yX4_firstFaultOfDoors wsX4_firstFaultOfDoors 4 83 [.ref (a 5), .ref (a 25), .int (nI fi), .int (nI cnt)] D (xT cI cJ cZ) A (xW a cI cJ cZ v c) (fun u : ((Nat → Nat → Nat) × (Nat → Nat → Int32)) => xW a cI cJ cZ u.1 u.2)
    (fun (r : Int32) (u : ((Nat → Nat → Nat) × (Nat → Nat → Int32))) => (∃ q : Nat, ∃ nd6 : Nat, ∃ g8 : Nat → Nat, ∃ g9 : Nat → Nat, r = nI (q) ∧ u = (va_up (va_up (va_up v 6 (va_up (v 6) 1 (nd6))) 8 (g8)) 9 (g9), c) ∧ (∃ k S, q = fi + k ∧ RS (v 6 0) (c 25) fi k S ∧ ((q < cnt ∧ ∀ S', ¬ PG (v 6 0) (c 25 q) S S') ∨ (q = cnt ∧ S.1 = 0)))) ∨ (∃ nd6 : Nat, ∃ g8 : Nat → Nat, ∃ g9 : Nat → Nat, ∃ S : pS, r = -1 ∧ u = (va_up (va_up (va_up v 6 (va_up (v 6) 1 (nd6))) 8 (g8)) 9 (g9), c) ∧ RS (v 6 0) (c 25) fi (cnt - fi) S ∧ 0 < S.1 ∧ AGR S nd6 g8 g9 ∧ DIb (v 6 0) nd6 g8 g9)) := by
  refine w_bI cX4_firstFaultOfDoors 5 .int (by decide) rfl (Nat.le_of_ble_eq_true rfl) (Or.inl rfl) ?_
  intro p e s m args below meth c0 ls Q hx hb hml hts hown hK hN hA hret hP hD hS hl
  have hl : lv_has ls 5 [(0, .ref (a 5)), (1, .ref (a 25)), (2, .int (nI (fi))), (3, .int (nI (cnt)))] := hl
  have hinX2 : ∀ w ∈ wsX20, w ∈ wsX4_firstFaultOfDoors := fun w h => List.mem_cons_of_mem _ (List.mem_append_right _ h)
  have hinX4 : ∀ w ∈ wsX40, w ∈ wsX4_firstFaultOfDoors := fun w h => List.mem_cons_of_mem _ (List.mem_append_left _ (List.mem_append_right _ h))
  refine lv_iload_n hx hb dX4_firstFaultOfDoors_0 rfl (lv_at hl 2 rfl) ?_
  refine lv_istore (lv' := [(4, .int (nI (fi))), (0, .ref (a 5)), (1, .ref (a 25)), (2, .int (nI (fi))), (3, .int (nI (cnt)))]) hx hb dX4_firstFaultOfDoors_1 hl (by decide) rfl (fun ls hl => ?_)
  have L3 : ∀ (n : Nat) (i : Nat) (nd6 : Nat) (g8 : Nat → Nat) (g9 : Nat → Nat) (H : Heap) (locs : List Loc) (ls : Array Slot), cnt - i < n → (fi ≤ i ∧ i ≤ cnt) → (DIb (v 6 0) nd6 g8 g9) → (∃ S, RS (v 6 0) (c 25) fi (i - fi) S ∧ AGR S nd6 g8 g9) → va_P D vwCl (xW a cI cJ cZ (va_up (va_up (va_up v 6 (va_up (v 6) 1 (nd6))) 8 (g8)) 9 (g9)) c) H → va_D A (xW a cI cJ cZ (va_up (va_up (va_up v 6 (va_up (v 6) 1 (nd6))) 8 (g8)) 9 (g9)) c) → va_S A s.heap H locs → lv_has ls 5 [(4, .int (nI (i))), (0, .ref (a 5)), (1, .ref (a 25)), (2, .int (nI (fi))), (3, .int (nI (cnt)))] → W p l e { frames := 4, cells := 0, slots := 0, locals := 83 } s m args below meth c0 H locs 0 0 Q (F0 m 3 ls []) := by
    intro n
    induction n with
    | zero => intro i nd6 g8 g9 H locs ls hm; exact absurd hm (Nat.not_lt_zero _)
    | succ n ih3 =>
      intro i nd6 g8 g9 H locs ls hm3 k1 k2 k3 hP hD hS hl
      refine lv_iload hx hb dX4_firstFaultOfDoors_3 (lv_at hl 0 rfl) ?_
      refine lv_iload_n hx hb dX4_firstFaultOfDoors_5 rfl (lv_at hl 4 rfl) ?_
      refine w_icmp_ge (x := i) (y := cnt) hx hb dX4_firstFaultOfDoors_6 (tgt := 29) (by decide) (by omega) (by omega) (fun c6 => ?_) (fun c6 => ?_)
      · skip
        refine lv_aload_n hx hb dX4_firstFaultOfDoors_29 rfl (lv_at hl 1 rfl) ?_
        refine va_get (D := D) (ci := 4) (v := .ref (a 6)) (C := RX4) (T := TX4) (N := 1) hx hb hts hinX4 hown hK hP 5 rfl rfl 0 (by decide) (hts (.fieldLink RX4 10 "DancedLock$Text" "draft" "LDancedLock$Floor;") (List.mem_of_getElem? (i := 1) rfl)) (fun _ h9 => h9) rfl dX4_firstFaultOfDoors_30 ?_
        refine va_getN (D := D) (ci := 2) (v := .int (nI (nd6))) (C := RX2) (T := TX2) (N := 5) hx hb hts hinX2 hown hK hP 6 rfl rfl 1 (by decide) (va_Nw.use rfl (hN (.fieldLinkNest RX4 37 "DancedLock$Floor" "doors" "I" "DancedLock") (List.mem_of_getElem? (i := 2) rfl))) (fun _ h9 => h9) rfl dX4_firstFaultOfDoors_33 ?_
        have e : i = cnt := by omega
        refine w_if_le (x := nd6) hx hb dX4_firstFaultOfDoors_36 (tgt := 43) (by decide) (by have h9 := k2.1; omega) (fun c36 => ?_) (fun c36 => ?_)
        · skip
          refine lv_iload_n hx hb dX4_firstFaultOfDoors_43 rfl (lv_at hl 4 rfl) ?_
          exact hret (nI (cnt)) (va_up (va_up (va_up v 6 (va_up (v 6) 1 (nd6))) 8 (g8)) 9 (g9), c) _ _ 44 _ dX4_firstFaultOfDoors_44 rfl (by obtain ⟨S, h1, h2⟩ := k3; exact Or.inl ⟨cnt, _, _, _, rfl, rfl, cnt - fi, S, by omega, by rw [← e]; exact h1, Or.inr ⟨rfl, h2.1.trans c36⟩⟩) hP hD hS
        · skip
          refine lv_iconst (v := -1) hx hb dX4_firstFaultOfDoors_39 (by decide) ?_
          refine lv_goto (tgt := 44) hx hb dX4_firstFaultOfDoors_40 (by decide) ?_
          exact hret ((-1)) (va_up (va_up (va_up v 6 (va_up (v 6) 1 (nd6))) 8 (g8)) 9 (g9), c) _ _ 44 _ dX4_firstFaultOfDoors_44 rfl (by obtain ⟨S, h1, h2⟩ := k3; exact Or.inr ⟨_, _, _, S, rfl, rfl, by rw [← e]; exact h1, by rw [h2.1]; exact c36, h2, k2⟩) hP hD hS
      · skip
        refine lv_aload_n hx hb dX4_firstFaultOfDoors_9 rfl (lv_at hl 1 rfl) ?_
        refine lv_aload_n hx hb dX4_firstFaultOfDoors_10 rfl (lv_at hl 2 rfl) ?_
        refine lv_iload hx hb dX4_firstFaultOfDoors_11 (lv_at hl 0 rfl) ?_
        refine r_iald (f := c 25) hx hb hK hP 25 0 rfl rfl (i := i) (by omega) (by decide) dX4_firstFaultOfDoors_13 ?_
        rcases Nat.eq_zero_or_pos nd6 with hz0 | hp0
        · skip
          refine w_cVi (rest := []) hx hb hml hown hts (k_goesOn_0 l D a cI cJ cZ A (va_up (va_up (va_up v 6 (va_up (v 6) 1 (nd6))) 8 (g8)) 9 (g9)) c (c 25 i)  (by show nd6 = 0; exact hz0)) 1 gX4_firstFaultOfDoors_X4_goesOn rfl hdX4_goesOn ⟨Nat.le_of_ble_eq_true rfl, Nat.le_of_ble_eq_true rfl⟩ hK hN hP hD hS hA 5 4 rfl rfl rfl rfl hl.1 rfl (Nat.le_of_ble_eq_true rfl) dX4_firstFaultOfDoors_14 ⟨Nat.le_of_ble_eq_true rfl, Nat.le_of_ble_eq_true rfl⟩ (fun r u H locs hq hP hD hS => ?_)
          rcases hq with ⟨g8_14, g9_14, rfl, rfl, hx_14, h_14, h8_14, h9_14⟩ | ⟨rfl, rfl, h_14⟩
          · skip
            have h_14 : nd6 < 4 := h_14
            have h8_14 : g8_14 = va_up (va_up (g8) (nd6) 0) (nd6) (0 + 1) := h8_14
            have h9_14 : g9_14 = va_up (g9) (nd6 * 6 + 0) 0 := h9_14
            have hP : va_P D vwCl (xW a cI cJ cZ (va_up (va_up (va_up v 6 (va_up (v 6) 1 (nd6 + 1))) 8 (g8_14)) 9 (g9_14)) c) H := hP
            have hD : va_D A (xW a cI cJ cZ (va_up (va_up (va_up v 6 (va_up (v 6) 1 (nd6 + 1))) 8 (g8_14)) 9 (g9_14)) c) := hD
            refine w_if_ne (x := 1) hx hb dX4_firstFaultOfDoors_17 (tgt := 23) (by decide) (by decide) (fun _ => ?_) (fun h => absurd h (by decide))
            refine lv_iinc (v := nI (i + 1)) (lv' := [(4, .int (nI (i + 1))), (0, .ref (a 5)), (1, .ref (a 25)), (2, .int (nI (fi))), (3, .int (nI (cnt)))]) hx hb dX4_firstFaultOfDoors_23 hl (k := 0) rfl (nI_add i 1) (by decide) rfl (fun ls hl => ?_)
            refine lv_goto (tgt := 3) hx hb dX4_firstFaultOfDoors_26 (by decide) ?_
            exact ih3 (i + 1) (nd6 + 1) g8_14 g9_14 _ _ _ (by omega) (by omega) (by first | (rw [h8_14, h9_14]; exact DIb_door k2 h_14) | exact DIb_beat hp0 k2 h_14 | exact DIb_rise k2 hp0 hj_14) (by obtain ⟨S, h1, h2⟩ := k3; first | exact ⟨_, rs_s h1 k1.1 (Or.inl ⟨hx_14, by rw [h2.1]; exact h_14, rfl⟩), by rw [h8_14, h9_14]; exact AGR_door h2⟩ | exact ⟨_, rs_s h1 k1.1 (Or.inr (Or.inl ⟨hx_14, by rw [h2.1]; exact hp0, by rw [h2.1, h2.2.1 _ (by omega)]; exact h_14, rfl⟩)), AGR_beat hp0 (fun d hd => (k2.2.1 d hd).2) h2 h_14⟩ | exact rs_rise h1 k1.1 h2 hp0 k2 hj_14 hx_14 h1_14 h2_14) hP hD hS (lv_sub hl [0, 1, 2, 3, 4] rfl)
          · skip
            have hP : va_P D vwCl (xW a cI cJ cZ (va_up (va_up (va_up v 6 (va_up (v 6) 1 (nd6))) 8 (g8)) 9 (g9)) c) H := hP
            have hD : va_D A (xW a cI cJ cZ (va_up (va_up (va_up v 6 (va_up (v 6) 1 (nd6))) 8 (g8)) 9 (g9)) c) := hD
            refine w_if_ne (x := 0) hx hb dX4_firstFaultOfDoors_17 (tgt := 23) (by decide) (by decide) (fun h => absurd h (by decide)) (fun _ => ?_)
            refine lv_iload hx hb dX4_firstFaultOfDoors_20 (lv_at hl 0 rfl) ?_
            exact hret (nI (i)) (va_up (va_up (va_up v 6 (va_up (v 6) 1 (nd6))) 8 (g8)) 9 (g9), c) _ _ 22 _ dX4_firstFaultOfDoors_22 rfl (by obtain ⟨S, h1, h2⟩ := k3; exact Or.inl ⟨i, _, _, _, rfl, rfl, i - fi, S, by omega, h1, Or.inl ⟨by omega, by first | exact stuck0 (h2.1.trans hz0) h_14 | exact stuck1 hnb hp0 (fun d hd => (k2.2.1 d hd).1) h2 h_14⟩⟩) hP hD hS
        · skip
          refine w_cVi (rest := []) hx hb hml hown hts (k_goesOn_1 l D a cI cJ cZ A (va_up (va_up (va_up v 6 (va_up (v 6) 1 (nd6))) 8 (g8)) 9 (g9)) c (c 25 i)  (by show 0 < nd6; exact hp0) (by show DIb ((v 6 0)) (nd6) (g8) (g9); exact k2) (by show (v 6 0) ≤ 7; exact hnb)) 1 gX4_firstFaultOfDoors_X4_goesOn rfl hdX4_goesOn ⟨Nat.le_of_ble_eq_true rfl, Nat.le_of_ble_eq_true rfl⟩ hK hN hP hD hS hA 5 4 rfl rfl rfl rfl hl.1 rfl (Nat.le_of_ble_eq_true rfl) dX4_firstFaultOfDoors_14 ⟨Nat.le_of_ble_eq_true rfl, Nat.le_of_ble_eq_true rfl⟩ (fun r u H locs hq hP hD hS => ?_)
          rcases hq with ⟨g8_14, g9_14, rfl, rfl, hx_14, h_14, h8_14, h9_14⟩ | ⟨rfl, rfl, hx_14, h_14⟩ | ⟨j_14, rfl, rfl, hj_14, hx_14, h1_14, h2_14⟩ | ⟨rfl, rfl, h_14⟩
          · skip
            have h_14 : nd6 < 4 := h_14
            have h8_14 : g8_14 = va_up (va_up (g8) (nd6) 0) (nd6) (0 + 1) := h8_14
            have h9_14 : g9_14 = va_up (g9) (nd6 * 6 + 0) 0 := h9_14
            have hP : va_P D vwCl (xW a cI cJ cZ (va_up (va_up (va_up v 6 (va_up (v 6) 1 (nd6 + 1))) 8 (g8_14)) 9 (g9_14)) c) H := hP
            have hD : va_D A (xW a cI cJ cZ (va_up (va_up (va_up v 6 (va_up (v 6) 1 (nd6 + 1))) 8 (g8_14)) 9 (g9_14)) c) := hD
            refine w_if_ne (x := 1) hx hb dX4_firstFaultOfDoors_17 (tgt := 23) (by decide) (by decide) (fun _ => ?_) (fun h => absurd h (by decide))
            refine lv_iinc (v := nI (i + 1)) (lv' := [(4, .int (nI (i + 1))), (0, .ref (a 5)), (1, .ref (a 25)), (2, .int (nI (fi))), (3, .int (nI (cnt)))]) hx hb dX4_firstFaultOfDoors_23 hl (k := 0) rfl (nI_add i 1) (by decide) rfl (fun ls hl => ?_)
            refine lv_goto (tgt := 3) hx hb dX4_firstFaultOfDoors_26 (by decide) ?_
            exact ih3 (i + 1) (nd6 + 1) g8_14 g9_14 _ _ _ (by omega) (by omega) (by first | (rw [h8_14, h9_14]; exact DIb_door k2 h_14) | exact DIb_beat hp0 k2 h_14 | exact DIb_rise k2 hp0 hj_14) (by obtain ⟨S, h1, h2⟩ := k3; first | exact ⟨_, rs_s h1 k1.1 (Or.inl ⟨hx_14, by rw [h2.1]; exact h_14, rfl⟩), by rw [h8_14, h9_14]; exact AGR_door h2⟩ | exact ⟨_, rs_s h1 k1.1 (Or.inr (Or.inl ⟨hx_14, by rw [h2.1]; exact hp0, by rw [h2.1, h2.2.1 _ (by omega)]; exact h_14, rfl⟩)), AGR_beat hp0 (fun d hd => (k2.2.1 d hd).2) h2 h_14⟩ | exact rs_rise h1 k1.1 h2 hp0 k2 hj_14 hx_14 h1_14 h2_14) hP hD hS (lv_sub hl [0, 1, 2, 3, 4] rfl)
          · skip
            have h_14 : g8 (nd6 - 1) < 6 := h_14
            have hP : va_P D vwCl (xW a cI cJ cZ (va_up (va_up (va_up v 6 (va_up (v 6) 1 (nd6))) 8 (va_up (g8) (nd6 - 1) (g8 (nd6 - 1) + 1))) 9 (va_up (g9) ((nd6 - 1) * 6 + g8 (nd6 - 1)) 0)) c) H := hP
            have hD : va_D A (xW a cI cJ cZ (va_up (va_up (va_up v 6 (va_up (v 6) 1 (nd6))) 8 (va_up (g8) (nd6 - 1) (g8 (nd6 - 1) + 1))) 9 (va_up (g9) ((nd6 - 1) * 6 + g8 (nd6 - 1)) 0)) c) := hD
            refine w_if_ne (x := 1) hx hb dX4_firstFaultOfDoors_17 (tgt := 23) (by decide) (by decide) (fun _ => ?_) (fun h => absurd h (by decide))
            refine lv_iinc (v := nI (i + 1)) (lv' := [(4, .int (nI (i + 1))), (0, .ref (a 5)), (1, .ref (a 25)), (2, .int (nI (fi))), (3, .int (nI (cnt)))]) hx hb dX4_firstFaultOfDoors_23 hl (k := 0) rfl (nI_add i 1) (by decide) rfl (fun ls hl => ?_)
            refine lv_goto (tgt := 3) hx hb dX4_firstFaultOfDoors_26 (by decide) ?_
            exact ih3 (i + 1) nd6 (va_up (g8) (nd6 - 1) (g8 (nd6 - 1) + 1)) (va_up (g9) ((nd6 - 1) * 6 + g8 (nd6 - 1)) 0) _ _ _ (by omega) (by omega) (by first | (rw [h8_14, h9_14]; exact DIb_door k2 h_14) | exact DIb_beat hp0 k2 h_14 | exact DIb_rise k2 hp0 hj_14) (by obtain ⟨S, h1, h2⟩ := k3; first | exact ⟨_, rs_s h1 k1.1 (Or.inl ⟨hx_14, by rw [h2.1]; exact h_14, rfl⟩), by rw [h8_14, h9_14]; exact AGR_door h2⟩ | exact ⟨_, rs_s h1 k1.1 (Or.inr (Or.inl ⟨hx_14, by rw [h2.1]; exact hp0, by rw [h2.1, h2.2.1 _ (by omega)]; exact h_14, rfl⟩)), AGR_beat hp0 (fun d hd => (k2.2.1 d hd).2) h2 h_14⟩ | exact rs_rise h1 k1.1 h2 hp0 k2 hj_14 hx_14 h1_14 h2_14) hP hD hS (lv_sub hl [0, 1, 2, 3, 4] rfl)
          · skip
            have hj_14 : j_14 < (v 6 0) := hj_14
            have h1_14 : g9 ((nd6 - 1) * 6 + g8 (nd6 - 1) - 1) / 2 ^ j_14 = 0 := h1_14
            have h2_14 : pc (g9 ((nd6 - 1) * 6 + g8 (nd6 - 1) - 1)) < 4 := h2_14
            have hP : va_P D vwCl (xW a cI cJ cZ (va_up (va_up (va_up v 6 (va_up (v 6) 1 (nd6))) 8 (g8)) 9 (va_up (g9) ((nd6 - 1) * 6 + g8 (nd6 - 1) - 1) (g9 ((nd6 - 1) * 6 + g8 (nd6 - 1) - 1) ||| 1 * 2 ^ j_14))) c) H := hP
            have hD : va_D A (xW a cI cJ cZ (va_up (va_up (va_up v 6 (va_up (v 6) 1 (nd6))) 8 (g8)) 9 (va_up (g9) ((nd6 - 1) * 6 + g8 (nd6 - 1) - 1) (g9 ((nd6 - 1) * 6 + g8 (nd6 - 1) - 1) ||| 1 * 2 ^ j_14))) c) := hD
            refine w_if_ne (x := 1) hx hb dX4_firstFaultOfDoors_17 (tgt := 23) (by decide) (by decide) (fun _ => ?_) (fun h => absurd h (by decide))
            refine lv_iinc (v := nI (i + 1)) (lv' := [(4, .int (nI (i + 1))), (0, .ref (a 5)), (1, .ref (a 25)), (2, .int (nI (fi))), (3, .int (nI (cnt)))]) hx hb dX4_firstFaultOfDoors_23 hl (k := 0) rfl (nI_add i 1) (by decide) rfl (fun ls hl => ?_)
            refine lv_goto (tgt := 3) hx hb dX4_firstFaultOfDoors_26 (by decide) ?_
            exact ih3 (i + 1) nd6 g8 (va_up (g9) ((nd6 - 1) * 6 + g8 (nd6 - 1) - 1) (g9 ((nd6 - 1) * 6 + g8 (nd6 - 1) - 1) ||| 1 * 2 ^ j_14)) _ _ _ (by omega) (by omega) (by first | (rw [h8_14, h9_14]; exact DIb_door k2 h_14) | exact DIb_beat hp0 k2 h_14 | exact DIb_rise k2 hp0 hj_14) (by obtain ⟨S, h1, h2⟩ := k3; first | exact ⟨_, rs_s h1 k1.1 (Or.inl ⟨hx_14, by rw [h2.1]; exact h_14, rfl⟩), by rw [h8_14, h9_14]; exact AGR_door h2⟩ | exact ⟨_, rs_s h1 k1.1 (Or.inr (Or.inl ⟨hx_14, by rw [h2.1]; exact hp0, by rw [h2.1, h2.2.1 _ (by omega)]; exact h_14, rfl⟩)), AGR_beat hp0 (fun d hd => (k2.2.1 d hd).2) h2 h_14⟩ | exact rs_rise h1 k1.1 h2 hp0 k2 hj_14 hx_14 h1_14 h2_14) hP hD hS (lv_sub hl [0, 1, 2, 3, 4] rfl)
          · skip
            have h_14 : ((c 25 i) = nI 59 ∧ 4 ≤ nd6) ∨ ((c 25 i) = nI 44 ∧ 6 ≤ g8 (nd6 - 1)) ∨ ((c 25 i) ≠ nI 59 ∧ (c 25 i) ≠ nI 44 ∧ ∀ j, j < (v 6 0) → (c 25 i) = nI (48 + j) → (g9 ((nd6 - 1) * 6 + g8 (nd6 - 1) - 1) / 2 ^ j ≠ 0 ∨ 4 ≤ pc (g9 ((nd6 - 1) * 6 + g8 (nd6 - 1) - 1)))) := h_14
            have hP : va_P D vwCl (xW a cI cJ cZ (va_up (va_up (va_up v 6 (va_up (v 6) 1 (nd6))) 8 (g8)) 9 (g9)) c) H := hP
            have hD : va_D A (xW a cI cJ cZ (va_up (va_up (va_up v 6 (va_up (v 6) 1 (nd6))) 8 (g8)) 9 (g9)) c) := hD
            refine w_if_ne (x := 0) hx hb dX4_firstFaultOfDoors_17 (tgt := 23) (by decide) (by decide) (fun h => absurd h (by decide)) (fun _ => ?_)
            refine lv_iload hx hb dX4_firstFaultOfDoors_20 (lv_at hl 0 rfl) ?_
            exact hret (nI (i)) (va_up (va_up (va_up v 6 (va_up (v 6) 1 (nd6))) 8 (g8)) 9 (g9), c) _ _ 22 _ dX4_firstFaultOfDoors_22 rfl (by obtain ⟨S, h1, h2⟩ := k3; exact Or.inl ⟨i, _, _, _, rfl, rfl, i - fi, S, by omega, h1, Or.inl ⟨by omega, by first | exact stuck0 (h2.1.trans hz0) h_14 | exact stuck1 hnb hp0 (fun d hd => (k2.2.1 d hd).1) h2 h_14⟩⟩) hP hD hS
  exact L3 ((cnt - fi) + 1) fi (v 6 1) (v 8) (v 9) _ _ _ (Nat.lt_succ_self _) (by omega) (by rw [hz]; exact ⟨by omega, fun d hd => absurd hd (Nat.not_lt_zero _), fun d k hd => absurd hd (Nat.not_lt_zero _)⟩) (by rw [Nat.sub_self, hz]; exact ⟨S0, rfl, rfl, fun d hd => absurd hd (Nat.not_lt_zero _), fun d k hd => absurd hd (Nat.not_lt_zero _)⟩) hP hD hS (lv_sub hl [0, 1, 2, 3, 4] rfl)

set_option maxHeartbeats 4000000 in
set_option maxRecDepth 100000 in
theorem k_firstFault (l : Launch) (D : va_G) (a : Nat → Nat) (cI cJ cZ : ClassId) (A : Nat → Prop) (v : Nat → Nat → Nat) (c : Nat → Nat → Int32) (nn : Nat) (hn80 : nn ≤ 80) :
    mI l yX4_firstFault wsX4_firstFault 5 107 [.ref (a 5), .ref (a 25), .int (nI nn)] D (xT cI cJ cZ) A (xW a cI cJ cZ v c) (fun u : ((Nat → Nat → Nat) × (Nat → Nat → Int32)) => xW a cI cJ cZ u.1 u.2)
    (fun (r : Int32) (u : ((Nat → Nat → Nat) × (Nat → Nat → Int32))) => (∃ q : Nat, ∃ nb6 : Nat, ∃ nd6 : Nat, ∃ g7 : Nat → Nat, ∃ g8 : Nat → Nat, ∃ g9 : Nat → Nat, r = nI (q) ∧ u = (va_up (va_up (va_up (va_up v 6 (va_up (va_up (v 6) 0 (nb6)) 1 (nd6))) 7 (g7)) 8 (g8)) 9 (g9), c) ∧ FLT (c 25) nn q) ∨ (∃ nb6 : Nat, ∃ nd6 : Nat, ∃ g7 : Nat → Nat, ∃ g8 : Nat → Nat, ∃ g9 : Nat → Nat, ∃ S : pS, r = -1 ∧ u = (va_up (va_up (va_up (va_up v 6 (va_up (va_up (v 6) 0 (nb6)) 1 (nd6))) 7 (g7)) 8 (g8)) 9 (g9), c) ∧ TKN (c 25) nn nb6 g7 S ∧ AGR S nd6 g8 g9 ∧ DIb nb6 nd6 g8 g9)) := by
  refine w_bI cX4_firstFault 6 .int (by decide) rfl (Nat.le_of_ble_eq_true rfl) (Or.inl rfl) ?_
  intro p e s m args below meth c0 ls Q hx hb hml hts hown hK hN hA hret hP hD hS hl
  have hl : lv_has ls 6 [(0, .ref (a 5)), (1, .ref (a 25)), (2, .int (nI (nn)))] := hl
  have hinX4 : ∀ w ∈ wsX40, w ∈ wsX4_firstFault := fun w h => List.mem_cons_of_mem _ (List.mem_append_left _ (List.mem_append_right _ h))
  have t50 : (nI 50).toInt = 50 := rfl
  have t55 : (nI 55).toInt = 55 := rfl
  have t49 : (nI 49).toInt = 49 := rfl
  have t57 : (nI 57).toInt = 57 := rfl
  refine lv_iload_n hx hb dX4_firstFault_0 rfl (lv_at hl 2 rfl) ?_
  refine lv_aload_n hx hb dX4_firstFault_1 rfl (lv_at hl 1 rfl) ?_
  refine va_alen (v := nI 80) hx hb hK hP 25 0 rfl rfl rfl dX4_firstFault_2 ?_
  refine w_mmin (x := nn) (y := 80) (rest := []) hx hb (hml.trans hl.1.symm) (own := RX4) hown (hts (.methodLink RX4 16 Lib.Math.min.name) (List.mem_of_getElem? (i := 1) rfl)) (hts (.static Lib.Math.min.name) (List.mem_of_getElem? (i := 2) rfl)) (hts (.initialized "java/lang/Math") (List.mem_of_getElem? (i := 3) rfl)) (hts (.code Lib.Math.min.name Lib.Math.min.code 2 (some .int)) (List.mem_of_getElem? (i := 4) rfl)) (Nat.le_of_ble_eq_true rfl) (Nat.le_of_ble_eq_true rfl) (Nat.le_of_ble_eq_true rfl) (Nat.le_of_ble_eq_true rfl) (by omega) (by omega) dX4_firstFault_3 ?_
  rw [show (nI (min nn 80)) = (nI (nn)) from by rw [Nat.min_eq_left hn80]]
  refine lv_istore_n (lv' := [(3, .int (nI (nn))), (0, .ref (a 5)), (1, .ref (a 25)), (2, .int (nI (nn)))]) hx hb dX4_firstFault_6 rfl hl (by decide) rfl (fun ls hl => ?_)
  refine lv_aload_n hx hb dX4_firstFault_7 rfl (lv_at hl 1 rfl) ?_
  refine va_get (D := D) (ci := 4) (v := .ref (a 6)) (C := RX4) (T := TX4) (N := 1) hx hb hts hinX4 hown hK hP 5 rfl rfl 0 (by decide) (hts (.fieldLink RX4 10 "DancedLock$Text" "draft" "LDancedLock$Floor;") (List.mem_of_getElem? (i := 5) rfl)) (fun _ h9 => h9) rfl dX4_firstFault_8 ?_
  refine w_cVv (rest := []) hx hb hml hown hts (kd_clear l D a cI cJ cZ A v c   ) 0 gX4_firstFault_X2_clear rfl hdX2_clear ⟨Nat.le_of_ble_eq_true rfl, Nat.le_of_ble_eq_true rfl⟩ hK hN hP hD hS hA 6 2 rfl rfl rfl rfl hl.1 rfl (Nat.le_of_ble_eq_true rfl) dX4_firstFault_11 ⟨Nat.le_of_ble_eq_true rfl, Nat.le_of_ble_eq_true rfl⟩ (fun u H locs hq hP hD hS => ?_)
  obtain rfl := hq
  have hP : va_P D vwCl (xW a cI cJ cZ (va_up v 6 (va_up (va_up (v 6) 0 (0)) 1 (0))) c) H := hP
  have hD : va_D A (xW a cI cJ cZ (va_up v 6 (va_up (va_up (v 6) 0 (0)) 1 (0))) c) := hD
  refine lv_iload_n hx hb dX4_firstFault_14 rfl (lv_at hl 0 rfl) ?_
  refine lv_iconst (v := nI (1)) hx hb dX4_firstFault_15 (by decide) ?_
  refine w_icmp_lt (x := nn) (y := 1) hx hb dX4_firstFault_16 (tgt := 27) (by decide) (by omega) (by omega) (fun c16 => ?_) (fun c16 => ?_)
  · skip
    refine lv_iconst (v := nI (0)) hx hb dX4_firstFault_27 (by decide) ?_
    exact hret (nI (0)) (va_up v 6 (va_up (va_up (v 6) 0 (0)) 1 (0)), c) _ _ 28 _ dX4_firstFault_28 rfl (by first | exact Or.inl ⟨0, _, _, _, _, _, rfl, u789, Or.inl ⟨rfl, Or.inl (by omega)⟩⟩ | exact Or.inl ⟨0, _, _, _, _, _, rfl, u789, Or.inl ⟨rfl, Or.inr c24⟩⟩) hP hD hS
  · skip
    refine lv_aload_n hx hb dX4_firstFault_19 rfl (lv_at hl 2 rfl) ?_
    refine lv_iconst (v := nI (0)) hx hb dX4_firstFault_20 (by decide) ?_
    refine r_iald (f := c 25) hx hb hK hP 25 0 rfl rfl (i := 0) (by omega) (by decide) dX4_firstFault_21 ?_
    refine lv_bipush (v := nI (108)) hx hb dX4_firstFault_22 (by decide) ?_
    refine lv_icmp_eq (x := c 25 0) (y := nI (108)) hx hb dX4_firstFault_24 (tgt := 29) (by decide) (fun c24 => ?_) (fun c24 => ?_)
    · skip
      refine lv_iload_n hx hb dX4_firstFault_29 rfl (lv_at hl 0 rfl) ?_
      refine lv_iconst (v := nI (2)) hx hb dX4_firstFault_30 (by decide) ?_
      refine w_icmp_lt (x := nn) (y := 2) hx hb dX4_firstFault_31 (tgt := 50) (by decide) (by omega) (by omega) (fun c31 => ?_) (fun c31 => ?_)
      · skip
        refine lv_iconst (v := nI (1)) hx hb dX4_firstFault_50 (by decide) ?_
        exact hret (nI (1)) (va_up v 6 (va_up (va_up (v 6) 0 (0)) 1 (0)), c) _ _ 51 _ dX4_firstFault_51 rfl (by first | exact Or.inl ⟨1, _, _, _, _, _, rfl, u789, Or.inr (Or.inl ⟨rfl, by omega, c24, Or.inl (by omega)⟩)⟩ | exact Or.inl ⟨1, _, _, _, _, _, rfl, u789, Or.inr (Or.inl ⟨rfl, by omega, c24, Or.inr (dig_no (by decide) (by omega))⟩)⟩) hP hD hS
      · skip
        refine lv_aload_n hx hb dX4_firstFault_34 rfl (lv_at hl 2 rfl) ?_
        refine lv_iconst (v := nI (1)) hx hb dX4_firstFault_35 (by decide) ?_
        refine r_iald (f := c 25) hx hb hK hP 25 0 rfl rfl (i := 1) (by omega) (by decide) dX4_firstFault_36 ?_
        refine lv_bipush (v := nI (50)) hx hb dX4_firstFault_37 (by decide) ?_
        refine r_icmp_lt (x := c 25 1) (y := nI (50)) hx hb dX4_firstFault_39 (tgt := 50) (by decide) (fun c39 => ?_) (fun c39 => ?_)
        · skip
          refine lv_iconst (v := nI (1)) hx hb dX4_firstFault_50 (by decide) ?_
          exact hret (nI (1)) (va_up v 6 (va_up (va_up (v 6) 0 (0)) 1 (0)), c) _ _ 51 _ dX4_firstFault_51 rfl (by first | exact Or.inl ⟨1, _, _, _, _, _, rfl, u789, Or.inr (Or.inl ⟨rfl, by omega, c24, Or.inl (by omega)⟩)⟩ | exact Or.inl ⟨1, _, _, _, _, _, rfl, u789, Or.inr (Or.inl ⟨rfl, by omega, c24, Or.inr (dig_no (by decide) (by omega))⟩)⟩) hP hD hS
        · skip
          refine lv_aload_n hx hb dX4_firstFault_42 rfl (lv_at hl 2 rfl) ?_
          refine lv_iconst (v := nI (1)) hx hb dX4_firstFault_43 (by decide) ?_
          refine r_iald (f := c 25) hx hb hK hP 25 0 rfl rfl (i := 1) (by omega) (by decide) dX4_firstFault_44 ?_
          refine lv_bipush (v := nI (55)) hx hb dX4_firstFault_45 (by decide) ?_
          refine r_icmp_le (x := c 25 1) (y := nI (55)) hx hb dX4_firstFault_47 (tgt := 52) (by decide) (fun c47 => ?_) (fun c47 => ?_)
          · skip
            obtain ⟨nb, hnb1, hnb2, hx1⟩ := dig_ex (a := 2) (b := 7) (by decide) (x := c 25 1) (by omega) (by omega)
            refine lv_iconst (v := nI (2)) hx hb dX4_firstFault_52 (by decide) ?_
            refine lv_aload_n hx hb dX4_firstFault_53 rfl (lv_at hl 2 rfl) ?_
            refine lv_iconst (v := nI (1)) hx hb dX4_firstFault_54 (by decide) ?_
            refine r_iald (f := c 25) hx hb hK hP 25 0 rfl rfl (i := 1) (by omega) (by decide) dX4_firstFault_55 ?_
            rw [show (c 25 1) = (nI (48 + nb)) from hx1]
            refine w_iadd (x := 2) (y := 48 + nb) hx hb dX4_firstFault_56  ?_
            refine lv_bipush (v := nI (48)) hx hb dX4_firstFault_57 (by decide) ?_
            refine w_isub (x := 2 + (48 + nb)) (y := 48) hx hb dX4_firstFault_59 (by omega) ?_
            rw [show (nI ((2 + (48 + nb)) - 48)) = (nI (2 + nb)) from by rw [show 2 + (48 + nb) - 48 = 2 + nb by omega]]
            refine lv_istore (lv' := [(4, .int (nI (2 + nb))), (3, .int (nI (nn))), (0, .ref (a 5)), (1, .ref (a 25)), (2, .int (nI (nn)))]) hx hb dX4_firstFault_60 hl (by decide) rfl (fun ls hl => ?_)
            refine lv_iconst (v := nI (2)) hx hb dX4_firstFault_62 (by decide) ?_
            refine lv_istore (lv' := [(5, .int (nI (2))), (4, .int (nI (2 + nb))), (3, .int (nI (nn))), (0, .ref (a 5)), (1, .ref (a 25)), (2, .int (nI (nn)))]) hx hb dX4_firstFault_63 hl (by decide) rfl (fun ls hl => ?_)
            have L65 : ∀ (n : Nat) (i : Nat) (nbb : Nat) (g7 : Nat → Nat) (H : Heap) (locs : List Loc) (ls : Array Slot), 2 + nb - i < n → (2 ≤ i ∧ i ≤ 2 + nb) → (nbb + 2 = i) → (∀ b, b < nbb → 2 + b < nn ∧ 1 ≤ g7 b ∧ g7 b ≤ 9 ∧ c 25 (2 + b) = nI (48 + g7 b)) → va_P D vwCl (xW a cI cJ cZ (va_up (va_up v 6 (va_up (va_up (v 6) 0 (nbb)) 1 (0))) 7 (g7)) c) H → va_D A (xW a cI cJ cZ (va_up (va_up v 6 (va_up (va_up (v 6) 0 (nbb)) 1 (0))) 7 (g7)) c) → va_S A s.heap H locs → lv_has ls 6 [(5, .int (nI (i))), (0, .ref (a 5)), (1, .ref (a 25)), (2, .int (nI (nn))), (3, .int (nI (nn))), (4, .int (nI (2 + nb)))] → W p l e { frames := 5, cells := 0, slots := 0, locals := 107 } s m args below meth c0 H locs 0 0 Q (F0 m 65 ls []) := by
              intro n
              induction n with
              | zero => intro i nbb g7 H locs ls hm; exact absurd hm (Nat.not_lt_zero _)
              | succ n ih65 =>
                intro i nbb g7 H locs ls hm65 k1 k2 k3 hP hD hS hl
                refine lv_iload hx hb dX4_firstFault_65 (lv_at hl 0 rfl) ?_
                refine lv_iload hx hb dX4_firstFault_67 (lv_at hl 5 rfl) ?_
                refine w_icmp_ge (x := i) (y := 2 + nb) hx hb dX4_firstFault_69 (tgt := 119) (by decide) (by omega) (by omega) (fun c69 => ?_) (fun c69 => ?_)
                · skip
                  have e2 : nbb = nb := by omega
                  refine lv_aload_n hx hb dX4_firstFault_119 rfl (lv_at hl 1 rfl) ?_
                  refine lv_aload_n hx hb dX4_firstFault_120 rfl (lv_at hl 2 rfl) ?_
                  refine lv_iload hx hb dX4_firstFault_121 (lv_at hl 5 rfl) ?_
                  refine lv_iload_n hx hb dX4_firstFault_123 rfl (lv_at hl 4 rfl) ?_
                  refine w_cVi (rest := []) hx hb hml hown hts (k_ffDoors l D a cI cJ cZ A (va_up (va_up v 6 (va_up (va_up (v 6) 0 (nbb)) 1 (0))) 7 (g7)) c (2 + nb) nn  (by show 2 ≤ nbb; omega) (by show nbb ≤ 7; omega) (by show 0 = 0; rfl) (by have h9 := (k3 (nbb - 1) (by omega)).1; omega) (by exact hn80)) 3 gX4_firstFault_X4_firstFaultOfDoors rfl hdX4_firstFaultOfDoors ⟨Nat.le_of_ble_eq_true rfl, Nat.le_of_ble_eq_true rfl⟩ hK hN hP hD hS hA 5 4 rfl rfl rfl rfl hl.1 rfl (Nat.le_of_ble_eq_true rfl) dX4_firstFault_124 ⟨Nat.le_of_ble_eq_true rfl, Nat.le_of_ble_eq_true rfl⟩ (fun r u H locs hq hP hD hS => ?_)
                  rcases hq with ⟨q_124, nd6_124, g8_124, g9_124, rfl, rfl, h_124⟩ | ⟨nd6_124, g8_124, g9_124, S_124, rfl, rfl, h1_124, h2_124, h3_124, h4_124⟩
                  · skip
                    have h_124 : ∃ k S, q_124 = (2 + nb) + k ∧ RS (nbb) ((c 25)) (2 + nb) k S ∧ ((q_124 < nn ∧ ∀ S', ¬ PG (nbb) ((c 25) q_124) S S') ∨ (q_124 = nn ∧ S.1 = 0)) := h_124
                    have hP : va_P D vwCl (xW a cI cJ cZ (va_up (va_up (va_up (va_up v 6 (va_up (va_up (v 6) 0 (nbb)) 1 (nd6_124))) 7 (g7)) 8 (g8_124)) 9 (g9_124)) c) H := hP
                    have hD : va_D A (xW a cI cJ cZ (va_up (va_up (va_up (va_up v 6 (va_up (va_up (v 6) 0 (nbb)) 1 (nd6_124))) 7 (g7)) 8 (g8_124)) 9 (g9_124)) c) := hD
                    exact hret (nI (q_124)) (va_up (va_up (va_up (va_up v 6 (va_up (va_up (v 6) 0 (nbb)) 1 (nd6_124))) 7 (g7)) 8 (g8_124)) 9 (g9_124), c) _ _ 127 _ dX4_firstFault_127 rfl (by exact Or.inl ⟨q_124, nbb, nd6_124, g7, g8_124, g9_124, rfl, rfl, Or.inr (Or.inr (Or.inr ⟨nbb, ⟨by omega, c24, by omega, by omega, by rw [e2]; exact hx1⟩, fun b hb => ⟨(k3 b hb).1, g7 b, (k3 b hb).2.1, (k3 b hb).2.2.1, (k3 b hb).2.2.2⟩, by have h9 := h_124; rw [← e2] at h9; exact h9⟩))⟩) hP hD hS
                  · skip
                    have h1_124 : RS (nbb) ((c 25)) (2 + nb) (nn - (2 + nb)) S_124 := h1_124
                    have h4_124 : DIb (nbb) nd6_124 g8_124 g9_124 := h4_124
                    have hP : va_P D vwCl (xW a cI cJ cZ (va_up (va_up (va_up (va_up v 6 (va_up (va_up (v 6) 0 (nbb)) 1 (nd6_124))) 7 (g7)) 8 (g8_124)) 9 (g9_124)) c) H := hP
                    have hD : va_D A (xW a cI cJ cZ (va_up (va_up (va_up (va_up v 6 (va_up (va_up (v 6) 0 (nbb)) 1 (nd6_124))) 7 (g7)) 8 (g8_124)) 9 (g9_124)) c) := hD
                    exact hret (-1) (va_up (va_up (va_up (va_up v 6 (va_up (va_up (v 6) 0 (nbb)) 1 (nd6_124))) 7 (g7)) 8 (g8_124)) 9 (g9_124), c) _ _ 127 _ dX4_firstFault_127 rfl (by exact Or.inr ⟨nbb, nd6_124, g7, g8_124, g9_124, S_124, rfl, rfl, ⟨⟨by omega, c24, by omega, by omega, by rw [e2]; exact hx1⟩, k3, by have h9 := (k3 (nbb - 1) (by omega)).1; omega, by have h9 := h1_124; rw [← e2] at h9; exact h9, h2_124⟩, h3_124, h4_124⟩) hP hD hS
                · skip
                  refine lv_iload hx hb dX4_firstFault_72 (lv_at hl 0 rfl) ?_
                  refine lv_iload_n hx hb dX4_firstFault_74 rfl (lv_at hl 4 rfl) ?_
                  refine w_icmp_ge (x := i) (y := nn) hx hb dX4_firstFault_75 (tgt := 96) (by decide) (by omega) (by omega) (fun c75 => ?_) (fun c75 => ?_)
                  · skip
                    refine lv_iload hx hb dX4_firstFault_96 (lv_at hl 0 rfl) ?_
                    exact hret (nI (i)) (va_up (va_up v 6 (va_up (va_up (v 6) 0 (nbb)) 1 (0))) 7 (g7), c) _ _ 98 _ dX4_firstFault_98 rfl (by exact Or.inl ⟨i, _, _, _, _, _, rfl, u89, Or.inr (Or.inr (Or.inl ⟨nb, ⟨by omega, c24, hnb1, hnb2, hx1⟩, nbb, by omega, by omega, fun b hb => ⟨(k3 b hb).1, g7 b, (k3 b hb).2.1, (k3 b hb).2.2.1, (k3 b hb).2.2.2⟩, by rw [show 2 + nbb = i by omega]; first | exact fun z => absurd z.1 (by omega) | exact fun z => dig_no (by decide) (by omega) z.2⟩))⟩) hP hD hS
                  · skip
                    refine lv_aload_n hx hb dX4_firstFault_78 rfl (lv_at hl 2 rfl) ?_
                    refine lv_iload hx hb dX4_firstFault_79 (lv_at hl 0 rfl) ?_
                    refine r_iald (f := c 25) hx hb hK hP 25 0 rfl rfl (i := i) (by omega) (by decide) dX4_firstFault_81 ?_
                    refine lv_bipush (v := nI (49)) hx hb dX4_firstFault_82 (by decide) ?_
                    refine r_icmp_lt (x := c 25 i) (y := nI (49)) hx hb dX4_firstFault_84 (tgt := 96) (by decide) (fun c84 => ?_) (fun c84 => ?_)
                    · skip
                      refine lv_iload hx hb dX4_firstFault_96 (lv_at hl 0 rfl) ?_
                      exact hret (nI (i)) (va_up (va_up v 6 (va_up (va_up (v 6) 0 (nbb)) 1 (0))) 7 (g7), c) _ _ 98 _ dX4_firstFault_98 rfl (by exact Or.inl ⟨i, _, _, _, _, _, rfl, u89, Or.inr (Or.inr (Or.inl ⟨nb, ⟨by omega, c24, hnb1, hnb2, hx1⟩, nbb, by omega, by omega, fun b hb => ⟨(k3 b hb).1, g7 b, (k3 b hb).2.1, (k3 b hb).2.2.1, (k3 b hb).2.2.2⟩, by rw [show 2 + nbb = i by omega]; first | exact fun z => absurd z.1 (by omega) | exact fun z => dig_no (by decide) (by omega) z.2⟩))⟩) hP hD hS
                    · skip
                      refine lv_aload_n hx hb dX4_firstFault_87 rfl (lv_at hl 2 rfl) ?_
                      refine lv_iload hx hb dX4_firstFault_88 (lv_at hl 0 rfl) ?_
                      refine r_iald (f := c 25) hx hb hK hP 25 0 rfl rfl (i := i) (by omega) (by decide) dX4_firstFault_90 ?_
                      refine lv_bipush (v := nI (57)) hx hb dX4_firstFault_91 (by decide) ?_
                      refine r_icmp_le (x := c 25 i) (y := nI (57)) hx hb dX4_firstFault_93 (tgt := 99) (by decide) (fun c93 => ?_) (fun c93 => ?_)
                      · skip
                        obtain ⟨w, hw1, hw2, hxw⟩ := dig_ex (a := 1) (b := 9) (x := c 25 i) (by decide) (by omega) (by omega)
                        refine lv_aload_n hx hb dX4_firstFault_99 rfl (lv_at hl 1 rfl) ?_
                        refine va_get (D := D) (ci := 4) (v := .ref (a 6)) (C := RX4) (T := TX4) (N := 1) hx hb hts hinX4 hown hK hP 5 rfl rfl 0 (by decide) (hts (.fieldLink RX4 10 "DancedLock$Text" "draft" "LDancedLock$Floor;") (List.mem_of_getElem? (i := 5) rfl)) (fun _ h9 => h9) rfl dX4_firstFault_100 ?_
                        refine lv_aload_n hx hb dX4_firstFault_103 rfl (lv_at hl 2 rfl) ?_
                        refine lv_iload hx hb dX4_firstFault_104 (lv_at hl 0 rfl) ?_
                        refine r_iald (f := c 25) hx hb hK hP 25 0 rfl rfl (i := i) (by omega) (by decide) dX4_firstFault_106 ?_
                        rw [show (c 25 i) = (nI (48 + w)) from hxw]
                        refine lv_bipush (v := nI (48)) hx hb dX4_firstFault_107 (by decide) ?_
                        refine w_isub (x := 48 + w) (y := 48) hx hb dX4_firstFault_109 (by omega) ?_
                        rw [show (nI ((48 + w) - 48)) = (nI (w)) from by rw [show 48 + w - 48 = w by omega]]
                        refine w_cVv (rest := []) hx hb hml hown hts (kd_addBoard l D a cI cJ cZ A (va_up (va_up v 6 (va_up (va_up (v 6) 0 (nbb)) 1 (0))) 7 (g7)) c w  (by show nbb < 7; omega)) 1 gX4_firstFault_X2_addBoard rfl hdX2_addBoard ⟨Nat.le_of_ble_eq_true rfl, Nat.le_of_ble_eq_true rfl⟩ hK hN hP hD hS hA 6 2 rfl rfl rfl rfl hl.1 rfl (Nat.le_of_ble_eq_true rfl) dX4_firstFault_110 ⟨Nat.le_of_ble_eq_true rfl, Nat.le_of_ble_eq_true rfl⟩ (fun u H locs hq hP hD hS => ?_)
                        obtain rfl := hq
                        have hP : va_P D vwCl (xW a cI cJ cZ (va_up (va_up v 6 (va_up (va_up (v 6) 0 (nbb + 1)) 1 (0))) 7 (va_up (g7) (nbb) w)) c) H := hP
                        have hD : va_D A (xW a cI cJ cZ (va_up (va_up v 6 (va_up (va_up (v 6) 0 (nbb + 1)) 1 (0))) 7 (va_up (g7) (nbb) w)) c) := hD
                        refine lv_iinc (v := nI (i + 1)) (lv' := [(5, .int (nI (i + 1))), (0, .ref (a 5)), (1, .ref (a 25)), (2, .int (nI (nn))), (3, .int (nI (nn))), (4, .int (nI (2 + nb)))]) hx hb dX4_firstFault_113 hl (k := 0) rfl (nI_add i 1) (by decide) rfl (fun ls hl => ?_)
                        refine lv_goto (tgt := 65) hx hb dX4_firstFault_116 (by decide) ?_
                        exact ih65 (i + 1) (nbb + 1) (va_up (g7) (nbb) w) _ _ _ (by omega) (by omega) (by omega) (by exact nd_s k3 (by omega) hw1 hw2 (by rw [show 2 + nbb = i by omega]; exact hxw)) hP hD hS (lv_sub hl [0, 1, 2, 3, 4, 5] rfl)
                      · skip
                        refine lv_iload hx hb dX4_firstFault_96 (lv_at hl 0 rfl) ?_
                        exact hret (nI (i)) (va_up (va_up v 6 (va_up (va_up (v 6) 0 (nbb)) 1 (0))) 7 (g7), c) _ _ 98 _ dX4_firstFault_98 rfl (by exact Or.inl ⟨i, _, _, _, _, _, rfl, u89, Or.inr (Or.inr (Or.inl ⟨nb, ⟨by omega, c24, hnb1, hnb2, hx1⟩, nbb, by omega, by omega, fun b hb => ⟨(k3 b hb).1, g7 b, (k3 b hb).2.1, (k3 b hb).2.2.1, (k3 b hb).2.2.2⟩, by rw [show 2 + nbb = i by omega]; first | exact fun z => absurd z.1 (by omega) | exact fun z => dig_no (by decide) (by omega) z.2⟩))⟩) hP hD hS
            exact L65 ((2 + nb - 2) + 1) 2 0 (v 7) _ _ _ (Nat.lt_succ_self _) (by omega) (by rfl) (by exact fun b hb => absurd hb (Nat.not_lt_zero _)) hP hD hS (lv_sub hl [0, 3, 4, 5, 2, 1] rfl)
          · skip
            refine lv_iconst (v := nI (1)) hx hb dX4_firstFault_50 (by decide) ?_
            exact hret (nI (1)) (va_up v 6 (va_up (va_up (v 6) 0 (0)) 1 (0)), c) _ _ 51 _ dX4_firstFault_51 rfl (by first | exact Or.inl ⟨1, _, _, _, _, _, rfl, u789, Or.inr (Or.inl ⟨rfl, by omega, c24, Or.inl (by omega)⟩)⟩ | exact Or.inl ⟨1, _, _, _, _, _, rfl, u789, Or.inr (Or.inl ⟨rfl, by omega, c24, Or.inr (dig_no (by decide) (by omega))⟩)⟩) hP hD hS
    · skip
      refine lv_iconst (v := nI (0)) hx hb dX4_firstFault_27 (by decide) ?_
      exact hret (nI (0)) (va_up v 6 (va_up (va_up (v 6) 0 (0)) 1 (0)), c) _ _ 28 _ dX4_firstFault_28 rfl (by first | exact Or.inl ⟨0, _, _, _, _, _, rfl, u789, Or.inl ⟨rfl, Or.inl (by omega)⟩⟩ | exact Or.inl ⟨0, _, _, _, _, _, rfl, u789, Or.inl ⟨rfl, Or.inr c24⟩⟩) hP hD hS

set_option maxHeartbeats 4000000 in
set_option maxRecDepth 100000 in
theorem k_becomeLike (l : Launch) (D : va_G) (a : Nat → Nat) (cI cJ cZ : ClassId) (A : Nat → Prop) (v : Nat → Nat → Nat) (c : Nat → Nat → Int32) :
    mV l yX2_becomeLike wsX2_becomeLike 1 64 [.ref (a 11), .ref (a 6)] D (xT cI cJ cZ) A (xW a cI cJ cZ v c) (fun u : ((Nat → Nat → Nat) × (Nat → Nat → Int32)) => xW a cI cJ cZ u.1 u.2)
    (fun (u : ((Nat → Nat → Nat) × (Nat → Nat → Int32))) => u = (va_up (va_up (va_up (va_up v 11 (va_up (va_up (v 11) 0 (v 6 0)) 1 (v 6 1))) 12 (va_cpy (v 7) (v 12) 0 0 7)) 13 (va_cpy (v 8) (v 13) 0 0 4)) 14 (va_cpy (v 9) (v 14) 0 0 24), c)) := by
  refine w_bV cX2_becomeLike 2 (by decide) rfl (Nat.le_of_ble_eq_true rfl) ?_
  intro p e s m args below meth c0 ls Q hx hb hml hts hown hK hN hA hret hP hD hS hl
  have hl : lv_has ls 2 [(0, .ref (a 11)), (1, .ref (a 6))] := hl
  have hinX2 : ∀ w ∈ wsX20, w ∈ wsX2_becomeLike := fun w h => List.mem_cons_of_mem _ (List.mem_append_right _ h)
  refine lv_aload_n hx hb dX2_becomeLike_0 rfl (lv_at hl 0 rfl) ?_
  refine lv_aload_n hx hb dX2_becomeLike_1 rfl (lv_at hl 1 rfl) ?_
  refine va_get (D := D) (ci := 2) (v := .int (nI (v 6 0))) (C := RX2) (T := TX2) (N := 5) hx hb hts hinX2 hown hK hP 6 rfl rfl 0 (by decide) (hts (.fieldLink RX2 21 "DancedLock$Floor" "boards" "I") (List.mem_of_getElem? (i := 1) rfl)) (fun _ h9 => h9) rfl dX2_becomeLike_2 ?_
  refine va_put (D := D) (ci := 2) (v := .int (nI (v 6 0))) (ty := .int) (C := RX2) (T := TX2) (N := 5) hx hb hts hinX2 tyX2 tyX2_ok nmX2 hown hK hP hD hS 11 rfl rfl 0 (by decide) (hts (.fieldLink RX2 21 "DancedLock$Floor" "boards" "I") (List.mem_of_getElem? (i := 1) rfl)) (fun _ h9 => h9) rfl (by decide +kernel) rfl (rfl) (Nat.le_of_ble_eq_true rfl) dX2_becomeLike_5 (fun H locs hP hD hS => ?_)
  have hP : va_P D vwCl (xW a cI cJ cZ (va_up v 11 (va_up (v 11) 0 (v 6 0))) c) H := hP
  have hD : va_D A (xW a cI cJ cZ (va_up v 11 (va_up (v 11) 0 (v 6 0))) c) := hD
  refine lv_aload_n hx hb dX2_becomeLike_8 rfl (lv_at hl 0 rfl) ?_
  refine lv_aload_n hx hb dX2_becomeLike_9 rfl (lv_at hl 1 rfl) ?_
  refine va_get (D := D) (ci := 2) (v := .int (nI (v 6 1))) (C := RX2) (T := TX2) (N := 5) hx hb hts hinX2 hown hK hP 6 rfl rfl 1 (by decide) (hts (.fieldLink RX2 25 "DancedLock$Floor" "doors" "I") (List.mem_of_getElem? (i := 2) rfl)) (fun _ h9 => h9) rfl dX2_becomeLike_10 ?_
  refine va_put (D := D) (ci := 2) (v := .int (nI (v 6 1))) (ty := .int) (C := RX2) (T := TX2) (N := 5) hx hb hts hinX2 tyX2 tyX2_ok nmX2 hown hK hP hD hS 11 rfl rfl 1 (by decide) (hts (.fieldLink RX2 25 "DancedLock$Floor" "doors" "I") (List.mem_of_getElem? (i := 2) rfl)) (fun _ h9 => h9) rfl (by decide +kernel) rfl (rfl) (Nat.le_of_ble_eq_true rfl) dX2_becomeLike_13 (fun H locs hP hD hS => ?_)
  have hP : va_P D vwCl (xW a cI cJ cZ (va_up v 11 (va_up (va_up (v 11) 0 (v 6 0)) 1 (v 6 1))) c) H := hP
  have hD : va_D A (xW a cI cJ cZ (va_up v 11 (va_up (va_up (v 11) 0 (v 6 0)) 1 (v 6 1))) c) := hD
  refine lv_aload_n hx hb dX2_becomeLike_16 rfl (lv_at hl 1 rfl) ?_
  refine va_get (D := D) (ci := 2) (v := .ref (a 7)) (C := RX2) (T := TX2) (N := 5) hx hb hts hinX2 hown hK hP 6 rfl rfl 2 (by decide) (hts (.fieldLink RX2 11 "DancedLock$Floor" "needs" "[I") (List.mem_of_getElem? (i := 3) rfl)) (fun _ h9 => h9) rfl dX2_becomeLike_17 ?_
  refine lv_iconst (v := nI (0)) hx hb dX2_becomeLike_20 (by decide) ?_
  refine lv_aload_n hx hb dX2_becomeLike_21 rfl (lv_at hl 0 rfl) ?_
  refine va_get (D := D) (ci := 2) (v := .ref (a 12)) (C := RX2) (T := TX2) (N := 5) hx hb hts hinX2 hown hK hP 11 rfl rfl 2 (by decide) (hts (.fieldLink RX2 11 "DancedLock$Floor" "needs" "[I") (List.mem_of_getElem? (i := 3) rfl)) (fun _ h9 => h9) rfl dX2_becomeLike_22 ?_
  refine lv_iconst (v := nI (0)) hx hb dX2_becomeLike_25 (by decide) ?_
  refine lv_bipush (v := nI (7)) hx hb dX2_becomeLike_26 (by decide) ?_
  refine w_copy (f := v 7) (g := v 12) (rest := []) (sp := 0) (dp := 0) (k := 7) hx hb (hml.trans hl.1.symm) (own := RX2) hown (hts (.methodLink RX2 28 arraycopyName) (List.mem_of_getElem? (i := 4) rfl)) (hts (.native arraycopyName) (List.mem_of_getElem? (i := 5) rfl)) (hts (.static arraycopyName) (List.mem_of_getElem? (i := 6) rfl)) (hts (.initialized "java/lang/System") (List.mem_of_getElem? (i := 7) rfl)) hK hP hD hS 7 12 0 0 rfl rfl rfl rfl (by omega) (by omega) (by decide) (by decide) (Nat.le_of_ble_eq_true rfl) (Nat.le_of_ble_eq_true rfl) dX2_becomeLike_28 (fun H locs hP hD hS => ?_)
  have hP : va_P D vwCl (xW a cI cJ cZ (va_up (va_up v 11 (va_up (va_up (v 11) 0 (v 6 0)) 1 (v 6 1))) 12 (va_cpy (v 7) (v 12) 0 0 7)) c) H := hP
  have hD : va_D A (xW a cI cJ cZ (va_up (va_up v 11 (va_up (va_up (v 11) 0 (v 6 0)) 1 (v 6 1))) 12 (va_cpy (v 7) (v 12) 0 0 7)) c) := hD
  refine lv_aload_n hx hb dX2_becomeLike_31 rfl (lv_at hl 1 rfl) ?_
  refine va_get (D := D) (ci := 2) (v := .ref (a 8)) (C := RX2) (T := TX2) (N := 5) hx hb hts hinX2 hown hK hP 6 rfl rfl 3 (by decide) (hts (.fieldLink RX2 15 "DancedLock$Floor" "beats" "[I") (List.mem_of_getElem? (i := 8) rfl)) (fun _ h9 => h9) rfl dX2_becomeLike_32 ?_
  refine lv_iconst (v := nI (0)) hx hb dX2_becomeLike_35 (by decide) ?_
  refine lv_aload_n hx hb dX2_becomeLike_36 rfl (lv_at hl 0 rfl) ?_
  refine va_get (D := D) (ci := 2) (v := .ref (a 13)) (C := RX2) (T := TX2) (N := 5) hx hb hts hinX2 hown hK hP 11 rfl rfl 3 (by decide) (hts (.fieldLink RX2 15 "DancedLock$Floor" "beats" "[I") (List.mem_of_getElem? (i := 8) rfl)) (fun _ h9 => h9) rfl dX2_becomeLike_37 ?_
  refine lv_iconst (v := nI (0)) hx hb dX2_becomeLike_40 (by decide) ?_
  refine lv_iconst (v := nI (4)) hx hb dX2_becomeLike_41 (by decide) ?_
  refine w_copy (f := v 8) (g := v 13) (rest := []) (sp := 0) (dp := 0) (k := 4) hx hb (hml.trans hl.1.symm) (own := RX2) hown (hts (.methodLink RX2 28 arraycopyName) (List.mem_of_getElem? (i := 4) rfl)) (hts (.native arraycopyName) (List.mem_of_getElem? (i := 5) rfl)) (hts (.static arraycopyName) (List.mem_of_getElem? (i := 6) rfl)) (hts (.initialized "java/lang/System") (List.mem_of_getElem? (i := 7) rfl)) hK hP hD hS 8 13 0 0 rfl rfl rfl rfl (by omega) (by omega) (by decide) (by decide) (Nat.le_of_ble_eq_true rfl) (Nat.le_of_ble_eq_true rfl) dX2_becomeLike_42 (fun H locs hP hD hS => ?_)
  have hP : va_P D vwCl (xW a cI cJ cZ (va_up (va_up (va_up v 11 (va_up (va_up (v 11) 0 (v 6 0)) 1 (v 6 1))) 12 (va_cpy (v 7) (v 12) 0 0 7)) 13 (va_cpy (v 8) (v 13) 0 0 4)) c) H := hP
  have hD : va_D A (xW a cI cJ cZ (va_up (va_up (va_up v 11 (va_up (va_up (v 11) 0 (v 6 0)) 1 (v 6 1))) 12 (va_cpy (v 7) (v 12) 0 0 7)) 13 (va_cpy (v 8) (v 13) 0 0 4)) c) := hD
  refine lv_aload_n hx hb dX2_becomeLike_45 rfl (lv_at hl 1 rfl) ?_
  refine va_get (D := D) (ci := 2) (v := .ref (a 9)) (C := RX2) (T := TX2) (N := 5) hx hb hts hinX2 hown hK hP 6 rfl rfl 4 (by decide) (hts (.fieldLink RX2 18 "DancedLock$Floor" "figures" "[I") (List.mem_of_getElem? (i := 9) rfl)) (fun _ h9 => h9) rfl dX2_becomeLike_46 ?_
  refine lv_iconst (v := nI (0)) hx hb dX2_becomeLike_49 (by decide) ?_
  refine lv_aload_n hx hb dX2_becomeLike_50 rfl (lv_at hl 0 rfl) ?_
  refine va_get (D := D) (ci := 2) (v := .ref (a 14)) (C := RX2) (T := TX2) (N := 5) hx hb hts hinX2 hown hK hP 11 rfl rfl 4 (by decide) (hts (.fieldLink RX2 18 "DancedLock$Floor" "figures" "[I") (List.mem_of_getElem? (i := 9) rfl)) (fun _ h9 => h9) rfl dX2_becomeLike_51 ?_
  refine lv_iconst (v := nI (0)) hx hb dX2_becomeLike_54 (by decide) ?_
  refine lv_bipush (v := nI (24)) hx hb dX2_becomeLike_55 (by decide) ?_
  refine w_copy (f := v 9) (g := v 14) (rest := []) (sp := 0) (dp := 0) (k := 24) hx hb (hml.trans hl.1.symm) (own := RX2) hown (hts (.methodLink RX2 28 arraycopyName) (List.mem_of_getElem? (i := 4) rfl)) (hts (.native arraycopyName) (List.mem_of_getElem? (i := 5) rfl)) (hts (.static arraycopyName) (List.mem_of_getElem? (i := 6) rfl)) (hts (.initialized "java/lang/System") (List.mem_of_getElem? (i := 7) rfl)) hK hP hD hS 9 14 0 0 rfl rfl rfl rfl (by omega) (by omega) (by decide) (by decide) (Nat.le_of_ble_eq_true rfl) (Nat.le_of_ble_eq_true rfl) dX2_becomeLike_57 (fun H locs hP hD hS => ?_)
  have hP : va_P D vwCl (xW a cI cJ cZ (va_up (va_up (va_up (va_up v 11 (va_up (va_up (v 11) 0 (v 6 0)) 1 (v 6 1))) 12 (va_cpy (v 7) (v 12) 0 0 7)) 13 (va_cpy (v 8) (v 13) 0 0 4)) 14 (va_cpy (v 9) (v 14) 0 0 24)) c) H := hP
  have hD : va_D A (xW a cI cJ cZ (va_up (va_up (va_up (va_up v 11 (va_up (va_up (v 11) 0 (v 6 0)) 1 (v 6 1))) 12 (va_cpy (v 7) (v 12) 0 0 7)) 13 (va_cpy (v 8) (v 13) 0 0 4)) 14 (va_cpy (v 9) (v 14) 0 0 24)) c) := hD
  exact hret (va_up (va_up (va_up (va_up v 11 (va_up (va_up (v 11) 0 (v 6 0)) 1 (v 6 1))) 12 (va_cpy (v 7) (v 12) 0 0 7)) 13 (va_cpy (v 8) (v 13) 0 0 4)) 14 (va_cpy (v 9) (v 14) 0 0 24), c) _ _ 60 _ dX2_becomeLike_60 (by rfl) hP hD hS
