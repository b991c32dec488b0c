/-! ===== the model's calls that change it ===== -/
set_option maxHeartbeats 4000000 in
set_option maxRecDepth 100000 in
theorem s_dancer (l : Launch) (D : va_G) (b : Nat → Nat) (cI cJ cZ : ClassId) (A : Nat → Prop) (v : Nat → Nat → Nat) (c : Nat → Nat → Int32) (x : Int32) (y : Int32) (hI : MI v c) :
    mI l yX7_dancer wsX7_dancer 1 22 [.ref (b 0), .int x, .int y] D (xT cI cJ cZ) A (mW b cI cJ cZ v c) (fun u : ((Nat → Nat → Nat) × (Nat → Nat → Int32)) => mW b cI cJ cZ u.1 u.2)
    (fun (r : Int32) (u : ((Nat → Nat → Nat) × (Nat → Nat → Int32))) => MI u.1 u.2 ∧ sp_dancer (vM v) (cM c) (vM u.1, cM u.2) x y r) := by
  refine w_bI cX7_dancer 3 .int (by decide) rfl (Nat.le_of_ble_eq_true rfl) (Or.inl rfl) ?_
  intro p e s m args below meth c0 ls Q hx hb hml hts hown hK hN hA hret hP hD hS hl
  have hl : lv_has ls 3 [(0, .ref (b 0)), (1, .int x), (2, .int y)] := hl
  have hinX7 : ∀ w ∈ wsX70, w ∈ wsX7_dancer := fun w h => List.mem_cons_of_mem _ (List.mem_append_right _ h)
  obtain ⟨hnb, hnd, hbt, hfg, hne, hnc, hdk, hnf, hkn, hln, hst, hdc, hsp⟩ := MI_o hI
  refine lv_iload_n hx hb dX7_dancer_0 rfl (lv_at hl 1 rfl) ?_
  refine lv_iconst (v := nI (0)) hx hb dX7_dancer_1 (by decide) ?_
  refine lv_iconst (v := nI (2)) hx hb dX7_dancer_2 (by decide) ?_
  refine w_cSi (rest := []) hx hb hml hown hts (m_within_N l D b cI cJ cZ A v c x 0 2  (by first | assumption | omega) (by first | assumption | omega)) 3 gX7_dancer_X7_within rfl hdX7_within ⟨Nat.le_of_ble_eq_true rfl, Nat.le_of_ble_eq_true rfl⟩ hK hN hP hD hS hA rfl hl.1 rfl (Nat.le_of_ble_eq_true rfl) dX7_dancer_3 ⟨Nat.le_of_ble_eq_true rfl, Nat.le_of_ble_eq_true rfl⟩ (fun r u H locs hq hP hD hS => ?_)
  rcases hq with ⟨j_3, rfl, h1_3, h_3, hs_x_3⟩ | ⟨rfl, h_3⟩
  · skip
    have hP : va_P D vwCl (mW b cI cJ cZ v c) H := hP
    have hD : va_D A (mW b cI cJ cZ v c) := hD
    subst hs_x_3
    have j_3T := n_tI (k := j_3) (by omega)
    refine w_if_eq (x := 1) hx hb dX7_dancer_6 (tgt := 19) (by decide) (by decide) (fun h => absurd h (by decide)) (fun _ => ?_)
    refine lv_iload_n hx hb dX7_dancer_9 rfl (lv_at hl 2 rfl) ?_
    refine lv_iconst (v := nI (1)) hx hb dX7_dancer_10 (by decide) ?_
    refine lv_bipush (v := nI (9)) hx hb dX7_dancer_11 (by decide) ?_
    refine w_cSi (rest := []) hx hb hml hown hts (m_within_N l D b cI cJ cZ A v c y 1 9  (by first | assumption | omega) (by first | assumption | omega)) 3 gX7_dancer_X7_within rfl hdX7_within ⟨Nat.le_of_ble_eq_true rfl, Nat.le_of_ble_eq_true rfl⟩ hK hN hP hD hS hA rfl hl.1 rfl (Nat.le_of_ble_eq_true rfl) dX7_dancer_13 ⟨Nat.le_of_ble_eq_true rfl, Nat.le_of_ble_eq_true rfl⟩ (fun r u H locs hq hP hD hS => ?_)
    rcases hq with ⟨j_13, rfl, h1_13, h_13, hs_x_13⟩ | ⟨rfl, h_13⟩
    · skip
      have hP : va_P D vwCl (mW b cI cJ cZ v c) H := hP
      have hD : va_D A (mW b cI cJ cZ v c) := hD
      subst hs_x_13
      have j_13T := n_tI (k := j_13) (by omega)
      refine w_if_ne (x := 1) hx hb dX7_dancer_16 (tgt := 22) (by decide) (by decide) (fun _ => ?_) (fun h => absurd h (by decide))
      refine lv_aload_n hx hb dX7_dancer_22 rfl (lv_at hl 0 rfl) ?_
      refine va_get (D := D) (ci := 7) (v := .int (nI (v 6 0))) (C := RX7) (T := TX7) (N := 24) hx hb hts hinX7 hown hK hP 0 rfl rfl 6 (by decide) (hts (.fieldLink RX7 66 "DancedLockModel" "doors" "I") (List.mem_of_getElem? (i := 1) rfl)) (fun _ h9 => h9) rfl dX7_dancer_23 ?_
      refine w_if_ne (x := v 6 0) hx hb dX7_dancer_26 (tgt := 32) (by decide) (by omega) (fun c26 => ?_) (fun c26 => ?_)
      · skip
        refine lv_aload_n hx hb dX7_dancer_32 rfl (lv_at hl 0 rfl) ?_
        refine va_get (D := D) (ci := 7) (v := .int (nI (v 16 0))) (C := RX7) (T := TX7) (N := 24) hx hb hts hinX7 hown hK hP 0 rfl rfl 16 (by decide) (hts (.fieldLink RX7 103 "DancedLockModel" "dancers" "I") (List.mem_of_getElem? (i := 2) rfl)) (fun _ h9 => h9) rfl dX7_dancer_33 ?_
        refine lv_iconst (v := nI (4)) hx hb dX7_dancer_36 (by decide) ?_
        refine w_icmp_ne (x := v 16 0) (y := 4) hx hb dX7_dancer_37 (tgt := 43) (by decide) (by omega) (by omega) (fun c37 => ?_) (fun c37 => ?_)
        · skip
          refine lv_aload_n hx hb dX7_dancer_43 rfl (lv_at hl 0 rfl) ?_
          refine va_get (D := D) (ci := 7) (v := .ref (b 17)) (C := RX7) (T := TX7) (N := 24) hx hb hts hinX7 hown hK hP 0 rfl rfl 17 (by decide) (hts (.fieldLink RX7 37 "DancedLockModel" "kind" "[I") (List.mem_of_getElem? (i := 3) rfl)) (fun _ h9 => h9) rfl dX7_dancer_44 ?_
          refine lv_aload_n hx hb dX7_dancer_47 rfl (lv_at hl 0 rfl) ?_
          refine va_get (D := D) (ci := 7) (v := .int (nI (v 16 0))) (C := RX7) (T := TX7) (N := 24) hx hb hts hinX7 hown hK hP 0 rfl rfl 16 (by decide) (hts (.fieldLink RX7 103 "DancedLockModel" "dancers" "I") (List.mem_of_getElem? (i := 2) rfl)) (fun _ h9 => h9) rfl dX7_dancer_48 ?_
          refine lv_iload_n hx hb dX7_dancer_51 rfl (lv_at hl 1 rfl) ?_
          refine w_iast (f := v 17) (w := j_3) hx hb hK hP hD hS 10 0 rfl rfl (i := v 16 0) (by omega) (by decide) dX7_dancer_52 (fun H locs hP hD hS => ?_)
          have hP : va_P D vwCl (mW b cI cJ cZ (va_up v 17 (va_up (v 17) (v 16 0) j_3)) c) H := hP
          have hD : va_D A (mW b cI cJ cZ (va_up v 17 (va_up (v 17) (v 16 0) j_3)) c) := hD
          refine lv_aload_n hx hb dX7_dancer_53 rfl (lv_at hl 0 rfl) ?_
          refine va_get (D := D) (ci := 7) (v := .ref (b 18)) (C := RX7) (T := TX7) (N := 24) hx hb hts hinX7 hown hK hP 0 rfl rfl 18 (by decide) (hts (.fieldLink RX7 40 "DancedLockModel" "weight" "[I") (List.mem_of_getElem? (i := 4) rfl)) (fun _ h9 => h9) rfl dX7_dancer_54 ?_
          refine lv_aload_n hx hb dX7_dancer_57 rfl (lv_at hl 0 rfl) ?_
          refine va_get (D := D) (ci := 7) (v := .int (nI (v 16 0))) (C := RX7) (T := TX7) (N := 24) hx hb hts hinX7 hown hK hP 0 rfl rfl 16 (by decide) (hts (.fieldLink RX7 103 "DancedLockModel" "dancers" "I") (List.mem_of_getElem? (i := 2) rfl)) (fun _ h9 => h9) rfl dX7_dancer_58 ?_
          refine lv_iload_n hx hb dX7_dancer_61 rfl (lv_at hl 2 rfl) ?_
          refine w_iast (f := v 18) (w := j_13) hx hb hK hP hD hS 11 0 rfl rfl (i := v 16 0) (by omega) (by decide) dX7_dancer_62 (fun H locs hP hD hS => ?_)
          have hP : va_P D vwCl (mW b cI cJ cZ (va_up (va_up v 17 (va_up (v 17) (v 16 0) j_3)) 18 (va_up (v 18) (v 16 0) j_13)) c) H := hP
          have hD : va_D A (mW b cI cJ cZ (va_up (va_up v 17 (va_up (v 17) (v 16 0) j_3)) 18 (va_up (v 18) (v 16 0) j_13)) c) := hD
          refine lv_aload_n hx hb dX7_dancer_63 rfl (lv_at hl 0 rfl) ?_
          refine lv_dup hx hb dX7_dancer_64 rfl ?_
          refine va_get (D := D) (ci := 7) (v := .int (nI (v 16 0))) (C := RX7) (T := TX7) (N := 24) hx hb hts hinX7 hown hK hP 0 rfl rfl 16 (by decide) (hts (.fieldLink RX7 103 "DancedLockModel" "dancers" "I") (List.mem_of_getElem? (i := 2) rfl)) (fun _ h9 => h9) rfl dX7_dancer_65 ?_
          refine lv_iconst (v := nI (1)) hx hb dX7_dancer_68 (by decide) ?_
          refine w_iadd (x := v 16 0) (y := 1) hx hb dX7_dancer_69  ?_
          refine va_put (D := D) (ci := 7) (v := .int (nI (v 16 0 + 1))) (ty := .int) (C := RX7) (T := TX7) (N := 24) hx hb hts hinX7 tyX7 tyX7_ok nmX7 hown hK hP hD hS 0 rfl rfl 16 (by decide) (hts (.fieldLink RX7 103 "DancedLockModel" "dancers" "I") (List.mem_of_getElem? (i := 2) rfl)) (fun _ h9 => h9) rfl (by decide +kernel) rfl (rfl) (Nat.le_of_ble_eq_true rfl) dX7_dancer_70 (fun H locs hP hD hS => ?_)
          have hP : va_P D vwCl (mW b cI cJ cZ (va_up (va_up (va_up v 16 (va_up (v 16) 0 (v 16 0 + 1))) 17 (va_up (v 17) (v 16 0) j_3)) 18 (va_up (v 18) (v 16 0) j_13)) c) H := hP
          have hD : va_D A (mW b cI cJ cZ (va_up (va_up (va_up v 16 (va_up (v 16) 0 (v 16 0 + 1))) 17 (va_up (v 17) (v 16 0) j_3)) 18 (va_up (v 18) (v 16 0) j_13)) c) := hD
          refine lv_aload_n hx hb dX7_dancer_73 rfl (lv_at hl 0 rfl) ?_
          refine va_get (D := D) (ci := 7) (v := .int (nI (v 16 0 + 1))) (C := RX7) (T := TX7) (N := 24) hx hb hts hinX7 hown hK hP 0 rfl rfl 16 (by decide) (hts (.fieldLink RX7 103 "DancedLockModel" "dancers" "I") (List.mem_of_getElem? (i := 2) rfl)) (fun _ h9 => h9) rfl dX7_dancer_74 ?_
          refine lv_iconst (v := nI (1)) hx hb dX7_dancer_77 (by decide) ?_
          refine w_isub (x := v 16 0 + 1) (y := 1) hx hb dX7_dancer_78 (by omega) ?_
          exact hret (nI ((v 16 0 + 1) - 1)) (va_up (va_up (va_up v 16 (va_up (v 16) 0 (v 16 0 + 1))) 17 (va_up (v 17) (v 16 0) j_3)) 18 (va_up (v 18) (v 16 0) j_13), c) _ _ 79 _ dX7_dancer_79 rfl (by exact ⟨⟨XI_join hI.1 h_3 h1_13 h_13 (Nat.lt_of_le_of_ne hnc c37) (Nat.pos_of_ne_zero c26), hI.2⟩, Or.inr ⟨j_3, j_13, Nat.lt_succ_of_le h_3, h1_13, h_13, rfl, rfl, Or.inr (Or.inr ⟨Nat.pos_of_ne_zero c26, Nat.lt_of_le_of_ne hnc c37, rfl, rfl, rfl, rfl, rfl, rfl, rfl, rfl, rfl, rfl, rfl, rfl, rfl, rfl, rfl⟩)⟩⟩) hP hD hS
        · skip
          refine lv_bipush (v := -4) hx hb dX7_dancer_40 (by decide) ?_
          exact hret ((-4)) (v, c) _ _ 42 _ dX7_dancer_42 rfl (by exact ⟨hI, Or.inr ⟨j_3, j_13, Nat.lt_succ_of_le h_3, h1_13, h_13, rfl, rfl, Or.inr (Or.inl ⟨Nat.pos_of_ne_zero c26, Nat.le_of_eq c37.symm, rfl, rfl, rfl, rfl, rfl, rfl, rfl, rfl, rfl, rfl, rfl, rfl, rfl, rfl, rfl⟩)⟩⟩) hP hD hS
      · skip
        refine lv_bipush (v := -3) hx hb dX7_dancer_29 (by decide) ?_
        exact hret ((-3)) (v, c) _ _ 31 _ dX7_dancer_31 rfl (by exact ⟨hI, Or.inr ⟨j_3, j_13, Nat.lt_succ_of_le h_3, h1_13, h_13, rfl, rfl, Or.inl ⟨c26, rfl, rfl, rfl, rfl, rfl, rfl, rfl, rfl, rfl, rfl, rfl, rfl, rfl, rfl, rfl⟩⟩⟩) hP hD hS
    · skip
      have hP : va_P D vwCl (mW b cI cJ cZ v c) H := hP
      have hD : va_D A (mW b cI cJ cZ v c) := hD
      refine w_if_ne (x := 0) hx hb dX7_dancer_16 (tgt := 22) (by decide) (by decide) (fun h => absurd h (by decide)) (fun _ => ?_)
      refine lv_bipush (v := -2) hx hb dX7_dancer_19 (by decide) ?_
      exact hret ((-2)) (v, c) _ _ 21 _ dX7_dancer_21 rfl (by first | exact ⟨hI, Or.inl ⟨fun ⟨k1, q1, z1, z2, z3, z4, z5⟩ => by rw [z4, n_tI (k := k1) (by omega)] at h_3; omega, rfl, rfl, rfl, rfl, rfl, rfl, rfl, rfl, rfl, rfl, rfl, rfl, rfl, rfl, rfl⟩⟩ | exact ⟨hI, Or.inl ⟨fun ⟨k1, q1, z1, z2, z3, z4, z5⟩ => by rw [z5, n_tI (k := q1) (by omega)] at h_13; omega, rfl, rfl, rfl, rfl, rfl, rfl, rfl, rfl, rfl, rfl, rfl, rfl, rfl, rfl, rfl⟩⟩) hP hD hS
  · skip
    have hP : va_P D vwCl (mW b cI cJ cZ v c) H := hP
    have hD : va_D A (mW b cI cJ cZ v c) := hD
    refine w_if_eq (x := 0) hx hb dX7_dancer_6 (tgt := 19) (by decide) (by decide) (fun _ => ?_) (fun h => absurd h (by decide))
    refine lv_bipush (v := -2) hx hb dX7_dancer_19 (by decide) ?_
    exact hret ((-2)) (v, c) _ _ 21 _ dX7_dancer_21 rfl (by first | exact ⟨hI, Or.inl ⟨fun ⟨k1, q1, z1, z2, z3, z4, z5⟩ => by rw [z4, n_tI (k := k1) (by omega)] at h_3; omega, rfl, rfl, rfl, rfl, rfl, rfl, rfl, rfl, rfl, rfl, rfl, rfl, rfl, rfl, rfl⟩⟩ | exact ⟨hI, Or.inl ⟨fun ⟨k1, q1, z1, z2, z3, z4, z5⟩ => by rw [z5, n_tI (k := q1) (by omega)] at h_13; omega, rfl, rfl, rfl, rfl, rfl, rfl, rfl, rfl, rfl, rfl, rfl, rfl, rfl, rfl, rfl⟩⟩) hP hD hS

set_option maxHeartbeats 4000000 in
set_option maxRecDepth 100000 in
theorem s_leave (l : Launch) (D : va_G) (b : Nat → Nat) (cI cJ cZ : ClassId) (A : Nat → Prop) (v : Nat → Nat → Nat) (c : Nat → Nat → Int32) (x : Int32) (hI : MI v c) :
    mI l yX7_leave wsX7_leave 1 22 [.ref (b 0), .int x] D (xT cI cJ cZ) A (mW b cI cJ cZ v c) (fun u : ((Nat → Nat → Nat) × (Nat → Nat → Int32)) => mW b cI cJ cZ u.1 u.2)
    (fun (r : Int32) (u : ((Nat → Nat → Nat) × (Nat → Nat → Int32))) => MI u.1 u.2 ∧ sp_leave (vM v) (cM c) (vM u.1, cM u.2) x r) := by
  refine w_bI cX7_leave 2 .int (by decide) rfl (Nat.le_of_ble_eq_true rfl) (Or.inl rfl) ?_
  intro p e s m args below meth c0 ls Q hx hb hml hts hown hK hN hA hret hP hD hS hl
  have hl : lv_has ls 2 [(0, .ref (b 0)), (1, .int x)] := hl
  have hinX7 : ∀ w ∈ wsX70, w ∈ wsX7_leave := fun w h => List.mem_cons_of_mem _ (List.mem_append_right _ h)
  obtain ⟨hnb, hnd, hbt, hfg, hne, hnc, hdk, hnf, hkn, hln, hst, hdc, hsp⟩ := MI_o hI
  refine lv_iload_n hx hb dX7_leave_0 rfl (lv_at hl 1 rfl) ?_
  refine lv_iconst (v := nI (0)) hx hb dX7_leave_1 (by decide) ?_
  refine lv_aload_n hx hb dX7_leave_2 rfl (lv_at hl 0 rfl) ?_
  refine va_get (D := D) (ci := 7) (v := .int (nI (v 16 0))) (C := RX7) (T := TX7) (N := 24) hx hb hts hinX7 hown hK hP 0 rfl rfl 16 (by decide) (hts (.fieldLink RX7 103 "DancedLockModel" "dancers" "I") (List.mem_of_getElem? (i := 1) rfl)) (fun _ h9 => h9) rfl dX7_leave_3 ?_
  refine w_cSi (rest := []) hx hb hml hown hts (m_within_N l D b cI cJ cZ A v c x 0 (v 16 0)  (by first | assumption | omega) (by first | assumption | omega)) 3 gX7_leave_X7_within rfl hdX7_within ⟨Nat.le_of_ble_eq_true rfl, Nat.le_of_ble_eq_true rfl⟩ hK hN hP hD hS hA rfl hl.1 rfl (Nat.le_of_ble_eq_true rfl) dX7_leave_6 ⟨Nat.le_of_ble_eq_true rfl, Nat.le_of_ble_eq_true rfl⟩ (fun r u H locs hq hP hD hS => ?_)
  rcases hq with ⟨j_6, rfl, h1_6, h_6, hs_x_6⟩ | ⟨rfl, h_6⟩
  · skip
    have hP : va_P D vwCl (mW b cI cJ cZ v c) H := hP
    have hD : va_D A (mW b cI cJ cZ v c) := hD
    subst hs_x_6
    have j_6T := n_tI (k := j_6) (by omega)
    refine w_if_ne (x := 1) hx hb dX7_leave_9 (tgt := 15) (by decide) (by decide) (fun _ => ?_) (fun h => absurd h (by decide))
    refine lv_aload_n hx hb dX7_leave_15 rfl (lv_at hl 0 rfl) ?_
    refine lv_dup hx hb dX7_leave_16 rfl ?_
    refine va_get (D := D) (ci := 7) (v := .int (nI (v 16 0))) (C := RX7) (T := TX7) (N := 24) hx hb hts hinX7 hown hK hP 0 rfl rfl 16 (by decide) (hts (.fieldLink RX7 103 "DancedLockModel" "dancers" "I") (List.mem_of_getElem? (i := 1) rfl)) (fun _ h9 => h9) rfl dX7_leave_17 ?_
    refine lv_iload_n hx hb dX7_leave_20 rfl (lv_at hl 1 rfl) ?_
    refine w_isub (x := v 16 0) (y := j_6) hx hb dX7_leave_21 (by omega) ?_
    refine va_put (D := D) (ci := 7) (v := .int (nI ((v 16 0) - j_6))) (ty := .int) (C := RX7) (T := TX7) (N := 24) hx hb hts hinX7 tyX7 tyX7_ok nmX7 hown hK hP hD hS 0 rfl rfl 16 (by decide) (hts (.fieldLink RX7 103 "DancedLockModel" "dancers" "I") (List.mem_of_getElem? (i := 1) rfl)) (fun _ h9 => h9) rfl (by decide +kernel) rfl (rfl) (Nat.le_of_ble_eq_true rfl) dX7_leave_22 (fun H locs hP hD hS => ?_)
    have hP : va_P D vwCl (mW b cI cJ cZ (va_up v 16 (va_up (v 16) 0 ((v 16 0) - j_6))) c) H := hP
    have hD : va_D A (mW b cI cJ cZ (va_up v 16 (va_up (v 16) 0 ((v 16 0) - j_6))) c) := hD
    refine lv_aload_n hx hb dX7_leave_25 rfl (lv_at hl 0 rfl) ?_
    refine va_get (D := D) (ci := 7) (v := .int (nI ((v 16 0) - j_6))) (C := RX7) (T := TX7) (N := 24) hx hb hts hinX7 hown hK hP 0 rfl rfl 16 (by decide) (hts (.fieldLink RX7 103 "DancedLockModel" "dancers" "I") (List.mem_of_getElem? (i := 1) rfl)) (fun _ h9 => h9) rfl dX7_leave_26 ?_
    exact hret (nI ((v 16 0) - j_6)) (va_up v 16 (va_up (v 16) 0 ((v 16 0) - j_6)), c) _ _ 29 _ dX7_leave_29 rfl (by exact ⟨⟨XI_leave hI.1, hI.2⟩, Or.inr ⟨j_6, h_6, rfl, rfl, rfl, rfl, rfl, rfl, rfl, rfl, rfl, rfl, rfl, rfl, rfl, rfl, rfl, rfl⟩⟩) hP hD hS
  · skip
    have hP : va_P D vwCl (mW b cI cJ cZ v c) H := hP
    have hD : va_D A (mW b cI cJ cZ v c) := hD
    refine w_if_ne (x := 0) hx hb dX7_leave_9 (tgt := 15) (by decide) (by decide) (fun h => absurd h (by decide)) (fun _ => ?_)
    refine lv_bipush (v := -2) hx hb dX7_leave_12 (by decide) ?_
    exact hret ((-2)) (v, c) _ _ 14 _ dX7_leave_14 rfl (by exact ⟨hI, Or.inl ⟨fun ⟨q1, z1, z2⟩ => by have z3 : q1 ≤ v 16 0 := z1; rw [z2, n_tI (k := q1) (by omega)] at h_6; omega, rfl, rfl, rfl, rfl, rfl, rfl, rfl, rfl, rfl, rfl, rfl, rfl, rfl, rfl, rfl⟩⟩) hP hD hS

