/-! ===== the model's calls that change it ===== -/
set_option maxHeartbeats 800000 in
set_option maxRecDepth 100000 in
theorem s_dancer (l : Launch) (D : va_G) (b : Nat → Nat) (cI cJ cZ : ClassId) (A : Nat → Prop) (v : Nat → Nat → Nat) (c : Nat → Nat → Int32) (x : Int32) (y : Int32) (hI : MI v c) :
    mI l yX7_dancer wsX7_dancer 1 22 [.ref (b 0), .int x, .int y] D (xT cI cJ cZ) A (mW b cI cJ cZ v c) (fun u : ((Nat → Nat → Nat) × (Nat → Nat → Int32)) => mW b cI cJ cZ u.1 u.2)
    (fun (r : Int32) (u : ((Nat → Nat → Nat) × (Nat → Nat → Int32))) => MI u.1 u.2 ∧ sp_dancer (vM v) (cM c) (vM u.1, cM u.2) x y r) := by
  refine w_bI cX7_dancer 3 .int (by decide) rfl (Nat.le_of_ble_eq_true rfl) (Or.inl rfl) ?_
  intro p e s m args below meth c0 ls Q hx hb hml hts hown hK hN hA hret hP hD hS hl
  have hl : lv_has ls 3 [(0, .ref (b 0)), (1, .int x), (2, .int y)] := hl
  have hinX7 : ∀ w ∈ wsX70, w ∈ wsX7_dancer := fun w h => List.mem_cons_of_mem _ (List.mem_append_right _ h)
  obtain ⟨hnb, hnd, hbt, hfg, hne, hnc, hdk, hnf, hkn, hln, hst, hdc, hsp⟩ := MI_o hI
  refine lv_iload_n hx hb dX7_dancer_0 rfl (lv_at hl 1 rfl) ?_
  refine lv_iconst (v := nI (0)) hx hb dX7_dancer_1 (by decide) ?_
  refine lv_iconst (v := nI (2)) hx hb dX7_dancer_2 (by decide) ?_
  refine w_cSi (rest := []) hx hb hml hown hts (m_within_N l D b cI cJ cZ A v c x 0 2  (by first | assumption | omega) (by first | assumption | omega)) 3 gX7_dancer_X7_within rfl hdX7_within ⟨Nat.le_of_ble_eq_true rfl, Nat.le_of_ble_eq_true rfl⟩ hK hN hP hD hS hA rfl hl.1 rfl (Nat.le_of_ble_eq_true rfl) dX7_dancer_3 ⟨Nat.le_of_ble_eq_true rfl, Nat.le_of_ble_eq_true rfl⟩ (fun r u H locs hq hP hD hS => ?_)
  rcases hq with ⟨j_3, rfl, h1_3, h_3, hs_x_3⟩ | ⟨rfl, h_3⟩
  · skip
    have hP : va_P D vwCl (mW b cI cJ cZ v c) H := hP
    have hD : va_D A (mW b cI cJ cZ v c) := hD
    subst hs_x_3
    have j_3T := n_tI (k := j_3) (by omega)
    refine w_if_eq (x := 1) hx hb dX7_dancer_6 (tgt := 19) (by decide) (by decide) (fun h => absurd h (by decide)) (fun _ => ?_)
    refine lv_iload_n hx hb dX7_dancer_9 rfl (lv_at hl 2 rfl) ?_
    refine lv_iconst (v := nI (1)) hx hb dX7_dancer_10 (by decide) ?_
    refine lv_bipush (v := nI (9)) hx hb dX7_dancer_11 (by decide) ?_
    refine w_cSi (rest := []) hx hb hml hown hts (m_within_N l D b cI cJ cZ A v c y 1 9  (by first | assumption | omega) (by first | assumption | omega)) 3 gX7_dancer_X7_within rfl hdX7_within ⟨Nat.le_of_ble_eq_true rfl, Nat.le_of_ble_eq_true rfl⟩ hK hN hP hD hS hA rfl hl.1 rfl (Nat.le_of_ble_eq_true rfl) dX7_dancer_13 ⟨Nat.le_of_ble_eq_true rfl, Nat.le_of_ble_eq_true rfl⟩ (fun r u H locs hq hP hD hS => ?_)
    rcases hq with ⟨j_13, rfl, h1_13, h_13, hs_x_13⟩ | ⟨rfl, h_13⟩
    · skip
      have hP : va_P D vwCl (mW b cI cJ cZ v c) H := hP
      have hD : va_D A (mW b cI cJ cZ v c) := hD
      subst hs_x_13
      have j_13T := n_tI (k := j_13) (by omega)
      refine w_if_ne (x := 1) hx hb dX7_dancer_16 (tgt := 22) (by decide) (by decide) (fun _ => ?_) (fun h => absurd h (by decide))
      refine lv_aload_n hx hb dX7_dancer_22 rfl (lv_at hl 0 rfl) ?_
      refine va_get (D := D) (ci := 7) (v := .int (nI (v 6 0))) (C := RX7) (T := TX7) (N := 24) hx hb hts hinX7 hown hK hP 0 rfl rfl 6 (by decide) (hts (.fieldLink RX7 66 "DancedLockModel" "doors" "I") (List.mem_of_getElem? (i := 1) rfl)) (fun _ h9 => h9) rfl dX7_dancer_23 ?_
      refine w_if_ne (x := v 6 0) hx hb dX7_dancer_26 (tgt := 32) (by decide) (by omega) (fun c26 => ?_) (fun c26 => ?_)
      · skip
        refine lv_aload_n hx hb dX7_dancer_32 rfl (lv_at hl 0 rfl) ?_
        refine va_get (D := D) (ci := 7) (v := .int (nI (v 16 0))) (C := RX7) (T := TX7) (N := 24) hx hb hts hinX7 hown hK hP 0 rfl rfl 16 (by decide) (hts (.fieldLink RX7 103 "DancedLockModel" "dancers" "I") (List.mem_of_getElem? (i := 2) rfl)) (fun _ h9 => h9) rfl dX7_dancer_33 ?_
        refine lv_iconst (v := nI (4)) hx hb dX7_dancer_36 (by decide) ?_
        refine w_icmp_ne (x := v 16 0) (y := 4) hx hb dX7_dancer_37 (tgt := 43) (by decide) (by omega) (by omega) (fun c37 => ?_) (fun c37 => ?_)
        · skip
          refine lv_aload_n hx hb dX7_dancer_43 rfl (lv_at hl 0 rfl) ?_
          refine va_get (D := D) (ci := 7) (v := .ref (b 17)) (C := RX7) (T := TX7) (N := 24) hx hb hts hinX7 hown hK hP 0 rfl rfl 17 (by decide) (hts (.fieldLink RX7 37 "DancedLockModel" "kind" "[I") (List.mem_of_getElem? (i := 3) rfl)) (fun _ h9 => h9) rfl dX7_dancer_44 ?_
          refine lv_aload_n hx hb dX7_dancer_47 rfl (lv_at hl 0 rfl) ?_
          refine va_get (D := D) (ci := 7) (v := .int (nI (v 16 0))) (C := RX7) (T := TX7) (N := 24) hx hb hts hinX7 hown hK hP 0 rfl rfl 16 (by decide) (hts (.fieldLink RX7 103 "DancedLockModel" "dancers" "I") (List.mem_of_getElem? (i := 2) rfl)) (fun _ h9 => h9) rfl dX7_dancer_48 ?_
          refine lv_iload_n hx hb dX7_dancer_51 rfl (lv_at hl 1 rfl) ?_
          refine w_iast (f := v 17) (w := j_3) hx hb hK hP hD hS 10 0 rfl rfl (i := v 16 0) (by omega) (by decide) dX7_dancer_52 (fun H locs hP hD hS => ?_)
          have hP : va_P D vwCl (mW b cI cJ cZ (va_up v 17 (va_up (v 17) (v 16 0) j_3)) c) H := hP
          have hD : va_D A (mW b cI cJ cZ (va_up v 17 (va_up (v 17) (v 16 0) j_3)) c) := hD
          refine lv_aload_n hx hb dX7_dancer_53 rfl (lv_at hl 0 rfl) ?_
          refine va_get (D := D) (ci := 7) (v := .ref (b 18)) (C := RX7) (T := TX7) (N := 24) hx hb hts hinX7 hown hK hP 0 rfl rfl 18 (by decide) (hts (.fieldLink RX7 40 "DancedLockModel" "weight" "[I") (List.mem_of_getElem? (i := 4) rfl)) (fun _ h9 => h9) rfl dX7_dancer_54 ?_
          refine lv_aload_n hx hb dX7_dancer_57 rfl (lv_at hl 0 rfl) ?_
          refine va_get (D := D) (ci := 7) (v := .int (nI (v 16 0))) (C := RX7) (T := TX7) (N := 24) hx hb hts hinX7 hown hK hP 0 rfl rfl 16 (by decide) (hts (.fieldLink RX7 103 "DancedLockModel" "dancers" "I") (List.mem_of_getElem? (i := 2) rfl)) (fun _ h9 => h9) rfl dX7_dancer_58 ?_
          refine lv_iload_n hx hb dX7_dancer_61 rfl (lv_at hl 2 rfl) ?_
          refine w_iast (f := v 18) (w := j_13) hx hb hK hP hD hS 11 0 rfl rfl (i := v 16 0) (by omega) (by decide) dX7_dancer_62 (fun H locs hP hD hS => ?_)
          have hP : va_P D vwCl (mW b cI cJ cZ (va_up (va_up v 17 (va_up (v 17) (v 16 0) j_3)) 18 (va_up (v 18) (v 16 0) j_13)) c) H := hP
          have hD : va_D A (mW b cI cJ cZ (va_up (va_up v 17 (va_up (v 17) (v 16 0) j_3)) 18 (va_up (v 18) (v 16 0) j_13)) c) := hD
          refine lv_aload_n hx hb dX7_dancer_63 rfl (lv_at hl 0 rfl) ?_
          refine lv_dup hx hb dX7_dancer_64 rfl ?_
          refine va_get (D := D) (ci := 7) (v := .int (nI (v 16 0))) (C := RX7) (T := TX7) (N := 24) hx hb hts hinX7 hown hK hP 0 rfl rfl 16 (by decide) (hts (.fieldLink RX7 103 "DancedLockModel" "dancers" "I") (List.mem_of_getElem? (i := 2) rfl)) (fun _ h9 => h9) rfl dX7_dancer_65 ?_
          refine lv_iconst (v := nI (1)) hx hb dX7_dancer_68 (by decide) ?_
          refine w_iadd (x := v 16 0) (y := 1) hx hb dX7_dancer_69  ?_
          refine va_put (D := D) (ci := 7) (v := .int (nI (v 16 0 + 1))) (ty := .int) (C := RX7) (T := TX7) (N := 24) hx hb hts hinX7 tyX7 tyX7_ok nmX7 hown hK hP hD hS 0 rfl rfl 16 (by decide) (hts (.fieldLink RX7 103 "DancedLockModel" "dancers" "I") (List.mem_of_getElem? (i := 2) rfl)) (fun _ h9 => h9) rfl (by decide +kernel) rfl (rfl) (Nat.le_of_ble_eq_true rfl) dX7_dancer_70 (fun H locs hP hD hS => ?_)
          have hP : va_P D vwCl (mW b cI cJ cZ (va_up (va_up (va_up v 16 (va_up (v 16) 0 (v 16 0 + 1))) 17 (va_up (v 17) (v 16 0) j_3)) 18 (va_up (v 18) (v 16 0) j_13)) c) H := hP
          have hD : va_D A (mW b cI cJ cZ (va_up (va_up (va_up v 16 (va_up (v 16) 0 (v 16 0 + 1))) 17 (va_up (v 17) (v 16 0) j_3)) 18 (va_up (v 18) (v 16 0) j_13)) c) := hD
          refine lv_aload_n hx hb dX7_dancer_73 rfl (lv_at hl 0 rfl) ?_
          refine va_get (D := D) (ci := 7) (v := .int (nI (v 16 0 + 1))) (C := RX7) (T := TX7) (N := 24) hx hb hts hinX7 hown hK hP 0 rfl rfl 16 (by decide) (hts (.fieldLink RX7 103 "DancedLockModel" "dancers" "I") (List.mem_of_getElem? (i := 2) rfl)) (fun _ h9 => h9) rfl dX7_dancer_74 ?_
          refine lv_iconst (v := nI (1)) hx hb dX7_dancer_77 (by decide) ?_
          refine w_isub (x := v 16 0 + 1) (y := 1) hx hb dX7_dancer_78 (by omega) ?_
          exact hret (nI ((v 16 0 + 1) - 1)) (va_up (va_up (va_up v 16 (va_up (v 16) 0 (v 16 0 + 1))) 17 (va_up (v 17) (v 16 0) j_3)) 18 (va_up (v 18) (v 16 0) j_13), c) _ _ 79 _ dX7_dancer_79 rfl (by exact ⟨⟨XI_join hI.1 h_3 h1_13 h_13 (Nat.lt_of_le_of_ne hnc c37) (Nat.pos_of_ne_zero c26), hI.2⟩, Or.inr ⟨j_3, j_13, Nat.lt_succ_of_le h_3, h1_13, h_13, rfl, rfl, Or.inr (Or.inr ⟨Nat.pos_of_ne_zero c26, Nat.lt_of_le_of_ne hnc c37, rfl, rfl, rfl, rfl, rfl, rfl, rfl, rfl, rfl, rfl, rfl, rfl, rfl, rfl, rfl⟩)⟩⟩) hP hD hS
        · skip
          refine lv_bipush (v := -4) hx hb dX7_dancer_40 (by decide) ?_
          exact hret ((-4)) (v, c) _ _ 42 _ dX7_dancer_42 rfl (by exact ⟨hI, Or.inr ⟨j_3, j_13, Nat.lt_succ_of_le h_3, h1_13, h_13, rfl, rfl, Or.inr (Or.inl ⟨Nat.pos_of_ne_zero c26, Nat.le_of_eq c37.symm, rfl, rfl, rfl, rfl, rfl, rfl, rfl, rfl, rfl, rfl, rfl, rfl, rfl, rfl, rfl⟩)⟩⟩) hP hD hS
      · skip
        refine lv_bipush (v := -3) hx hb dX7_dancer_29 (by decide) ?_
        exact hret ((-3)) (v, c) _ _ 31 _ dX7_dancer_31 rfl (by exact ⟨hI, Or.inr ⟨j_3, j_13, Nat.lt_succ_of_le h_3, h1_13, h_13, rfl, rfl, Or.inl ⟨c26, rfl, rfl, rfl, rfl, rfl, rfl, rfl, rfl, rfl, rfl, rfl, rfl, rfl, rfl, rfl⟩⟩⟩) hP hD hS
    · skip
      have hP : va_P D vwCl (mW b cI cJ cZ v c) H := hP
      have hD : va_D A (mW b cI cJ cZ v c) := hD
      refine w_if_ne (x := 0) hx hb dX7_dancer_16 (tgt := 22) (by decide) (by decide) (fun h => absurd h (by decide)) (fun _ => ?_)
      refine lv_bipush (v := -2) hx hb dX7_dancer_19 (by decide) ?_
      exact hret ((-2)) (v, c) _ _ 21 _ dX7_dancer_21 rfl (by first | exact ⟨hI, Or.inl ⟨fun ⟨k1, q1, z1, z2, z3, z4, z5⟩ => by rw [z4, n_tI (k := k1) (by omega)] at h_3; omega, rfl, rfl, rfl, rfl, rfl, rfl, rfl, rfl, rfl, rfl, rfl, rfl, rfl, rfl, rfl⟩⟩ | exact ⟨hI, Or.inl ⟨fun ⟨k1, q1, z1, z2, z3, z4, z5⟩ => by rw [z5, n_tI (k := q1) (by omega)] at h_13; omega, rfl, rfl, rfl, rfl, rfl, rfl, rfl, rfl, rfl, rfl, rfl, rfl, rfl, rfl, rfl⟩⟩) hP hD hS
  · skip
    have hP : va_P D vwCl (mW b cI cJ cZ v c) H := hP
    have hD : va_D A (mW b cI cJ cZ v c) := hD
    refine w_if_eq (x := 0) hx hb dX7_dancer_6 (tgt := 19) (by decide) (by decide) (fun _ => ?_) (fun h => absurd h (by decide))
    refine lv_bipush (v := -2) hx hb dX7_dancer_19 (by decide) ?_
    exact hret ((-2)) (v, c) _ _ 21 _ dX7_dancer_21 rfl (by first | exact ⟨hI, Or.inl ⟨fun ⟨k1, q1, z1, z2, z3, z4, z5⟩ => by rw [z4, n_tI (k := k1) (by omega)] at h_3; omega, rfl, rfl, rfl, rfl, rfl, rfl, rfl, rfl, rfl, rfl, rfl, rfl, rfl, rfl, rfl⟩⟩ | exact ⟨hI, Or.inl ⟨fun ⟨k1, q1, z1, z2, z3, z4, z5⟩ => by rw [z5, n_tI (k := q1) (by omega)] at h_13; omega, rfl, rfl, rfl, rfl, rfl, rfl, rfl, rfl, rfl, rfl, rfl, rfl, rfl, rfl, rfl⟩⟩) hP hD hS

set_option maxHeartbeats 800000 in
set_option maxRecDepth 100000 in
theorem s_leave (l : Launch) (D : va_G) (b : Nat → Nat) (cI cJ cZ : ClassId) (A : Nat → Prop) (v : Nat → Nat → Nat) (c : Nat → Nat → Int32) (x : Int32) (hI : MI v c) :
    mI l yX7_leave wsX7_leave 1 22 [.ref (b 0), .int x] D (xT cI cJ cZ) A (mW b cI cJ cZ v c) (fun u : ((Nat → Nat → Nat) × (Nat → Nat → Int32)) => mW b cI cJ cZ u.1 u.2)
    (fun (r : Int32) (u : ((Nat → Nat → Nat) × (Nat → Nat → Int32))) => MI u.1 u.2 ∧ sp_leave (vM v) (cM c) (vM u.1, cM u.2) x r) := by
  refine w_bI cX7_leave 2 .int (by decide) rfl (Nat.le_of_ble_eq_true rfl) (Or.inl rfl) ?_
  intro p e s m args below meth c0 ls Q hx hb hml hts hown hK hN hA hret hP hD hS hl
  have hl : lv_has ls 2 [(0, .ref (b 0)), (1, .int x)] := hl
  have hinX7 : ∀ w ∈ wsX70, w ∈ wsX7_leave := fun w h => List.mem_cons_of_mem _ (List.mem_append_right _ h)
  obtain ⟨hnb, hnd, hbt, hfg, hne, hnc, hdk, hnf, hkn, hln, hst, hdc, hsp⟩ := MI_o hI
  refine lv_iload_n hx hb dX7_leave_0 rfl (lv_at hl 1 rfl) ?_
  refine lv_iconst (v := nI (0)) hx hb dX7_leave_1 (by decide) ?_
  refine lv_aload_n hx hb dX7_leave_2 rfl (lv_at hl 0 rfl) ?_
  refine va_get (D := D) (ci := 7) (v := .int (nI (v 16 0))) (C := RX7) (T := TX7) (N := 24) hx hb hts hinX7 hown hK hP 0 rfl rfl 16 (by decide) (hts (.fieldLink RX7 103 "DancedLockModel" "dancers" "I") (List.mem_of_getElem? (i := 1) rfl)) (fun _ h9 => h9) rfl dX7_leave_3 ?_
  refine w_cSi (rest := []) hx hb hml hown hts (m_within_N l D b cI cJ cZ A v c x 0 (v 16 0)  (by first | assumption | omega) (by first | assumption | omega)) 3 gX7_leave_X7_within rfl hdX7_within ⟨Nat.le_of_ble_eq_true rfl, Nat.le_of_ble_eq_true rfl⟩ hK hN hP hD hS hA rfl hl.1 rfl (Nat.le_of_ble_eq_true rfl) dX7_leave_6 ⟨Nat.le_of_ble_eq_true rfl, Nat.le_of_ble_eq_true rfl⟩ (fun r u H locs hq hP hD hS => ?_)
  rcases hq with ⟨j_6, rfl, h1_6, h_6, hs_x_6⟩ | ⟨rfl, h_6⟩
  · skip
    have hP : va_P D vwCl (mW b cI cJ cZ v c) H := hP
    have hD : va_D A (mW b cI cJ cZ v c) := hD
    subst hs_x_6
    have j_6T := n_tI (k := j_6) (by omega)
    refine w_if_ne (x := 1) hx hb dX7_leave_9 (tgt := 15) (by decide) (by decide) (fun _ => ?_) (fun h => absurd h (by decide))
    refine lv_aload_n hx hb dX7_leave_15 rfl (lv_at hl 0 rfl) ?_
    refine lv_dup hx hb dX7_leave_16 rfl ?_
    refine va_get (D := D) (ci := 7) (v := .int (nI (v 16 0))) (C := RX7) (T := TX7) (N := 24) hx hb hts hinX7 hown hK hP 0 rfl rfl 16 (by decide) (hts (.fieldLink RX7 103 "DancedLockModel" "dancers" "I") (List.mem_of_getElem? (i := 1) rfl)) (fun _ h9 => h9) rfl dX7_leave_17 ?_
    refine lv_iload_n hx hb dX7_leave_20 rfl (lv_at hl 1 rfl) ?_
    refine w_isub (x := v 16 0) (y := j_6) hx hb dX7_leave_21 (by omega) ?_
    refine va_put (D := D) (ci := 7) (v := .int (nI ((v 16 0) - j_6))) (ty := .int) (C := RX7) (T := TX7) (N := 24) hx hb hts hinX7 tyX7 tyX7_ok nmX7 hown hK hP hD hS 0 rfl rfl 16 (by decide) (hts (.fieldLink RX7 103 "DancedLockModel" "dancers" "I") (List.mem_of_getElem? (i := 1) rfl)) (fun _ h9 => h9) rfl (by decide +kernel) rfl (rfl) (Nat.le_of_ble_eq_true rfl) dX7_leave_22 (fun H locs hP hD hS => ?_)
    have hP : va_P D vwCl (mW b cI cJ cZ (va_up v 16 (va_up (v 16) 0 ((v 16 0) - j_6))) c) H := hP
    have hD : va_D A (mW b cI cJ cZ (va_up v 16 (va_up (v 16) 0 ((v 16 0) - j_6))) c) := hD
    refine lv_aload_n hx hb dX7_leave_25 rfl (lv_at hl 0 rfl) ?_
    refine va_get (D := D) (ci := 7) (v := .int (nI ((v 16 0) - j_6))) (C := RX7) (T := TX7) (N := 24) hx hb hts hinX7 hown hK hP 0 rfl rfl 16 (by decide) (hts (.fieldLink RX7 103 "DancedLockModel" "dancers" "I") (List.mem_of_getElem? (i := 1) rfl)) (fun _ h9 => h9) rfl dX7_leave_26 ?_
    exact hret (nI ((v 16 0) - j_6)) (va_up v 16 (va_up (v 16) 0 ((v 16 0) - j_6)), c) _ _ 29 _ dX7_leave_29 rfl (by exact ⟨⟨XI_leave hI.1, hI.2⟩, Or.inr ⟨j_6, h_6, rfl, rfl, rfl, rfl, rfl, rfl, rfl, rfl, rfl, rfl, rfl, rfl, rfl, rfl, rfl, rfl⟩⟩) hP hD hS
  · skip
    have hP : va_P D vwCl (mW b cI cJ cZ v c) H := hP
    have hD : va_D A (mW b cI cJ cZ v c) := hD
    refine w_if_ne (x := 0) hx hb dX7_leave_9 (tgt := 15) (by decide) (by decide) (fun h => absurd h (by decide)) (fun _ => ?_)
    refine lv_bipush (v := -2) hx hb dX7_leave_12 (by decide) ?_
    exact hret ((-2)) (v, c) _ _ 14 _ dX7_leave_14 rfl (by exact ⟨hI, Or.inl ⟨fun ⟨q1, z1, z2⟩ => by have z3 : q1 ≤ v 16 0 := z1; rw [z2, n_tI (k := q1) (by omega)] at h_6; omega, rfl, rfl, rfl, rfl, rfl, rfl, rfl, rfl, rfl, rfl, rfl, rfl, rfl, rfl, rfl⟩⟩) hP hD hS

set_option maxHeartbeats 800000 in
set_option maxRecDepth 100000 in
theorem s_family (l : Launch) (D : va_G) (b : Nat → Nat) (cI cJ cZ : ClassId) (A : Nat → Prop) (v : Nat → Nat → Nat) (c : Nat → Nat → Int32) (x : Int32) (hI : MI v c) :
    mI l yX7_family wsX7_family 2 43 [.ref (b 0), .int x] D (xT cI cJ cZ) A (mW b cI cJ cZ v c) (fun u : ((Nat → Nat → Nat) × (Nat → Nat → Int32)) => mW b cI cJ cZ u.1 u.2)
    (fun (r : Int32) (u : ((Nat → Nat → Nat) × (Nat → Nat → Int32))) => MI u.1 u.2 ∧ sp_family (vM v) (cM c) (vM u.1, cM u.2) x r) := by
  refine w_bI cX7_family 2 .int (by decide) rfl (Nat.le_of_ble_eq_true rfl) (Or.inl rfl) ?_
  intro p e s m args below meth c0 ls Q hx hb hml hts hown hK hN hA hret hP hD hS hl
  have hl : lv_has ls 2 [(0, .ref (b 0)), (1, .int x)] := hl
  have hinX7 : ∀ w ∈ wsX70, w ∈ wsX7_family := fun w h => List.mem_cons_of_mem _ (List.mem_append_right _ h)
  obtain ⟨hnb, hnd, hbt, hfg, hne, hnc, hdk, hnf, hkn, hln, hst, hdc, hsp⟩ := MI_o hI
  have hab := abr_lt (nbt := v 8) (v 6 0) hnd (fun e he => (hbt e he).2)
  refine lv_iload_n hx hb dX7_family_0 rfl (lv_at hl 1 rfl) ?_
  refine r_if_lt hx hb dX7_family_1 (tgt := 17) (by decide) (fun c1 => ?_) (fun c1 => ?_)
  · skip
    refine lv_bipush (v := -2) hx hb dX7_family_17 (by decide) ?_
    exact hret ((-2)) (v, c) _ _ 19 _ dX7_family_19 rfl (by first | exact ⟨hI, Or.inl ⟨fun ⟨q1, z1, z2, z3⟩ => by have z4 : q1 ≤ abr (v 8) (v 6 0) := z1; rw [z3, n_tI (k := q1) (by omega)] at c1; omega, rfl, rfl, rfl, rfl, rfl, rfl, rfl, rfl, rfl, rfl, rfl, rfl, rfl, rfl, rfl⟩⟩ | exact ⟨hI, Or.inl ⟨fun ⟨q1, z1, z2, z3⟩ => c14 ((or_iff (by omega)).mpr ((sub_iff (by omega)).mpr ⟨q1, z1, z2, z3⟩)), rfl, rfl, rfl, rfl, rfl, rfl, rfl, rfl, rfl, rfl, rfl, rfl, rfl, rfl, rfl⟩⟩) hP hD hS
  · skip
    obtain ⟨x', x'B, rfl⟩ := r_nat c1
    have x'T := n_tI x'B
    refine lv_iload_n hx hb dX7_family_4 rfl (lv_at hl 1 rfl) ?_
    refine lv_aload_n hx hb dX7_family_5 rfl (lv_at hl 0 rfl) ?_
    refine w_cVi (rest := [.int (nI (x'))]) hx hb hml hown hts (m_allBars l D b cI cJ cZ A v c   (by first | assumption | omega)) 0 gX7_family_X7_allBars rfl hdX7_allBars ⟨Nat.le_of_ble_eq_true rfl, Nat.le_of_ble_eq_true rfl⟩ hK hN hP hD hS hA 0 7 rfl rfl rfl rfl hl.1 rfl (Nat.le_of_ble_eq_true rfl) dX7_family_6 ⟨Nat.le_of_ble_eq_true rfl, Nat.le_of_ble_eq_true rfl⟩ (fun r u H locs hq hP hD hS => ?_)
    obtain rfl := hq
    have hP : va_P D vwCl (mW b cI cJ cZ v c) H := hP
    have hD : va_D A (mW b cI cJ cZ v c) := hD
    refine lv_ior hx hb dX7_family_9 ?_
    refine lv_aload_n hx hb dX7_family_10 rfl (lv_at hl 0 rfl) ?_
    refine w_cVi (rest := [.int ((nI (x')) ||| (nI (abr ((v 8)) ((v 6 0)))))]) hx hb hml hown hts (m_allBars l D b cI cJ cZ A v c   (by first | assumption | omega)) 0 gX7_family_X7_allBars rfl hdX7_allBars ⟨Nat.le_of_ble_eq_true rfl, Nat.le_of_ble_eq_true rfl⟩ hK hN hP hD hS hA 0 7 rfl rfl rfl rfl hl.1 rfl (Nat.le_of_ble_eq_true rfl) dX7_family_11 ⟨Nat.le_of_ble_eq_true rfl, Nat.le_of_ble_eq_true rfl⟩ (fun r u H locs hq hP hD hS => ?_)
    obtain rfl := hq
    have hP : va_P D vwCl (mW b cI cJ cZ v c) H := hP
    have hD : va_D A (mW b cI cJ cZ v c) := hD
    refine lv_icmp_eq (x := (nI (x')) ||| (nI (abr ((v 8)) ((v 6 0))))) (y := nI (abr ((v 8)) ((v 6 0)))) hx hb dX7_family_14 (tgt := 20) (by decide) (fun c14 => ?_) (fun c14 => ?_)
    · skip
      refine lv_aload_n hx hb dX7_family_20 rfl (lv_at hl 0 rfl) ?_
      refine va_get (D := D) (ci := 7) (v := .int (nI (v 6 0))) (C := RX7) (T := TX7) (N := 24) hx hb hts hinX7 hown hK hP 0 rfl rfl 6 (by decide) (hts (.fieldLink RX7 66 "DancedLockModel" "doors" "I") (List.mem_of_getElem? (i := 1) rfl)) (fun _ h9 => h9) rfl dX7_family_21 ?_
      refine w_if_ne (x := v 6 0) hx hb dX7_family_24 (tgt := 30) (by decide) (by omega) (fun c24 => ?_) (fun c24 => ?_)
      · skip
        refine lv_aload_n hx hb dX7_family_30 rfl (lv_at hl 0 rfl) ?_
        refine va_get (D := D) (ci := 7) (v := .int (nI (v 22 0))) (C := RX7) (T := TX7) (N := 24) hx hb hts hinX7 hown hK hP 0 rfl rfl 22 (by decide) (hts (.fieldLink RX7 106 "DancedLockModel" "families" "I") (List.mem_of_getElem? (i := 2) rfl)) (fun _ h9 => h9) rfl dX7_family_31 ?_
        refine lv_bipush (v := nI (6)) hx hb dX7_family_34 (by decide) ?_
        refine w_icmp_ne (x := v 22 0) (y := 6) hx hb dX7_family_36 (tgt := 42) (by decide) (by omega) (by omega) (fun c36 => ?_) (fun c36 => ?_)
        · skip
          refine lv_aload_n hx hb dX7_family_42 rfl (lv_at hl 0 rfl) ?_
          refine va_get (D := D) (ci := 7) (v := .ref (b 23)) (C := RX7) (T := TX7) (N := 24) hx hb hts hinX7 hown hK hP 0 rfl rfl 23 (by decide) (hts (.fieldLink RX7 50 "DancedLockModel" "knows" "[I") (List.mem_of_getElem? (i := 3) rfl)) (fun _ h9 => h9) rfl dX7_family_43 ?_
          refine lv_aload_n hx hb dX7_family_46 rfl (lv_at hl 0 rfl) ?_
          refine va_get (D := D) (ci := 7) (v := .int (nI (v 22 0))) (C := RX7) (T := TX7) (N := 24) hx hb hts hinX7 hown hK hP 0 rfl rfl 22 (by decide) (hts (.fieldLink RX7 106 "DancedLockModel" "families" "I") (List.mem_of_getElem? (i := 2) rfl)) (fun _ h9 => h9) rfl dX7_family_47 ?_
          refine lv_iload_n hx hb dX7_family_50 rfl (lv_at hl 1 rfl) ?_
          refine w_iast (f := v 23) (w := x') hx hb hK hP hD hS 14 0 rfl rfl (i := v 22 0) (by omega) (by decide) dX7_family_51 (fun H locs hP hD hS => ?_)
          have hP : va_P D vwCl (mW b cI cJ cZ (va_up v 23 (va_up (v 23) (v 22 0) x')) c) H := hP
          have hD : va_D A (mW b cI cJ cZ (va_up v 23 (va_up (v 23) (v 22 0) x')) c) := hD
          refine lv_aload_n hx hb dX7_family_52 rfl (lv_at hl 0 rfl) ?_
          refine lv_dup hx hb dX7_family_53 rfl ?_
          refine va_get (D := D) (ci := 7) (v := .int (nI (v 22 0))) (C := RX7) (T := TX7) (N := 24) hx hb hts hinX7 hown hK hP 0 rfl rfl 22 (by decide) (hts (.fieldLink RX7 106 "DancedLockModel" "families" "I") (List.mem_of_getElem? (i := 2) rfl)) (fun _ h9 => h9) rfl dX7_family_54 ?_
          refine lv_iconst (v := nI (1)) hx hb dX7_family_57 (by decide) ?_
          refine w_iadd (x := v 22 0) (y := 1) hx hb dX7_family_58  ?_
          refine va_put (D := D) (ci := 7) (v := .int (nI (v 22 0 + 1))) (ty := .int) (C := RX7) (T := TX7) (N := 24) hx hb hts hinX7 tyX7 tyX7_ok nmX7 hown hK hP hD hS 0 rfl rfl 22 (by decide) (hts (.fieldLink RX7 106 "DancedLockModel" "families" "I") (List.mem_of_getElem? (i := 2) rfl)) (fun _ h9 => h9) rfl (by decide +kernel) rfl (rfl) (Nat.le_of_ble_eq_true rfl) dX7_family_59 (fun H locs hP hD hS => ?_)
          have hP : va_P D vwCl (mW b cI cJ cZ (va_up (va_up v 22 (va_up (v 22) 0 (v 22 0 + 1))) 23 (va_up (v 23) (v 22 0) x')) c) H := hP
          have hD : va_D A (mW b cI cJ cZ (va_up (va_up v 22 (va_up (v 22) 0 (v 22 0 + 1))) 23 (va_up (v 23) (v 22 0) x')) c) := hD
          refine lv_aload_n hx hb dX7_family_62 rfl (lv_at hl 0 rfl) ?_
          refine va_get (D := D) (ci := 7) (v := .int (nI (v 22 0 + 1))) (C := RX7) (T := TX7) (N := 24) hx hb hts hinX7 hown hK hP 0 rfl rfl 22 (by decide) (hts (.fieldLink RX7 106 "DancedLockModel" "families" "I") (List.mem_of_getElem? (i := 2) rfl)) (fun _ h9 => h9) rfl dX7_family_63 ?_
          refine lv_iconst (v := nI (1)) hx hb dX7_family_66 (by decide) ?_
          refine w_isub (x := v 22 0 + 1) (y := 1) hx hb dX7_family_67 (by omega) ?_
          exact hret (nI ((v 22 0 + 1) - 1)) (va_up (va_up v 22 (va_up (v 22) 0 (v 22 0 + 1))) 23 (va_up (v 23) (v 22 0) x'), c) _ _ 68 _ dX7_family_68 rfl (by obtain ⟨xx, hx1, hx2, hx3⟩ := (sub_iff (K := abr (v 8) (v 6 0)) (by omega)).mp ((or_iff (by omega)).mp c14); have hx4 := (n_inj (by omega) (by omega)).mp hx3; subst hx4; exact ⟨⟨XI_fam hI.1 (Nat.lt_of_le_of_lt hx1 hab) (Nat.lt_of_le_of_ne hnf c36), hI.2⟩, Or.inr ⟨x', hx1, hx2, rfl, Or.inr (Or.inr ⟨Nat.pos_of_ne_zero c24, Nat.lt_of_le_of_ne hnf c36, rfl, rfl, rfl, rfl, rfl, rfl, rfl, rfl, rfl, rfl, rfl, rfl, rfl, rfl, rfl⟩)⟩⟩) hP hD hS
        · skip
          refine lv_bipush (v := -4) hx hb dX7_family_39 (by decide) ?_
          exact hret ((-4)) (v, c) _ _ 41 _ dX7_family_41 rfl (by obtain ⟨xx, hx1, hx2, hx3⟩ := (sub_iff (K := abr (v 8) (v 6 0)) (by omega)).mp ((or_iff (by omega)).mp c14); exact ⟨hI, Or.inr ⟨xx, hx1, hx2, hx3, Or.inr (Or.inl ⟨Nat.pos_of_ne_zero c24, Nat.le_of_eq c36.symm, rfl, rfl, rfl, rfl, rfl, rfl, rfl, rfl, rfl, rfl, rfl, rfl, rfl, rfl, rfl⟩)⟩⟩) hP hD hS
      · skip
        refine lv_bipush (v := -3) hx hb dX7_family_27 (by decide) ?_
        exact hret ((-3)) (v, c) _ _ 29 _ dX7_family_29 rfl (by obtain ⟨xx, hx1, hx2, hx3⟩ := (sub_iff (K := abr (v 8) (v 6 0)) (by omega)).mp ((or_iff (by omega)).mp c14); exact ⟨hI, Or.inr ⟨xx, hx1, hx2, hx3, Or.inl ⟨c24, rfl, rfl, rfl, rfl, rfl, rfl, rfl, rfl, rfl, rfl, rfl, rfl, rfl, rfl, rfl⟩⟩⟩) hP hD hS
    · skip
      refine lv_bipush (v := -2) hx hb dX7_family_17 (by decide) ?_
      exact hret ((-2)) (v, c) _ _ 19 _ dX7_family_19 rfl (by first | exact ⟨hI, Or.inl ⟨fun ⟨q1, z1, z2, z3⟩ => by have z4 : q1 ≤ abr (v 8) (v 6 0) := z1; rw [z3, n_tI (k := q1) (by omega)] at c1; omega, rfl, rfl, rfl, rfl, rfl, rfl, rfl, rfl, rfl, rfl, rfl, rfl, rfl, rfl, rfl⟩⟩ | exact ⟨hI, Or.inl ⟨fun ⟨q1, z1, z2, z3⟩ => c14 ((or_iff (by omega)).mpr ((sub_iff (by omega)).mpr ⟨q1, z1, z2, z3⟩)), rfl, rfl, rfl, rfl, rfl, rfl, rfl, rfl, rfl, rfl, rfl, rfl, rfl, rfl, rfl⟩⟩) hP hD hS

set_option maxHeartbeats 800000 in
set_option maxRecDepth 100000 in
theorem s_change (l : Launch) (D : va_G) (b : Nat → Nat) (cI cJ cZ : ClassId) (A : Nat → Prop) (v : Nat → Nat → Nat) (c : Nat → Nat → Int32) (x : Int32) (y : Int32) (z : Int32) (hI : MI v c) :
    mI l yX7_change wsX7_change 2 43 [.ref (b 0), .int x, .int y, .int z] D (xT cI cJ cZ) A (mW b cI cJ cZ v c) (fun u : ((Nat → Nat → Nat) × (Nat → Nat → Int32)) => mW b cI cJ cZ u.1 u.2)
    (fun (r : Int32) (u : ((Nat → Nat → Nat) × (Nat → Nat → Int32))) => MI u.1 u.2 ∧ sp_change (vM v) (cM c) (vM u.1, cM u.2) x y z r) := by
  refine w_bI cX7_change 5 .int (by decide) rfl (Nat.le_of_ble_eq_true rfl) (Or.inl rfl) ?_
  intro p e s m args below meth c0 ls Q hx hb hml hts hown hK hN hA hret hP hD hS hl
  have hl : lv_has ls 5 [(0, .ref (b 0)), (1, .int x), (2, .int y), (3, .int z)] := hl
  have hinX7 : ∀ w ∈ wsX70, w ∈ wsX7_change := fun w h => List.mem_cons_of_mem _ (List.mem_append_right _ h)
  obtain ⟨hnb, hnd, hbt, hfg, hne, hnc, hdk, hnf, hkn, hln, hst, hdc, hsp⟩ := MI_o hI
  have hp7 := pow_le_128 hnb
  have hp0 := Nat.two_pow_pos (v 5 0)
  refine lv_aload_n hx hb dX7_change_0 rfl (lv_at hl 0 rfl) ?_
  refine lv_iload_n hx hb dX7_change_1 rfl (lv_at hl 1 rfl) ?_
  refine lv_iload_n hx hb dX7_change_2 rfl (lv_at hl 2 rfl) ?_
  refine w_cVi (rest := []) hx hb hml hown hts (m_isBeat_R l D b cI cJ cZ A v c x y  (by first | assumption | omega)) 2 gX7_change_X7_isBeat rfl hdX7_isBeat ⟨Nat.le_of_ble_eq_true rfl, Nat.le_of_ble_eq_true rfl⟩ hK hN hP hD hS hA 0 7 rfl rfl rfl rfl hl.1 rfl (Nat.le_of_ble_eq_true rfl) dX7_change_3 ⟨Nat.le_of_ble_eq_true rfl, Nat.le_of_ble_eq_true rfl⟩ (fun r u H locs hq hP hD hS => ?_)
  rcases hq with ⟨i_3, j_3, rfl, h_3, hj_3, hs_d_3, hs_k_3⟩ | ⟨rfl, h_3⟩ | ⟨i_3, rfl, h_3, hs_d_3, hk_3⟩
  · skip
    have hP : va_P D vwCl (mW b cI cJ cZ v c) H := hP
    have hD : va_D A (mW b cI cJ cZ v c) := hD
    subst hs_d_3
    have i_3T := n_tI (k := i_3) (by have h9 := hbt _ h_3; omega)
    subst hs_k_3
    have j_3T := n_tI (k := j_3) (by have h9 := hbt _ h_3; omega)
    refine w_if_ne (x := 1) hx hb dX7_change_6 (tgt := 11) (by decide) (by decide) (fun _ => ?_) (fun h => absurd h (by decide))
    have hbd := hbt _ h_3
    refine lv_iload_n hx hb dX7_change_11 rfl (lv_at hl 3 rfl) ?_
    refine lv_iconst (v := nI (0)) hx hb dX7_change_12 (by decide) ?_
    refine lv_iconst (v := nI (1)) hx hb dX7_change_13 (by decide) ?_
    refine lv_aload_n hx hb dX7_change_14 rfl (lv_at hl 0 rfl) ?_
    refine va_get (D := D) (ci := 7) (v := .int (nI (v 5 0))) (C := RX7) (T := TX7) (N := 24) hx hb hts hinX7 hown hK hP 0 rfl rfl 5 (by decide) (hts (.fieldLink RX7 63 "DancedLockModel" "boards" "I") (List.mem_of_getElem? (i := 1) rfl)) (fun _ h9 => h9) rfl dX7_change_15 ?_
    refine w_ishl (x := 1) (y := v 5 0) hx hb dX7_change_18 (by omega) (by omega) ?_
    refine lv_iconst (v := nI (1)) hx hb dX7_change_19 (by decide) ?_
    refine w_isub (x := 1 * 2 ^ (v 5 0)) (y := 1) hx hb dX7_change_20 (by omega) ?_
    refine w_cSi (rest := []) hx hb hml hown hts (m_within_N l D b cI cJ cZ A v c z 0 ((1 * 2 ^ (v 5 0)) - 1)  (by first | assumption | omega) (by first | assumption | omega)) 3 gX7_change_X7_within rfl hdX7_within ⟨Nat.le_of_ble_eq_true rfl, Nat.le_of_ble_eq_true rfl⟩ hK hN hP hD hS hA rfl hl.1 rfl (Nat.le_of_ble_eq_true rfl) dX7_change_21 ⟨Nat.le_of_ble_eq_true rfl, Nat.le_of_ble_eq_true rfl⟩ (fun r u H locs hq hP hD hS => ?_)
    rcases hq with ⟨j_21, rfl, h1_21, h_21, hs_x_21⟩ | ⟨rfl, h_21⟩
    · skip
      have hP : va_P D vwCl (mW b cI cJ cZ v c) H := hP
      have hD : va_D A (mW b cI cJ cZ v c) := hD
      subst hs_x_21
      have j_21T := n_tI (k := j_21) (by omega)
      refine w_if_eq (x := 1) hx hb dX7_change_24 (tgt := 35) (by decide) (by decide) (fun h => absurd h (by decide)) (fun _ => ?_)
      refine lv_iload_n hx hb dX7_change_27 rfl (lv_at hl 3 rfl) ?_
      refine w_cSi (rest := []) hx hb hml hown hts (m_size l D b cI cJ cZ A v c j_21  (by omega)) 1 gX7_change_X7_size rfl hdX7_size ⟨Nat.le_of_ble_eq_true rfl, Nat.le_of_ble_eq_true rfl⟩ hK hN hP hD hS hA rfl hl.1 rfl (Nat.le_of_ble_eq_true rfl) dX7_change_28 ⟨Nat.le_of_ble_eq_true rfl, Nat.le_of_ble_eq_true rfl⟩ (fun r u H locs hq hP hD hS => ?_)
      obtain rfl := hq
      have hP : va_P D vwCl (mW b cI cJ cZ v c) H := hP
      have hD : va_D A (mW b cI cJ cZ v c) := hD
      have hpc := pc_le j_21
      refine lv_iconst (v := nI (4)) hx hb dX7_change_31 (by decide) ?_
      refine w_icmp_le (x := pc j_21) (y := 4) hx hb dX7_change_32 (tgt := 38) (by decide) (by omega) (by omega) (fun c32 => ?_) (fun c32 => ?_)
      · skip
        refine lv_aload_n hx hb dX7_change_38 rfl (lv_at hl 0 rfl) ?_
        refine va_get (D := D) (ci := 7) (v := .ref (b 9)) (C := RX7) (T := TX7) (N := 24) hx hb hts hinX7 hown hK hP 0 rfl rfl 9 (by decide) (hts (.fieldLink RX7 25 "DancedLockModel" "figure" "[I") (List.mem_of_getElem? (i := 2) rfl)) (fun _ h9 => h9) rfl dX7_change_39 ?_
        refine lv_iload_n hx hb dX7_change_42 rfl (lv_at hl 1 rfl) ?_
        refine lv_iload_n hx hb dX7_change_43 rfl (lv_at hl 2 rfl) ?_
        refine w_cSi (rest := [.ref (b 9)]) hx hb hml hown hts (m_spot l D b cI cJ cZ A v c i_3 j_3  ) 2 gX7_change_X7_spot rfl hdX7_spot ⟨Nat.le_of_ble_eq_true rfl, Nat.le_of_ble_eq_true rfl⟩ hK hN hP hD hS hA rfl hl.1 rfl (Nat.le_of_ble_eq_true rfl) dX7_change_44 ⟨Nat.le_of_ble_eq_true rfl, Nat.le_of_ble_eq_true rfl⟩ (fun r u H locs hq hP hD hS => ?_)
        obtain rfl := hq
        have hP : va_P D vwCl (mW b cI cJ cZ v c) H := hP
        have hD : va_D A (mW b cI cJ cZ v c) := hD
        refine w_iald (f := v 9) hx hb hK hP 6 0 rfl rfl (i := i_3 * 6 + j_3) (by omega) (by decide) dX7_change_47 ?_
        refine lv_istore (lv' := [(4, .int (nI (v 9 (i_3 * 6 + j_3)))), (0, .ref (b 0)), (1, .int (nI (i_3))), (2, .int (nI (j_3))), (3, .int (nI (j_21)))]) hx hb dX7_change_48 hl (by decide) rfl (fun ls hl => ?_)
        refine lv_aload_n hx hb dX7_change_50 rfl (lv_at hl 1 rfl) ?_
        refine va_get (D := D) (ci := 7) (v := .ref (b 9)) (C := RX7) (T := TX7) (N := 24) hx hb hts hinX7 hown hK hP 0 rfl rfl 9 (by decide) (hts (.fieldLink RX7 25 "DancedLockModel" "figure" "[I") (List.mem_of_getElem? (i := 2) rfl)) (fun _ h9 => h9) rfl dX7_change_51 ?_
        refine lv_iload_n hx hb dX7_change_54 rfl (lv_at hl 2 rfl) ?_
        refine lv_iload_n hx hb dX7_change_55 rfl (lv_at hl 3 rfl) ?_
        refine w_cSi (rest := [.ref (b 9)]) hx hb hml hown hts (m_spot l D b cI cJ cZ A v c i_3 j_3  ) 2 gX7_change_X7_spot rfl hdX7_spot ⟨Nat.le_of_ble_eq_true rfl, Nat.le_of_ble_eq_true rfl⟩ hK hN hP hD hS hA rfl hl.1 rfl (Nat.le_of_ble_eq_true rfl) dX7_change_56 ⟨Nat.le_of_ble_eq_true rfl, Nat.le_of_ble_eq_true rfl⟩ (fun r u H locs hq hP hD hS => ?_)
        obtain rfl := hq
        have hP : va_P D vwCl (mW b cI cJ cZ v c) H := hP
        have hD : va_D A (mW b cI cJ cZ v c) := hD
        refine lv_iload_n hx hb dX7_change_59 rfl (lv_at hl 4 rfl) ?_
        refine w_iast (f := v 9) (w := j_21) hx hb hK hP hD hS 6 0 rfl rfl (i := i_3 * 6 + j_3) (by omega) (by decide) dX7_change_60 (fun H locs hP hD hS => ?_)
        have hP : va_P D vwCl (mW b cI cJ cZ (va_up v 9 (va_up (v 9) (i_3 * 6 + j_3) j_21)) c) H := hP
        have hD : va_D A (mW b cI cJ cZ (va_up v 9 (va_up (v 9) (i_3 * 6 + j_3) j_21)) c) := hD
        refine lv_iload hx hb dX7_change_61 (lv_at hl 0 rfl) ?_
        exact hret (nI (v 9 (i_3 * 6 + j_3))) (va_up v 9 (va_up (v 9) (i_3 * 6 + j_3) j_21), c) _ _ 63 _ dX7_change_63 rfl (by exact ⟨⟨XI_change hI.1 h_3 hj_3 (show j_21 < 2 ^ v 5 0 by omega), hI.2⟩, Or.inr ⟨i_3, j_3, h_3, hj_3, rfl, rfl, Or.inr ⟨j_21, (show j_21 < 2 ^ v 5 0 by omega), c32, rfl, rfl, rfl, rfl, rfl, rfl, rfl, rfl, rfl, rfl, rfl, rfl, rfl, rfl, rfl, rfl⟩⟩⟩) hP hD hS
      · skip
        refine lv_bipush (v := -2) hx hb dX7_change_35 (by decide) ?_
        exact hret ((-2)) (v, c) _ _ 37 _ dX7_change_37 rfl (by exact ⟨hI, Or.inr ⟨i_3, j_3, h_3, hj_3, rfl, rfl, Or.inl ⟨fun ⟨q1, q2, q3, q4⟩ => by have q5 : q1 < 2 ^ v 5 0 := q2; have e := (n_inj (a := j_21) (b := q1) (by omega) (by omega)).mp q4; subst e; omega, rfl, rfl, rfl, rfl, rfl, rfl, rfl, rfl, rfl, rfl, rfl, rfl, rfl, rfl, rfl⟩⟩⟩) hP hD hS
    · skip
      have hP : va_P D vwCl (mW b cI cJ cZ v c) H := hP
      have hD : va_D A (mW b cI cJ cZ v c) := hD
      refine w_if_eq (x := 0) hx hb dX7_change_24 (tgt := 35) (by decide) (by decide) (fun _ => ?_) (fun h => absurd h (by decide))
      refine lv_bipush (v := -2) hx hb dX7_change_35 (by decide) ?_
      exact hret ((-2)) (v, c) _ _ 37 _ dX7_change_37 rfl (by exact ⟨hI, Or.inr ⟨i_3, j_3, h_3, hj_3, rfl, rfl, Or.inl ⟨fun ⟨q1, q2, q3, q4⟩ => by have q5 : q1 < 2 ^ v 5 0 := q2; rw [q4, n_tI (k := q1) (by omega)] at h_21; omega, rfl, rfl, rfl, rfl, rfl, rfl, rfl, rfl, rfl, rfl, rfl, rfl, rfl, rfl, rfl⟩⟩⟩) hP hD hS
  · skip
    have hP : va_P D vwCl (mW b cI cJ cZ v c) H := hP
    have hD : va_D A (mW b cI cJ cZ v c) := hD
    refine w_if_ne (x := 0) hx hb dX7_change_6 (tgt := 11) (by decide) (by decide) (fun h => absurd h (by decide)) (fun _ => ?_)
    refine lv_iconst (v := -1) hx hb dX7_change_9 (by decide) ?_
    exact hret ((-1)) (v, c) _ _ 10 _ dX7_change_10 rfl (by first | exact ⟨hI, Or.inl ⟨fun ⟨d1, j1, q1, q2, q4, q5⟩ => nR_of (by omega) h_3 ⟨d1, q1, q4⟩, rfl, rfl, rfl, rfl, rfl, rfl, rfl, rfl, rfl, rfl, rfl, rfl, rfl, rfl, rfl⟩⟩ | exact ⟨hI, Or.inl ⟨fun ⟨d1, j1, q1, q2, q4, q5⟩ => nR_of (by have h9 := hbt _ h_3; omega) hk_3 ⟨j1, by have q6 : d1 < v 6 0 := q1; rw [(n_inj (a := i_3) (b := d1) (by omega) (by omega)).mp q4]; exact q2, q5⟩, rfl, rfl, rfl, rfl, rfl, rfl, rfl, rfl, rfl, rfl, rfl, rfl, rfl, rfl, rfl⟩⟩) hP hD hS
  · skip
    have hP : va_P D vwCl (mW b cI cJ cZ v c) H := hP
    have hD : va_D A (mW b cI cJ cZ v c) := hD
    subst hs_d_3
    have i_3T := n_tI (k := i_3) (by have h9 := hbt _ h_3; omega)
    refine w_if_ne (x := 0) hx hb dX7_change_6 (tgt := 11) (by decide) (by decide) (fun h => absurd h (by decide)) (fun _ => ?_)
    refine lv_iconst (v := -1) hx hb dX7_change_9 (by decide) ?_
    exact hret ((-1)) (v, c) _ _ 10 _ dX7_change_10 rfl (by first | exact ⟨hI, Or.inl ⟨fun ⟨d1, j1, q1, q2, q4, q5⟩ => nR_of (by omega) h_3 ⟨d1, q1, q4⟩, rfl, rfl, rfl, rfl, rfl, rfl, rfl, rfl, rfl, rfl, rfl, rfl, rfl, rfl, rfl⟩⟩ | exact ⟨hI, Or.inl ⟨fun ⟨d1, j1, q1, q2, q4, q5⟩ => nR_of (by have h9 := hbt _ h_3; omega) hk_3 ⟨j1, by have q6 : d1 < v 6 0 := q1; rw [(n_inj (a := i_3) (b := d1) (by omega) (by omega)).mp q4]; exact q2, q5⟩, rfl, rfl, rfl, rfl, rfl, rfl, rfl, rfl, rfl, rfl, rfl, rfl, rfl, rfl, rfl⟩⟩) hP hD hS

set_option maxHeartbeats 800000 in
set_option maxRecDepth 100000 in
theorem s_tell (l : Launch) (D : va_G) (b : Nat → Nat) (cI cJ cZ : ClassId) (A : Nat → Prop) (v : Nat → Nat → Nat) (c : Nat → Nat → Int32) (x : Int32) (hI : MI v c) :
    mI l yX7_tell wsX7_tell 1 21 [.ref (b 0), .int x] D (xT cI cJ cZ) A (mW b cI cJ cZ v c) (fun u : ((Nat → Nat → Nat) × (Nat → Nat → Int32)) => mW b cI cJ cZ u.1 u.2)
    (fun (r : Int32) (u : ((Nat → Nat → Nat) × (Nat → Nat → Int32))) => MI u.1 u.2 ∧ sp_tell (vM v) (cM c) (vM u.1, cM u.2) x r) := by
  refine w_bI cX7_tell 3 .int (by decide) rfl (Nat.le_of_ble_eq_true rfl) (Or.inl rfl) ?_
  intro p e s m args below meth c0 ls Q hx hb hml hts hown hK hN hA hret hP hD hS hl
  have hl : lv_has ls 3 [(0, .ref (b 0)), (1, .int x)] := hl
  have hinX7 : ∀ w ∈ wsX70, w ∈ wsX7_tell := fun w h => List.mem_cons_of_mem _ (List.mem_append_right _ h)
  obtain ⟨hnb, hnd, hbt, hfg, hne, hnc, hdk, hnf, hkn, hln, hst, hdc, hsp⟩ := MI_o hI
  refine lv_aload_n hx hb dX7_tell_0 rfl (lv_at hl 0 rfl) ?_
  refine lv_iload_n hx hb dX7_tell_1 rfl (lv_at hl 1 rfl) ?_
  refine w_cVi (rest := []) hx hb hml hown hts (m_isDancer_R l D b cI cJ cZ A v c x  (by first | assumption | omega)) 1 gX7_tell_X7_isDancer rfl hdX7_isDancer ⟨Nat.le_of_ble_eq_true rfl, Nat.le_of_ble_eq_true rfl⟩ hK hN hP hD hS hA 0 7 rfl rfl rfl rfl hl.1 rfl (Nat.le_of_ble_eq_true rfl) dX7_tell_2 ⟨Nat.le_of_ble_eq_true rfl, Nat.le_of_ble_eq_true rfl⟩ (fun r u H locs hq hP hD hS => ?_)
  rcases hq with ⟨j_2, rfl, h_2, hs_x_2⟩ | ⟨rfl, h_2⟩
  · skip
    have hP : va_P D vwCl (mW b cI cJ cZ v c) H := hP
    have hD : va_D A (mW b cI cJ cZ v c) := hD
    subst hs_x_2
    have j_2T := n_tI (k := j_2) (by omega)
    refine w_if_ne (x := 1) hx hb dX7_tell_5 (tgt := 10) (by decide) (by decide) (fun _ => ?_) (fun h => absurd h (by decide))
    refine lv_aload_n hx hb dX7_tell_10 rfl (lv_at hl 0 rfl) ?_
    refine va_get (D := D) (ci := 7) (v := .ref (b 18)) (C := RX7) (T := TX7) (N := 24) hx hb hts hinX7 hown hK hP 0 rfl rfl 18 (by decide) (hts (.fieldLink RX7 40 "DancedLockModel" "weight" "[I") (List.mem_of_getElem? (i := 1) rfl)) (fun _ h9 => h9) rfl dX7_tell_11 ?_
    refine lv_iload_n hx hb dX7_tell_14 rfl (lv_at hl 1 rfl) ?_
    refine w_iald (f := v 18) hx hb hK hP 11 0 rfl rfl (i := j_2) (by omega) (by decide) dX7_tell_15 ?_
    refine lv_istore_n (lv' := [(2, .int (nI (v 18 j_2))), (0, .ref (b 0)), (1, .int (nI (j_2)))]) hx hb dX7_tell_16 rfl hl (by decide) rfl (fun ls hl => ?_)
    refine lv_aload_n hx hb dX7_tell_17 rfl (lv_at hl 1 rfl) ?_
    refine va_get (D := D) (ci := 7) (v := .ref (b 17)) (C := RX7) (T := TX7) (N := 24) hx hb hts hinX7 hown hK hP 0 rfl rfl 17 (by decide) (hts (.fieldLink RX7 37 "DancedLockModel" "kind" "[I") (List.mem_of_getElem? (i := 2) rfl)) (fun _ h9 => h9) rfl dX7_tell_18 ?_
    refine lv_iload_n hx hb dX7_tell_21 rfl (lv_at hl 2 rfl) ?_
    refine w_iald (f := v 17) hx hb hK hP 10 0 rfl rfl (i := j_2) (by omega) (by decide) dX7_tell_22 ?_
    rcases k3_cases (hdk j_2 h_2).1 with ek | ek | ek
    · skip
      rw [ek]
      refine lv_lookup (tgt := 90) hx hb dX7_tell_23 (by decide) (off := 67) (by decide) (by decide) ?_
      refine lv_aload_n hx hb dX7_tell_90 rfl (lv_at hl 1 rfl) ?_
      refine lv_iconst (v := nI (1)) hx hb dX7_tell_91 (by decide) ?_
      refine w_cVv (rest := []) hx hb hml hown hts (m_tellsBy l D b cI cJ cZ A v c 1  ) 1 gX7_tell_X7_tellsBy rfl hdX7_tellsBy ⟨Nat.le_of_ble_eq_true rfl, Nat.le_of_ble_eq_true rfl⟩ hK hN hP hD hS hA 0 7 rfl rfl rfl rfl hl.1 rfl (Nat.le_of_ble_eq_true rfl) dX7_tell_92 ⟨Nat.le_of_ble_eq_true rfl, Nat.le_of_ble_eq_true rfl⟩ (fun u H locs hq hP hD hS => ?_)
      obtain rfl := hq
      have hP : va_P D vwCl (mW b cI cJ cZ v (va_up c 1 (va_up (c 1) 0 ((nI (31)) * ((c 1 0)) + (nI (1)))))) H := hP
      have hD : va_D A (mW b cI cJ cZ v (va_up c 1 (va_up (c 1) 0 ((nI (31)) * ((c 1 0)) + (nI (1)))))) := hD
      refine lv_iload_n hx hb dX7_tell_95 rfl (lv_at hl 0 rfl) ?_
      exact hret (nI (v 18 j_2)) (v, va_up c 1 (va_up (c 1) 0 ((nI (31)) * ((c 1 0)) + (nI (1))))) _ _ 96 _ dX7_tell_96 rfl (by exact ⟨hI, Or.inr ⟨j_2, h_2, rfl, Or.inl ⟨ek, rfl, rfl⟩, rfl, rfl, rfl, rfl, rfl, rfl, rfl, rfl, rfl, rfl, rfl, rfl, rfl⟩⟩) hP hD hS
    · skip
      rw [ek]
      refine lv_lookup (tgt := 48) hx hb dX7_tell_23 (by decide) (off := 25) (by decide) (by decide) ?_
      refine lv_aload_n hx hb dX7_tell_48 rfl (lv_at hl 1 rfl) ?_
      refine lv_iconst (v := nI (2)) hx hb dX7_tell_49 (by decide) ?_
      refine w_cVv (rest := []) hx hb hml hown hts (m_tellsBy l D b cI cJ cZ A v c 2  ) 1 gX7_tell_X7_tellsBy rfl hdX7_tellsBy ⟨Nat.le_of_ble_eq_true rfl, Nat.le_of_ble_eq_true rfl⟩ hK hN hP hD hS hA 0 7 rfl rfl rfl rfl hl.1 rfl (Nat.le_of_ble_eq_true rfl) dX7_tell_50 ⟨Nat.le_of_ble_eq_true rfl, Nat.le_of_ble_eq_true rfl⟩ (fun u H locs hq hP hD hS => ?_)
      obtain rfl := hq
      have hP : va_P D vwCl (mW b cI cJ cZ v (va_up c 1 (va_up (c 1) 0 ((nI (31)) * ((c 1 0)) + (nI (2)))))) H := hP
      have hD : va_D A (mW b cI cJ cZ v (va_up c 1 (va_up (c 1) 0 ((nI (31)) * ((c 1 0)) + (nI (2)))))) := hD
      refine lv_aload_n hx hb dX7_tell_53 rfl (lv_at hl 1 rfl) ?_
      refine lv_iconst (v := nI (1)) hx hb dX7_tell_54 (by decide) ?_
      refine w_cVv (rest := []) hx hb hml hown hts (m_tellsBy l D b cI cJ cZ A v (va_up c 1 (va_up (c 1) 0 ((nI (31)) * ((c 1 0)) + (nI (2))))) 1  ) 1 gX7_tell_X7_tellsBy rfl hdX7_tellsBy ⟨Nat.le_of_ble_eq_true rfl, Nat.le_of_ble_eq_true rfl⟩ hK hN hP hD hS hA 0 7 rfl rfl rfl rfl hl.1 rfl (Nat.le_of_ble_eq_true rfl) dX7_tell_55 ⟨Nat.le_of_ble_eq_true rfl, Nat.le_of_ble_eq_true rfl⟩ (fun u H locs hq hP hD hS => ?_)
      obtain rfl := hq
      have hP : va_P D vwCl (mW b cI cJ cZ v (va_up c 1 (va_up (c 1) 0 ((nI (31)) * (((nI (31)) * ((c 1 0)) + (nI (2)))) + (nI (1)))))) H := hP
      have hD : va_D A (mW b cI cJ cZ v (va_up c 1 (va_up (c 1) 0 ((nI (31)) * (((nI (31)) * ((c 1 0)) + (nI (2)))) + (nI (1)))))) := hD
      refine lv_iload_n hx hb dX7_tell_58 rfl (lv_at hl 0 rfl) ?_
      refine lv_bipush (v := nI (100)) hx hb dX7_tell_59 (by decide) ?_
      refine w_iadd (x := v 18 j_2) (y := 100) hx hb dX7_tell_61  ?_
      exact hret (nI (v 18 j_2 + 100)) (v, va_up c 1 (va_up (c 1) 0 ((nI (31)) * (((nI (31)) * ((c 1 0)) + (nI (2)))) + (nI (1))))) _ _ 62 _ dX7_tell_62 rfl (by exact ⟨hI, Or.inr ⟨j_2, h_2, rfl, Or.inr (Or.inl ⟨ek, rfl, rfl⟩), rfl, rfl, rfl, rfl, rfl, rfl, rfl, rfl, rfl, rfl, rfl, rfl, rfl⟩⟩) hP hD hS
    · skip
      rw [ek]
      refine lv_lookup (tgt := 63) hx hb dX7_tell_23 (by decide) (off := 40) (by decide) (by decide) ?_
      refine lv_aload_n hx hb dX7_tell_63 rfl (lv_at hl 1 rfl) ?_
      refine lv_iconst (v := nI (3)) hx hb dX7_tell_64 (by decide) ?_
      refine w_cVv (rest := []) hx hb hml hown hts (m_tellsBy l D b cI cJ cZ A v c 3  ) 1 gX7_tell_X7_tellsBy rfl hdX7_tellsBy ⟨Nat.le_of_ble_eq_true rfl, Nat.le_of_ble_eq_true rfl⟩ hK hN hP hD hS hA 0 7 rfl rfl rfl rfl hl.1 rfl (Nat.le_of_ble_eq_true rfl) dX7_tell_65 ⟨Nat.le_of_ble_eq_true rfl, Nat.le_of_ble_eq_true rfl⟩ (fun u H locs hq hP hD hS => ?_)
      obtain rfl := hq
      have hP : va_P D vwCl (mW b cI cJ cZ v (va_up c 1 (va_up (c 1) 0 ((nI (31)) * ((c 1 0)) + (nI (3)))))) H := hP
      have hD : va_D A (mW b cI cJ cZ v (va_up c 1 (va_up (c 1) 0 ((nI (31)) * ((c 1 0)) + (nI (3)))))) := hD
      refine lv_aload_n hx hb dX7_tell_68 rfl (lv_at hl 1 rfl) ?_
      refine lv_iconst (v := nI (2)) hx hb dX7_tell_69 (by decide) ?_
      refine w_cVv (rest := []) hx hb hml hown hts (m_tellsBy l D b cI cJ cZ A v (va_up c 1 (va_up (c 1) 0 ((nI (31)) * ((c 1 0)) + (nI (3))))) 2  ) 1 gX7_tell_X7_tellsBy rfl hdX7_tellsBy ⟨Nat.le_of_ble_eq_true rfl, Nat.le_of_ble_eq_true rfl⟩ hK hN hP hD hS hA 0 7 rfl rfl rfl rfl hl.1 rfl (Nat.le_of_ble_eq_true rfl) dX7_tell_70 ⟨Nat.le_of_ble_eq_true rfl, Nat.le_of_ble_eq_true rfl⟩ (fun u H locs hq hP hD hS => ?_)
      obtain rfl := hq
      have hP : va_P D vwCl (mW b cI cJ cZ v (va_up c 1 (va_up (c 1) 0 ((nI (31)) * (((nI (31)) * ((c 1 0)) + (nI (3)))) + (nI (2)))))) H := hP
      have hD : va_D A (mW b cI cJ cZ v (va_up c 1 (va_up (c 1) 0 ((nI (31)) * (((nI (31)) * ((c 1 0)) + (nI (3)))) + (nI (2)))))) := hD
      refine lv_aload_n hx hb dX7_tell_73 rfl (lv_at hl 1 rfl) ?_
      refine lv_iconst (v := nI (1)) hx hb dX7_tell_74 (by decide) ?_
      refine w_cVv (rest := []) hx hb hml hown hts (m_tellsBy l D b cI cJ cZ A v (va_up c 1 (va_up (c 1) 0 ((nI (31)) * (((nI (31)) * ((c 1 0)) + (nI (3)))) + (nI (2))))) 1  ) 1 gX7_tell_X7_tellsBy rfl hdX7_tellsBy ⟨Nat.le_of_ble_eq_true rfl, Nat.le_of_ble_eq_true rfl⟩ hK hN hP hD hS hA 0 7 rfl rfl rfl rfl hl.1 rfl (Nat.le_of_ble_eq_true rfl) dX7_tell_75 ⟨Nat.le_of_ble_eq_true rfl, Nat.le_of_ble_eq_true rfl⟩ (fun u H locs hq hP hD hS => ?_)
      obtain rfl := hq
      have hP : va_P D vwCl (mW b cI cJ cZ v (va_up c 1 (va_up (c 1) 0 ((nI (31)) * (((nI (31)) * (((nI (31)) * ((c 1 0)) + (nI (3)))) + (nI (2)))) + (nI (1)))))) H := hP
      have hD : va_D A (mW b cI cJ cZ v (va_up c 1 (va_up (c 1) 0 ((nI (31)) * (((nI (31)) * (((nI (31)) * ((c 1 0)) + (nI (3)))) + (nI (2)))) + (nI (1)))))) := hD
      refine lv_aload_n hx hb dX7_tell_78 rfl (lv_at hl 1 rfl) ?_
      refine lv_iconst (v := nI (1)) hx hb dX7_tell_79 (by decide) ?_
      refine w_cVv (rest := []) hx hb hml hown hts (m_tellsBy l D b cI cJ cZ A v (va_up c 1 (va_up (c 1) 0 ((nI (31)) * (((nI (31)) * (((nI (31)) * ((c 1 0)) + (nI (3)))) + (nI (2)))) + (nI (1))))) 1  ) 1 gX7_tell_X7_tellsBy rfl hdX7_tellsBy ⟨Nat.le_of_ble_eq_true rfl, Nat.le_of_ble_eq_true rfl⟩ hK hN hP hD hS hA 0 7 rfl rfl rfl rfl hl.1 rfl (Nat.le_of_ble_eq_true rfl) dX7_tell_80 ⟨Nat.le_of_ble_eq_true rfl, Nat.le_of_ble_eq_true rfl⟩ (fun u H locs hq hP hD hS => ?_)
      obtain rfl := hq
      have hP : va_P D vwCl (mW b cI cJ cZ v (va_up c 1 (va_up (c 1) 0 ((nI (31)) * (((nI (31)) * (((nI (31)) * (((nI (31)) * ((c 1 0)) + (nI (3)))) + (nI (2)))) + (nI (1)))) + (nI (1)))))) H := hP
      have hD : va_D A (mW b cI cJ cZ v (va_up c 1 (va_up (c 1) 0 ((nI (31)) * (((nI (31)) * (((nI (31)) * (((nI (31)) * ((c 1 0)) + (nI (3)))) + (nI (2)))) + (nI (1)))) + (nI (1)))))) := hD
      refine lv_iconst (v := nI (2)) hx hb dX7_tell_83 (by decide) ?_
      refine lv_iload_n hx hb dX7_tell_84 rfl (lv_at hl 0 rfl) ?_
      refine w_imul (x := 2) (y := v 18 j_2) hx hb dX7_tell_85  ?_
      refine lv_bipush (v := nI (100)) hx hb dX7_tell_86 (by decide) ?_
      refine w_iadd (x := 2 * (v 18 j_2)) (y := 100) hx hb dX7_tell_88  ?_
      exact hret (nI (2 * (v 18 j_2) + 100)) (v, va_up c 1 (va_up (c 1) 0 ((nI (31)) * (((nI (31)) * (((nI (31)) * (((nI (31)) * ((c 1 0)) + (nI (3)))) + (nI (2)))) + (nI (1)))) + (nI (1))))) _ _ 89 _ dX7_tell_89 rfl (by exact ⟨hI, Or.inr ⟨j_2, h_2, rfl, Or.inr (Or.inr ⟨ek, congrArg nI (show 2 * v 18 j_2 + 100 = v 18 j_2 + 100 + v 18 j_2 by omega), rfl⟩), rfl, rfl, rfl, rfl, rfl, rfl, rfl, rfl, rfl, rfl, rfl, rfl, rfl⟩⟩) hP hD hS
  · skip
    have hP : va_P D vwCl (mW b cI cJ cZ v c) H := hP
    have hD : va_D A (mW b cI cJ cZ v c) := hD
    refine w_if_ne (x := 0) hx hb dX7_tell_5 (tgt := 10) (by decide) (by decide) (fun h => absurd h (by decide)) (fun _ => ?_)
    refine lv_iconst (v := -1) hx hb dX7_tell_8 (by decide) ?_
    exact hret ((-1)) (v, c) _ _ 9 _ dX7_tell_9 rfl (by exact ⟨hI, Or.inl ⟨nR_of (n := v 16 0) (by omega) h_2, rfl, rfl, rfl, rfl, rfl, rfl, rfl, rfl, rfl, rfl, rfl, rfl, rfl, rfl, rfl⟩⟩) hP hD hS

set_option maxHeartbeats 800000 in
set_option maxRecDepth 100000 in
theorem s_lead (l : Launch) (D : va_G) (b : Nat → Nat) (cI cJ cZ : ClassId) (A : Nat → Prop) (v : Nat → Nat → Nat) (c : Nat → Nat → Int32) (x : Int32) (hI : MI v c) :
    mI l yX7_lead wsX7_lead 1 21 [.ref (b 0), .int x] D (xT cI cJ cZ) A (mW b cI cJ cZ v c) (fun u : ((Nat → Nat → Nat) × (Nat → Nat → Int32)) => mW b cI cJ cZ u.1 u.2)
    (fun (r : Int32) (u : ((Nat → Nat → Nat) × (Nat → Nat → Int32))) => MI u.1 u.2 ∧ sp_lead (vM v) (cM c) (vM u.1, cM u.2) x r) := by
  refine w_bI cX7_lead 2 .int (by decide) rfl (Nat.le_of_ble_eq_true rfl) (Or.inl rfl) ?_
  intro p e s m args below meth c0 ls Q hx hb hml hts hown hK hN hA hret hP hD hS hl
  have hl : lv_has ls 2 [(0, .ref (b 0)), (1, .int x)] := hl
  have hinX7 : ∀ w ∈ wsX70, w ∈ wsX7_lead := fun w h => List.mem_cons_of_mem _ (List.mem_append_right _ h)
  obtain ⟨hnb, hnd, hbt, hfg, hne, hnc, hdk, hnf, hkn, hln, hst, hdc, hsp⟩ := MI_o hI
  refine lv_aload_n hx hb dX7_lead_0 rfl (lv_at hl 0 rfl) ?_
  refine lv_iload_n hx hb dX7_lead_1 rfl (lv_at hl 1 rfl) ?_
  refine w_cVi (rest := []) hx hb hml hown hts (m_isDancer_R l D b cI cJ cZ A v c x  (by first | assumption | omega)) 1 gX7_lead_X7_isDancer rfl hdX7_isDancer ⟨Nat.le_of_ble_eq_true rfl, Nat.le_of_ble_eq_true rfl⟩ hK hN hP hD hS hA 0 7 rfl rfl rfl rfl hl.1 rfl (Nat.le_of_ble_eq_true rfl) dX7_lead_2 ⟨Nat.le_of_ble_eq_true rfl, Nat.le_of_ble_eq_true rfl⟩ (fun r u H locs hq hP hD hS => ?_)
  rcases hq with ⟨j_2, rfl, h_2, hs_x_2⟩ | ⟨rfl, h_2⟩
  · skip
    have hP : va_P D vwCl (mW b cI cJ cZ v c) H := hP
    have hD : va_D A (mW b cI cJ cZ v c) := hD
    subst hs_x_2
    have j_2T := n_tI (k := j_2) (by omega)
    refine w_if_ne (x := 1) hx hb dX7_lead_5 (tgt := 10) (by decide) (by decide) (fun _ => ?_) (fun h => absurd h (by decide))
    have hkd := hdk j_2 h_2
    refine lv_aload_n hx hb dX7_lead_10 rfl (lv_at hl 0 rfl) ?_
    refine lv_aload_n hx hb dX7_lead_11 rfl (lv_at hl 0 rfl) ?_
    refine va_get (D := D) (ci := 7) (v := .ref (b 17)) (C := RX7) (T := TX7) (N := 24) hx hb hts hinX7 hown hK hP 0 rfl rfl 17 (by decide) (hts (.fieldLink RX7 37 "DancedLockModel" "kind" "[I") (List.mem_of_getElem? (i := 1) rfl)) (fun _ h9 => h9) rfl dX7_lead_12 ?_
    refine lv_iload_n hx hb dX7_lead_15 rfl (lv_at hl 1 rfl) ?_
    refine w_iald (f := v 17) hx hb hK hP 10 0 rfl rfl (i := j_2) (by omega) (by decide) dX7_lead_16 ?_
    refine lv_iconst (v := nI (2)) hx hb dX7_lead_17 (by decide) ?_
    refine w_icmp_ne (x := v 17 j_2) (y := 2) hx hb dX7_lead_18 (tgt := 25) (by decide) (by omega) (by omega) (fun c18 => ?_) (fun c18 => ?_)
    · skip
      refine lv_iconst (v := nI (4)) hx hb dX7_lead_25 (by decide) ?_
      refine w_cVv (rest := []) hx hb hml hown hts (m_tellsBy l D b cI cJ cZ A v c 4  ) 1 gX7_lead_X7_tellsBy rfl hdX7_tellsBy ⟨Nat.le_of_ble_eq_true rfl, Nat.le_of_ble_eq_true rfl⟩ hK hN hP hD hS hA 0 7 rfl rfl rfl rfl hl.1 rfl (Nat.le_of_ble_eq_true rfl) dX7_lead_26 ⟨Nat.le_of_ble_eq_true rfl, Nat.le_of_ble_eq_true rfl⟩ (fun u H locs hq hP hD hS => ?_)
      obtain rfl := hq
      have hP : va_P D vwCl (mW b cI cJ cZ v (va_up c 1 (va_up (c 1) 0 ((nI (31)) * ((c 1 0)) + (nI (4)))))) H := hP
      have hD : va_D A (mW b cI cJ cZ v (va_up c 1 (va_up (c 1) 0 ((nI (31)) * ((c 1 0)) + (nI (4)))))) := hD
      refine lv_aload_n hx hb dX7_lead_29 rfl (lv_at hl 0 rfl) ?_
      refine va_get (D := D) (ci := 7) (v := .ref (b 17)) (C := RX7) (T := TX7) (N := 24) hx hb hts hinX7 hown hK hP 0 rfl rfl 17 (by decide) (hts (.fieldLink RX7 37 "DancedLockModel" "kind" "[I") (List.mem_of_getElem? (i := 1) rfl)) (fun _ h9 => h9) rfl dX7_lead_30 ?_
      refine lv_iload_n hx hb dX7_lead_33 rfl (lv_at hl 1 rfl) ?_
      refine w_iald (f := v 17) hx hb hK hP 10 0 rfl rfl (i := j_2) (by omega) (by decide) dX7_lead_34 ?_
      refine lv_iconst (v := nI (2)) hx hb dX7_lead_35 (by decide) ?_
      refine w_icmp_ne (x := v 17 j_2) (y := 2) hx hb dX7_lead_36 (tgt := 44) (by decide) (by omega) (by omega) (fun c36 => ?_) (fun c36 => ?_)
      · skip
        refine lv_iload_n hx hb dX7_lead_44 rfl (lv_at hl 1 rfl) ?_
        exact hret (nI (j_2)) (v, va_up c 1 (va_up (c 1) 0 ((nI (31)) * ((c 1 0)) + (nI (4))))) _ _ 45 _ dX7_lead_45 rfl (by first | exact absurd c18 c36 | exact absurd c36 c18 | exact ⟨hI, Or.inr ⟨j_2, h_2, rfl, Or.inr ⟨c36, rfl, rfl⟩, rfl, rfl, rfl, rfl, rfl, rfl, rfl, rfl, rfl, rfl, rfl, rfl, rfl⟩⟩) hP hD hS
      · skip
        refine lv_bipush (v := nI (60)) hx hb dX7_lead_39 (by decide) ?_
        refine lv_goto (tgt := 45) hx hb dX7_lead_41 (by decide) ?_
        exact hret (nI (60)) (v, va_up c 1 (va_up (c 1) 0 ((nI (31)) * ((c 1 0)) + (nI (4))))) _ _ 45 _ dX7_lead_45 rfl (by first | exact absurd c18 c36 | exact absurd c36 c18 | exact ⟨hI, Or.inr ⟨j_2, h_2, rfl, Or.inl ⟨c36, rfl, rfl⟩, rfl, rfl, rfl, rfl, rfl, rfl, rfl, rfl, rfl, rfl, rfl, rfl, rfl⟩⟩) hP hD hS
    · skip
      refine lv_iconst (v := nI (5)) hx hb dX7_lead_21 (by decide) ?_
      refine lv_goto (tgt := 26) hx hb dX7_lead_22 (by decide) ?_
      refine w_cVv (rest := []) hx hb hml hown hts (m_tellsBy l D b cI cJ cZ A v c 5  ) 1 gX7_lead_X7_tellsBy rfl hdX7_tellsBy ⟨Nat.le_of_ble_eq_true rfl, Nat.le_of_ble_eq_true rfl⟩ hK hN hP hD hS hA 0 7 rfl rfl rfl rfl hl.1 rfl (Nat.le_of_ble_eq_true rfl) dX7_lead_26 ⟨Nat.le_of_ble_eq_true rfl, Nat.le_of_ble_eq_true rfl⟩ (fun u H locs hq hP hD hS => ?_)
      obtain rfl := hq
      have hP : va_P D vwCl (mW b cI cJ cZ v (va_up c 1 (va_up (c 1) 0 ((nI (31)) * ((c 1 0)) + (nI (5)))))) H := hP
      have hD : va_D A (mW b cI cJ cZ v (va_up c 1 (va_up (c 1) 0 ((nI (31)) * ((c 1 0)) + (nI (5)))))) := hD
      refine lv_aload_n hx hb dX7_lead_29 rfl (lv_at hl 0 rfl) ?_
      refine va_get (D := D) (ci := 7) (v := .ref (b 17)) (C := RX7) (T := TX7) (N := 24) hx hb hts hinX7 hown hK hP 0 rfl rfl 17 (by decide) (hts (.fieldLink RX7 37 "DancedLockModel" "kind" "[I") (List.mem_of_getElem? (i := 1) rfl)) (fun _ h9 => h9) rfl dX7_lead_30 ?_
      refine lv_iload_n hx hb dX7_lead_33 rfl (lv_at hl 1 rfl) ?_
      refine w_iald (f := v 17) hx hb hK hP 10 0 rfl rfl (i := j_2) (by omega) (by decide) dX7_lead_34 ?_
      refine lv_iconst (v := nI (2)) hx hb dX7_lead_35 (by decide) ?_
      refine w_icmp_ne (x := v 17 j_2) (y := 2) hx hb dX7_lead_36 (tgt := 44) (by decide) (by omega) (by omega) (fun c36 => ?_) (fun c36 => ?_)
      · skip
        refine lv_iload_n hx hb dX7_lead_44 rfl (lv_at hl 1 rfl) ?_
        exact hret (nI (j_2)) (v, va_up c 1 (va_up (c 1) 0 ((nI (31)) * ((c 1 0)) + (nI (5))))) _ _ 45 _ dX7_lead_45 rfl (by first | exact absurd c18 c36 | exact absurd c36 c18 | exact ⟨hI, Or.inr ⟨j_2, h_2, rfl, Or.inr ⟨c36, rfl, rfl⟩, rfl, rfl, rfl, rfl, rfl, rfl, rfl, rfl, rfl, rfl, rfl, rfl, rfl⟩⟩) hP hD hS
      · skip
        refine lv_bipush (v := nI (60)) hx hb dX7_lead_39 (by decide) ?_
        refine lv_goto (tgt := 45) hx hb dX7_lead_41 (by decide) ?_
        exact hret (nI (60)) (v, va_up c 1 (va_up (c 1) 0 ((nI (31)) * ((c 1 0)) + (nI (5))))) _ _ 45 _ dX7_lead_45 rfl (by first | exact absurd c18 c36 | exact absurd c36 c18 | exact ⟨hI, Or.inr ⟨j_2, h_2, rfl, Or.inl ⟨c36, rfl, rfl⟩, rfl, rfl, rfl, rfl, rfl, rfl, rfl, rfl, rfl, rfl, rfl, rfl, rfl⟩⟩) hP hD hS
  · skip
    have hP : va_P D vwCl (mW b cI cJ cZ v c) H := hP
    have hD : va_D A (mW b cI cJ cZ v c) := hD
    refine w_if_ne (x := 0) hx hb dX7_lead_5 (tgt := 10) (by decide) (by decide) (fun h => absurd h (by decide)) (fun _ => ?_)
    refine lv_iconst (v := -1) hx hb dX7_lead_8 (by decide) ?_
    exact hret ((-1)) (v, c) _ _ 9 _ dX7_lead_9 rfl (by exact ⟨hI, Or.inl ⟨nR_of (n := v 16 0) (by omega) h_2, rfl, rfl, rfl, rfl, rfl, rfl, rfl, rfl, rfl, rfl, rfl, rfl, rfl, rfl, rfl⟩⟩) hP hD hS
