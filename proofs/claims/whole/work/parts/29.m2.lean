/-! ===== the model's calls that only read ===== -/
theorem nR3 {x : Int32} (h0 : ¬ x = 0) (h1 : ¬ x = nI 1) (h2 : ¬ x = nI 2) : nR x 3 := by
  rintro ⟨j, hj, e⟩
  rcases (show j = 0 ∨ j = 1 ∨ j = 2 by omega) with rfl | rfl | rfl
  · exact h0 (e.trans rfl)
  · exact h1 e
  · exact h2 e
theorem nR4 {x : Int32} (h0 : ¬ x = 0) (h1 : ¬ x = nI 1) (h2 : ¬ x = nI 2) (h3 : ¬ x = nI 3) : nR x 4 := by
  rintro ⟨j, hj, e⟩
  rcases (show j = 0 ∨ j = 1 ∨ j = 2 ∨ j = 3 by omega) with rfl | rfl | rfl | rfl
  · exact h0 (e.trans rfl)
  · exact h1 e
  · exact h2 e
  · exact h3 e
theorem nb_t {P : Nat → Prop} {i j : Nat} (h : ∀ b, b < j → i ≠ b → ¬ P b) (hj : i ≠ j → ¬ P j) : ∀ b, b < j + 1 → i ≠ b → ¬ P b := by
  intro b hb hn
  by_cases e : b = j
  · subst e; exact hj hn
  · exact h b (by omega) hn
theorem nb_s {P : Nat → Nat → Prop} {i j n : Nat} (e : n ≤ j) (h : ∀ a b, a < i → b < n → a ≠ b → ¬ P a b) (hj : ∀ b, b < j → i ≠ b → ¬ P i b) : ∀ a b, a < i + 1 → b < n → a ≠ b → ¬ P a b := by
  intro a b ha hb hn
  by_cases e1 : a = i
  · subst e1; exact hj b (by omega) hn
  · exact h a b (by omega) hb hn
theorem lrn_s {f : Nat → Nat} {s n : Nat} : lrn f s (n + 1) = max (lrn f s n) (pc (s - (s &&& f n))) := rfl
set_option maxHeartbeats 4000000 in
set_option maxRecDepth 100000 in
theorem s_board (l : Launch) (D : va_G) (b : Nat → Nat) (cI cJ cZ : ClassId) (A : Nat → Prop) (v : Nat → Nat → Nat) (c : Nat → Nat → Int32) (x : Int32) (hI : MI v c) :
    mI l yX7_board wsX7_board 1 21 [.ref (b 0), .int x] D (xT cI cJ cZ) A (mW b cI cJ cZ v c) (fun _ : Unit => mW b cI cJ cZ v c)
    (fun (r : Int32) (u : Unit) => sp_board (v 5 0) (v 7) x r) := by
  refine w_bI cX7_board 2 .int (by decide) rfl (Nat.le_of_ble_eq_true rfl) (Or.inl rfl) ?_
  intro p e s m args below meth c0 ls Q hx hb hml hts hown hK hN hA hret hP hD hS hl
  have hl : lv_has ls 2 [(0, .ref (b 0)), (1, .int x)] := hl
  have hinX7 : ∀ w ∈ wsX70, w ∈ wsX7_board := fun w h => List.mem_cons_of_mem _ (List.mem_append_right _ h)
  obtain ⟨hnb, hnd, hbt, hfg, hne, hnc, hdk, hnf, hkn, hln, hst, hdc, hsp⟩ := MI_o hI
  refine lv_aload_n hx hb dX7_board_0 rfl (lv_at hl 0 rfl) ?_
  refine lv_iload_n hx hb dX7_board_1 rfl (lv_at hl 1 rfl) ?_
  refine w_cVi (rest := []) hx hb hml hown hts (m_isBoard_R l D b cI cJ cZ A v c x  (by first | assumption | omega)) 1 gX7_board_X7_isBoard rfl hdX7_isBoard ⟨Nat.le_of_ble_eq_true rfl, Nat.le_of_ble_eq_true rfl⟩ hK hN hP hD hS hA 0 7 rfl rfl rfl rfl hl.1 rfl (Nat.le_of_ble_eq_true rfl) dX7_board_2 ⟨Nat.le_of_ble_eq_true rfl, Nat.le_of_ble_eq_true rfl⟩ (fun r u H locs hq hP hD hS => ?_)
  rcases hq with ⟨j_2, rfl, h_2, hs_x_2⟩ | ⟨rfl, h_2⟩
  · skip
    have hP : va_P D vwCl (mW b cI cJ cZ v c) H := hP
    have hD : va_D A (mW b cI cJ cZ v c) := hD
    subst hs_x_2
    have j_2T := n_tI (k := j_2) (by omega)
    refine w_if_eq (x := 1) hx hb dX7_board_5 (tgt := 17) (by decide) (by decide) (fun h => absurd h (by decide)) (fun _ => ?_)
    refine lv_aload_n hx hb dX7_board_8 rfl (lv_at hl 0 rfl) ?_
    refine va_get (D := D) (ci := 7) (v := .ref (b 7)) (C := RX7) (T := TX7) (N := 24) hx hb hts hinX7 hown hK hP 0 rfl rfl 7 (by decide) (hts (.fieldLink RX7 19 "DancedLockModel" "feltFrom" "[I") (List.mem_of_getElem? (i := 1) rfl)) (fun _ h9 => h9) rfl dX7_board_9 ?_
    refine lv_iload_n hx hb dX7_board_12 rfl (lv_at hl 1 rfl) ?_
    refine w_iald (f := v 7) hx hb hK hP 4 0 rfl rfl (i := j_2) (by omega) (by decide) dX7_board_13 ?_
    refine lv_goto (tgt := 18) hx hb dX7_board_14 (by decide) ?_
    exact hret (nI (v 7 j_2)) () _ _ 18 _ dX7_board_18 rfl (by exact Or.inl ⟨j_2, h_2, rfl, rfl⟩) hP hD hS
  · skip
    have hP : va_P D vwCl (mW b cI cJ cZ v c) H := hP
    have hD : va_D A (mW b cI cJ cZ v c) := hD
    refine w_if_eq (x := 0) hx hb dX7_board_5 (tgt := 17) (by decide) (by decide) (fun _ => ?_) (fun h => absurd h (by decide))
    refine lv_iconst (v := -1) hx hb dX7_board_17 (by decide) ?_
    exact hret ((-1)) () _ _ 18 _ dX7_board_18 rfl (by exact Or.inr ⟨nR_of (by omega) h_2, rfl⟩) hP hD hS

set_option maxHeartbeats 4000000 in
set_option maxRecDepth 100000 in
theorem s_beat (l : Launch) (D : va_G) (b : Nat → Nat) (cI cJ cZ : ClassId) (A : Nat → Prop) (v : Nat → Nat → Nat) (c : Nat → Nat → Int32) (x : Int32) (y : Int32) (hI : MI v c) :
    mI l yX7_beat wsX7_beat 2 43 [.ref (b 0), .int x, .int y] D (xT cI cJ cZ) A (mW b cI cJ cZ v c) (fun _ : Unit => mW b cI cJ cZ v c)
    (fun (r : Int32) (u : Unit) => sp_beat (v 6 0) (v 8) (fun d k => v 9 (d * 6 + k)) x y r) := by
  refine w_bI cX7_beat 3 .int (by decide) rfl (Nat.le_of_ble_eq_true rfl) (Or.inl rfl) ?_
  intro p e s m args below meth c0 ls Q hx hb hml hts hown hK hN hA hret hP hD hS hl
  have hl : lv_has ls 3 [(0, .ref (b 0)), (1, .int x), (2, .int y)] := hl
  have hinX7 : ∀ w ∈ wsX70, w ∈ wsX7_beat := fun w h => List.mem_cons_of_mem _ (List.mem_append_right _ h)
  obtain ⟨hnb, hnd, hbt, hfg, hne, hnc, hdk, hnf, hkn, hln, hst, hdc, hsp⟩ := MI_o hI
  refine lv_aload_n hx hb dX7_beat_0 rfl (lv_at hl 0 rfl) ?_
  refine lv_iload_n hx hb dX7_beat_1 rfl (lv_at hl 1 rfl) ?_
  refine w_cVi (rest := []) hx hb hml hown hts (m_isDoor_R l D b cI cJ cZ A v c x  (by first | assumption | omega)) 1 gX7_beat_X7_isDoor rfl hdX7_isDoor ⟨Nat.le_of_ble_eq_true rfl, Nat.le_of_ble_eq_true rfl⟩ hK hN hP hD hS hA 0 7 rfl rfl rfl rfl hl.1 rfl (Nat.le_of_ble_eq_true rfl) dX7_beat_2 ⟨Nat.le_of_ble_eq_true rfl, Nat.le_of_ble_eq_true rfl⟩ (fun r u H locs hq hP hD hS => ?_)
  rcases hq with ⟨j_2, rfl, h_2, hs_x_2⟩ | ⟨rfl, h_2⟩
  · skip
    have hP : va_P D vwCl (mW b cI cJ cZ v c) H := hP
    have hD : va_D A (mW b cI cJ cZ v c) := hD
    subst hs_x_2
    have j_2T := n_tI (k := j_2) (by omega)
    refine w_if_eq (x := 1) hx hb dX7_beat_5 (tgt := 22) (by decide) (by decide) (fun h => absurd h (by decide)) (fun _ => ?_)
    refine lv_iload_n hx hb dX7_beat_8 rfl (lv_at hl 2 rfl) ?_
    refine lv_iconst (v := -1) hx hb dX7_beat_9 (by decide) ?_
    refine lv_icmp_eq (x := y) (y := (-1)) hx hb dX7_beat_10 (tgt := 24) (by decide) (fun c10 => ?_) (fun c10 => ?_)
    · skip
      have hbd := hbt _ h_2
      refine lv_iload_n hx hb dX7_beat_24 rfl (lv_at hl 2 rfl) ?_
      refine lv_iconst (v := -1) hx hb dX7_beat_25 (by decide) ?_
      refine lv_icmp_ne (x := y) (y := (-1)) hx hb dX7_beat_26 (tgt := 38) (by decide) (fun c26 => absurd c26 (by exact fun z9 => z9 c10)) (fun c26 => ?_)
      refine lv_aload_n hx hb dX7_beat_29 rfl (lv_at hl 0 rfl) ?_
      refine va_get (D := D) (ci := 7) (v := .ref (b 8)) (C := RX7) (T := TX7) (N := 24) hx hb hts hinX7 hown hK hP 0 rfl rfl 8 (by decide) (hts (.fieldLink RX7 22 "DancedLockModel" "beats" "[I") (List.mem_of_getElem? (i := 1) rfl)) (fun _ h9 => h9) rfl dX7_beat_30 ?_
      refine lv_iload_n hx hb dX7_beat_33 rfl (lv_at hl 1 rfl) ?_
      refine w_iald (f := v 8) hx hb hK hP 5 0 rfl rfl (i := j_2) (by omega) (by decide) dX7_beat_34 ?_
      refine lv_goto (tgt := 48) hx hb dX7_beat_35 (by decide) ?_
      exact hret (nI (v 8 j_2)) () _ _ 48 _ dX7_beat_48 rfl (by exact Or.inl ⟨j_2, h_2, rfl, Or.inl ⟨c10, rfl⟩⟩) hP hD hS
    · skip
      refine lv_aload_n hx hb dX7_beat_13 rfl (lv_at hl 0 rfl) ?_
      refine lv_iload_n hx hb dX7_beat_14 rfl (lv_at hl 1 rfl) ?_
      refine lv_iload_n hx hb dX7_beat_15 rfl (lv_at hl 2 rfl) ?_
      refine w_cVi (rest := []) hx hb hml hown hts (m_isBeat_NR l D b cI cJ cZ A v c j_2 y  (by first | assumption | omega) (by first | assumption | omega)) 2 gX7_beat_X7_isBeat rfl hdX7_isBeat ⟨Nat.le_of_ble_eq_true rfl, Nat.le_of_ble_eq_true rfl⟩ hK hN hP hD hS hA 0 7 rfl rfl rfl rfl hl.1 rfl (Nat.le_of_ble_eq_true rfl) dX7_beat_16 ⟨Nat.le_of_ble_eq_true rfl, Nat.le_of_ble_eq_true rfl⟩ (fun r u H locs hq hP hD hS => ?_)
      rcases hq with ⟨j_16, rfl, hj_16, hs_k_16⟩ | ⟨rfl, hk_16⟩
      · skip
        have hP : va_P D vwCl (mW b cI cJ cZ v c) H := hP
        have hD : va_D A (mW b cI cJ cZ v c) := hD
        subst hs_k_16
        have j_16T := n_tI (k := j_16) (by have h9 := hbt _ h_2; omega)
        refine w_if_ne (x := 1) hx hb dX7_beat_19 (tgt := 24) (by decide) (by decide) (fun _ => ?_) (fun h => absurd h (by decide))
        have hbd := hbt _ h_2
        refine lv_iload_n hx hb dX7_beat_24 rfl (lv_at hl 2 rfl) ?_
        refine lv_iconst (v := -1) hx hb dX7_beat_25 (by decide) ?_
        refine lv_icmp_ne hx hb dX7_beat_26 (tgt := 38) (by decide) (fun _ => ?_) (fun h => absurd h (n_neg (by omega) (by decide)))
        refine lv_aload_n hx hb dX7_beat_38 rfl (lv_at hl 0 rfl) ?_
        refine va_get (D := D) (ci := 7) (v := .ref (b 9)) (C := RX7) (T := TX7) (N := 24) hx hb hts hinX7 hown hK hP 0 rfl rfl 9 (by decide) (hts (.fieldLink RX7 25 "DancedLockModel" "figure" "[I") (List.mem_of_getElem? (i := 2) rfl)) (fun _ h9 => h9) rfl dX7_beat_39 ?_
        refine lv_iload_n hx hb dX7_beat_42 rfl (lv_at hl 1 rfl) ?_
        refine lv_iload_n hx hb dX7_beat_43 rfl (lv_at hl 2 rfl) ?_
        refine w_cSi (rest := [.ref (b 9)]) hx hb hml hown hts (m_spot l D b cI cJ cZ A v c j_2 j_16  ) 2 gX7_beat_X7_spot rfl hdX7_spot ⟨Nat.le_of_ble_eq_true rfl, Nat.le_of_ble_eq_true rfl⟩ hK hN hP hD hS hA rfl hl.1 rfl (Nat.le_of_ble_eq_true rfl) dX7_beat_44 ⟨Nat.le_of_ble_eq_true rfl, Nat.le_of_ble_eq_true rfl⟩ (fun r u H locs hq hP hD hS => ?_)
        obtain rfl := hq
        have hP : va_P D vwCl (mW b cI cJ cZ v c) H := hP
        have hD : va_D A (mW b cI cJ cZ v c) := hD
        refine w_iald (f := v 9) hx hb hK hP 6 0 rfl rfl (i := j_2 * 6 + j_16) (by omega) (by decide) dX7_beat_47 ?_
        exact hret (nI (v 9 (j_2 * 6 + j_16))) () _ _ 48 _ dX7_beat_48 rfl (by exact Or.inl ⟨j_2, h_2, rfl, Or.inr (Or.inl ⟨j_16, hj_16, rfl, rfl⟩)⟩) hP hD hS
      · skip
        have hP : va_P D vwCl (mW b cI cJ cZ v c) H := hP
        have hD : va_D A (mW b cI cJ cZ v c) := hD
        refine w_if_ne (x := 0) hx hb dX7_beat_19 (tgt := 24) (by decide) (by decide) (fun h => absurd h (by decide)) (fun _ => ?_)
        refine lv_iconst (v := -1) hx hb dX7_beat_22 (by decide) ?_
        exact hret ((-1)) () _ _ 23 _ dX7_beat_23 rfl (by first | exact Or.inr ⟨nR_of (by omega) h_2, rfl⟩ | exact Or.inl ⟨j_2, h_2, rfl, Or.inr (Or.inr ⟨c10, nR_of (by have h9 := hbt _ h_2; omega) hk_16, rfl⟩)⟩) hP hD hS
  · skip
    have hP : va_P D vwCl (mW b cI cJ cZ v c) H := hP
    have hD : va_D A (mW b cI cJ cZ v c) := hD
    refine w_if_eq (x := 0) hx hb dX7_beat_5 (tgt := 22) (by decide) (by decide) (fun _ => ?_) (fun h => absurd h (by decide))
    refine lv_iconst (v := -1) hx hb dX7_beat_22 (by decide) ?_
    exact hret ((-1)) () _ _ 23 _ dX7_beat_23 rfl (by first | exact Or.inr ⟨nR_of (by omega) h_2, rfl⟩ | exact Or.inl ⟨j_2, h_2, rfl, Or.inr (Or.inr ⟨c10, nR_of (by have h9 := hbt _ h_2; omega) hk_16, rfl⟩)⟩) hP hD hS

set_option maxHeartbeats 4000000 in
set_option maxRecDepth 100000 in
theorem s_ofDancer (l : Launch) (D : va_G) (b : Nat → Nat) (cI cJ cZ : ClassId) (A : Nat → Prop) (v : Nat → Nat → Nat) (c : Nat → Nat → Int32) (x : Int32) (y : Int32) (hI : MI v c) :
    mI l yX7_ofDancer wsX7_ofDancer 1 21 [.ref (b 0), .int x, .int y] D (xT cI cJ cZ) A (mW b cI cJ cZ v c) (fun _ : Unit => mW b cI cJ cZ v c)
    (fun (r : Int32) (u : Unit) => sp_ofDancer (v 16 0) (v 17) (v 18) x y r) := by
  refine w_bI cX7_ofDancer 3 .int (by decide) rfl (Nat.le_of_ble_eq_true rfl) (Or.inl rfl) ?_
  intro p e s m args below meth c0 ls Q hx hb hml hts hown hK hN hA hret hP hD hS hl
  have hl : lv_has ls 3 [(0, .ref (b 0)), (1, .int x), (2, .int y)] := hl
  have hinX7 : ∀ w ∈ wsX70, w ∈ wsX7_ofDancer := fun w h => List.mem_cons_of_mem _ (List.mem_append_right _ h)
  obtain ⟨hnb, hnd, hbt, hfg, hne, hnc, hdk, hnf, hkn, hln, hst, hdc, hsp⟩ := MI_o hI
  refine lv_aload_n hx hb dX7_ofDancer_0 rfl (lv_at hl 0 rfl) ?_
  refine lv_iload_n hx hb dX7_ofDancer_1 rfl (lv_at hl 1 rfl) ?_
  refine w_cVi (rest := []) hx hb hml hown hts (m_isDancer_R l D b cI cJ cZ A v c x  (by first | assumption | omega)) 1 gX7_ofDancer_X7_isDancer rfl hdX7_isDancer ⟨Nat.le_of_ble_eq_true rfl, Nat.le_of_ble_eq_true rfl⟩ hK hN hP hD hS hA 0 7 rfl rfl rfl rfl hl.1 rfl (Nat.le_of_ble_eq_true rfl) dX7_ofDancer_2 ⟨Nat.le_of_ble_eq_true rfl, Nat.le_of_ble_eq_true rfl⟩ (fun r u H locs hq hP hD hS => ?_)
  rcases hq with ⟨j_2, rfl, h_2, hs_x_2⟩ | ⟨rfl, h_2⟩
  · skip
    have hP : va_P D vwCl (mW b cI cJ cZ v c) H := hP
    have hD : va_D A (mW b cI cJ cZ v c) := hD
    subst hs_x_2
    have j_2T := n_tI (k := j_2) (by omega)
    refine w_if_ne (x := 1) hx hb dX7_ofDancer_5 (tgt := 10) (by decide) (by decide) (fun _ => ?_) (fun h => absurd h (by decide))
    refine lv_iload_n hx hb dX7_ofDancer_10 rfl (lv_at hl 2 rfl) ?_
    refine lv_if_ne hx hb dX7_ofDancer_11 (tgt := 23) (by decide) (fun c11 => ?_) (fun c11 => ?_)
    · skip
      refine lv_iload_n hx hb dX7_ofDancer_23 rfl (lv_at hl 2 rfl) ?_
      refine lv_iconst (v := nI (1)) hx hb dX7_ofDancer_24 (by decide) ?_
      refine lv_icmp_ne (x := y) (y := nI (1)) hx hb dX7_ofDancer_25 (tgt := 37) (by decide) (fun c25 => ?_) (fun c25 => ?_)
      · skip
        refine lv_iload_n hx hb dX7_ofDancer_37 rfl (lv_at hl 2 rfl) ?_
        refine lv_iconst (v := nI (2)) hx hb dX7_ofDancer_38 (by decide) ?_
        refine lv_icmp_ne (x := y) (y := nI (2)) hx hb dX7_ofDancer_39 (tgt := 50) (by decide) (fun c39 => ?_) (fun c39 => ?_)
        · skip
          refine lv_bipush (v := -2) hx hb dX7_ofDancer_50 (by decide) ?_
          exact hret ((-2)) () _ _ 52 _ dX7_ofDancer_52 rfl (by exact Or.inl ⟨j_2, h_2, rfl, Or.inr (Or.inr (Or.inr ⟨nR3 c11 c25 c39, rfl⟩))⟩) hP hD hS
        · skip
          refine lv_aload_n hx hb dX7_ofDancer_42 rfl (lv_at hl 0 rfl) ?_
          refine lv_iload_n hx hb dX7_ofDancer_43 rfl (lv_at hl 1 rfl) ?_
          refine w_cVi (rest := []) hx hb hml hown hts (m_weighs l D b cI cJ cZ A v c j_2  (by first | assumption | omega) (by first | assumption | omega)) 1 gX7_ofDancer_X7_weighs rfl hdX7_weighs ⟨Nat.le_of_ble_eq_true rfl, Nat.le_of_ble_eq_true rfl⟩ hK hN hP hD hS hA 0 7 rfl rfl rfl rfl hl.1 rfl (Nat.le_of_ble_eq_true rfl) dX7_ofDancer_44 ⟨Nat.le_of_ble_eq_true rfl, Nat.le_of_ble_eq_true rfl⟩ (fun r u H locs hq hP hD hS => ?_)
          obtain rfl := hq
          have hP : va_P D vwCl (mW b cI cJ cZ v c) H := hP
          have hD : va_D A (mW b cI cJ cZ v c) := hD
          refine lv_goto (tgt := 52) hx hb dX7_ofDancer_47 (by decide) ?_
          exact hret (nI (pA ((v 17)) ((v 18)) j_2)) () _ _ 52 _ dX7_ofDancer_52 rfl (by exact Or.inl ⟨j_2, h_2, rfl, Or.inr (Or.inr (Or.inl ⟨c39, rfl⟩))⟩) hP hD hS
      · skip
        refine lv_aload_n hx hb dX7_ofDancer_28 rfl (lv_at hl 0 rfl) ?_
        refine va_get (D := D) (ci := 7) (v := .ref (b 18)) (C := RX7) (T := TX7) (N := 24) hx hb hts hinX7 hown hK hP 0 rfl rfl 18 (by decide) (hts (.fieldLink RX7 40 "DancedLockModel" "weight" "[I") (List.mem_of_getElem? (i := 2) rfl)) (fun _ h9 => h9) rfl dX7_ofDancer_29 ?_
        refine lv_iload_n hx hb dX7_ofDancer_32 rfl (lv_at hl 1 rfl) ?_
        refine w_iald (f := v 18) hx hb hK hP 11 0 rfl rfl (i := j_2) (by omega) (by decide) dX7_ofDancer_33 ?_
        refine lv_goto (tgt := 52) hx hb dX7_ofDancer_34 (by decide) ?_
        exact hret (nI (v 18 j_2)) () _ _ 52 _ dX7_ofDancer_52 rfl (by exact Or.inl ⟨j_2, h_2, rfl, Or.inr (Or.inl ⟨c25, rfl⟩)⟩) hP hD hS
    · skip
      refine lv_aload_n hx hb dX7_ofDancer_14 rfl (lv_at hl 0 rfl) ?_
      refine va_get (D := D) (ci := 7) (v := .ref (b 17)) (C := RX7) (T := TX7) (N := 24) hx hb hts hinX7 hown hK hP 0 rfl rfl 17 (by decide) (hts (.fieldLink RX7 37 "DancedLockModel" "kind" "[I") (List.mem_of_getElem? (i := 1) rfl)) (fun _ h9 => h9) rfl dX7_ofDancer_15 ?_
      refine lv_iload_n hx hb dX7_ofDancer_18 rfl (lv_at hl 1 rfl) ?_
      refine w_iald (f := v 17) hx hb hK hP 10 0 rfl rfl (i := j_2) (by omega) (by decide) dX7_ofDancer_19 ?_
      refine lv_goto (tgt := 52) hx hb dX7_ofDancer_20 (by decide) ?_
      exact hret (nI (v 17 j_2)) () _ _ 52 _ dX7_ofDancer_52 rfl (by exact Or.inl ⟨j_2, h_2, rfl, Or.inl ⟨c11.trans rfl, rfl⟩⟩) hP hD hS
  · skip
    have hP : va_P D vwCl (mW b cI cJ cZ v c) H := hP
    have hD : va_D A (mW b cI cJ cZ v c) := hD
    refine w_if_ne (x := 0) hx hb dX7_ofDancer_5 (tgt := 10) (by decide) (by decide) (fun h => absurd h (by decide)) (fun _ => ?_)
    refine lv_iconst (v := -1) hx hb dX7_ofDancer_8 (by decide) ?_
    exact hret ((-1)) () _ _ 9 _ dX7_ofDancer_9 rfl (by exact Or.inr ⟨nR_of (by omega) h_2, rfl⟩) hP hD hS

set_option maxHeartbeats 4000000 in
set_option maxRecDepth 100000 in
theorem s_many (l : Launch) (D : va_G) (b : Nat → Nat) (cI cJ cZ : ClassId) (A : Nat → Prop) (v : Nat → Nat → Nat) (c : Nat → Nat → Int32) (x : Int32) (hI : MI v c) :
    mI l yX7_many wsX7_many 0 0 [.ref (b 0), .int x] D (xT cI cJ cZ) A (mW b cI cJ cZ v c) (fun _ : Unit => mW b cI cJ cZ v c)
    (fun (r : Int32) (u : Unit) => sp_many (v 5 0) (v 6 0) (v 16 0) (v 22 0) x r) := by
  refine w_bI cX7_many 2 .int (by decide) rfl (Nat.le_of_ble_eq_true rfl) (Or.inl rfl) ?_
  intro p e s m args below meth c0 ls Q hx hb hml hts hown hK hN hA hret hP hD hS hl
  have hl : lv_has ls 2 [(0, .ref (b 0)), (1, .int x)] := hl
  have hinX7 : ∀ w ∈ wsX70, w ∈ wsX7_many := fun w h => List.mem_cons_of_mem _ (List.mem_append_right _ h)
  obtain ⟨hnb, hnd, hbt, hfg, hne, hnc, hdk, hnf, hkn, hln, hst, hdc, hsp⟩ := MI_o hI
  refine lv_iload_n hx hb dX7_many_0 rfl (lv_at hl 1 rfl) ?_
  refine lv_if_ne hx hb dX7_many_1 (tgt := 11) (by decide) (fun c1 => ?_) (fun c1 => ?_)
  · skip
    refine lv_iload_n hx hb dX7_many_11 rfl (lv_at hl 1 rfl) ?_
    refine lv_iconst (v := nI (1)) hx hb dX7_many_12 (by decide) ?_
    refine lv_icmp_ne (x := x) (y := nI (1)) hx hb dX7_many_13 (tgt := 23) (by decide) (fun c13 => ?_) (fun c13 => ?_)
    · skip
      refine lv_iload_n hx hb dX7_many_23 rfl (lv_at hl 1 rfl) ?_
      refine lv_iconst (v := nI (2)) hx hb dX7_many_24 (by decide) ?_
      refine lv_icmp_ne (x := x) (y := nI (2)) hx hb dX7_many_25 (tgt := 35) (by decide) (fun c25 => ?_) (fun c25 => ?_)
      · skip
        refine lv_iload_n hx hb dX7_many_35 rfl (lv_at hl 1 rfl) ?_
        refine lv_iconst (v := nI (3)) hx hb dX7_many_36 (by decide) ?_
        refine lv_icmp_ne (x := x) (y := nI (3)) hx hb dX7_many_37 (tgt := 47) (by decide) (fun c37 => ?_) (fun c37 => ?_)
        · skip
          refine lv_bipush (v := -2) hx hb dX7_many_47 (by decide) ?_
          exact hret ((-2)) () _ _ 49 _ dX7_many_49 rfl (by exact Or.inr (Or.inr (Or.inr (Or.inr ⟨nR4 c1 c13 c25 c37, rfl⟩)))) hP hD hS
        · skip
          refine lv_aload_n hx hb dX7_many_40 rfl (lv_at hl 0 rfl) ?_
          refine va_get (D := D) (ci := 7) (v := .int (nI (v 22 0))) (C := RX7) (T := TX7) (N := 24) hx hb hts hinX7 hown hK hP 0 rfl rfl 22 (by decide) (hts (.fieldLink RX7 106 "DancedLockModel" "families" "I") (List.mem_of_getElem? (i := 4) rfl)) (fun _ h9 => h9) rfl dX7_many_41 ?_
          refine lv_goto (tgt := 49) hx hb dX7_many_44 (by decide) ?_
          exact hret (nI (v 22 0)) () _ _ 49 _ dX7_many_49 rfl (by exact Or.inr (Or.inr (Or.inr (Or.inl ⟨c37, rfl⟩)))) hP hD hS
      · skip
        refine lv_aload_n hx hb dX7_many_28 rfl (lv_at hl 0 rfl) ?_
        refine va_get (D := D) (ci := 7) (v := .int (nI (v 16 0))) (C := RX7) (T := TX7) (N := 24) hx hb hts hinX7 hown hK hP 0 rfl rfl 16 (by decide) (hts (.fieldLink RX7 103 "DancedLockModel" "dancers" "I") (List.mem_of_getElem? (i := 3) rfl)) (fun _ h9 => h9) rfl dX7_many_29 ?_
        refine lv_goto (tgt := 49) hx hb dX7_many_32 (by decide) ?_
        exact hret (nI (v 16 0)) () _ _ 49 _ dX7_many_49 rfl (by exact Or.inr (Or.inr (Or.inl ⟨c25, rfl⟩))) hP hD hS
    · skip
      refine lv_aload_n hx hb dX7_many_16 rfl (lv_at hl 0 rfl) ?_
      refine va_get (D := D) (ci := 7) (v := .int (nI (v 6 0))) (C := RX7) (T := TX7) (N := 24) hx hb hts hinX7 hown hK hP 0 rfl rfl 6 (by decide) (hts (.fieldLink RX7 66 "DancedLockModel" "doors" "I") (List.mem_of_getElem? (i := 2) rfl)) (fun _ h9 => h9) rfl dX7_many_17 ?_
      refine lv_goto (tgt := 49) hx hb dX7_many_20 (by decide) ?_
      exact hret (nI (v 6 0)) () _ _ 49 _ dX7_many_49 rfl (by exact Or.inr (Or.inl ⟨c13, rfl⟩)) hP hD hS
  · skip
    refine lv_aload_n hx hb dX7_many_4 rfl (lv_at hl 0 rfl) ?_
    refine va_get (D := D) (ci := 7) (v := .int (nI (v 5 0))) (C := RX7) (T := TX7) (N := 24) hx hb hts hinX7 hown hK hP 0 rfl rfl 5 (by decide) (hts (.fieldLink RX7 63 "DancedLockModel" "boards" "I") (List.mem_of_getElem? (i := 1) rfl)) (fun _ h9 => h9) rfl dX7_many_5 ?_
    refine lv_goto (tgt := 49) hx hb dX7_many_8 (by decide) ?_
    exact hret (nI (v 5 0)) () _ _ 49 _ dX7_many_49 rfl (by exact Or.inl ⟨c1.trans rfl, rfl⟩) hP hD hS

set_option maxHeartbeats 4000000 in
set_option maxRecDepth 100000 in
theorem s_knows (l : Launch) (D : va_G) (b : Nat → Nat) (cI cJ cZ : ClassId) (A : Nat → Prop) (v : Nat → Nat → Nat) (c : Nat → Nat → Int32) (x : Int32) (hI : MI v c) :
    mI l yX7_knows wsX7_knows 0 0 [.ref (b 0), .int x] D (xT cI cJ cZ) A (mW b cI cJ cZ v c) (fun _ : Unit => mW b cI cJ cZ v c)
    (fun (r : Int32) (u : Unit) => sp_board (v 22 0) (v 23) x r) := by
  refine w_bI cX7_knows 2 .int (by decide) rfl (Nat.le_of_ble_eq_true rfl) (Or.inl rfl) ?_
  intro p e s m args below meth c0 ls Q hx hb hml hts hown hK hN hA hret hP hD hS hl
  have hl : lv_has ls 2 [(0, .ref (b 0)), (1, .int x)] := hl
  have hinX7 : ∀ w ∈ wsX70, w ∈ wsX7_knows := fun w h => List.mem_cons_of_mem _ (List.mem_append_right _ h)
  obtain ⟨hnb, hnd, hbt, hfg, hne, hnc, hdk, hnf, hkn, hln, hst, hdc, hsp⟩ := MI_o hI
  refine lv_iload_n hx hb dX7_knows_0 rfl (lv_at hl 1 rfl) ?_
  refine r_if_lt hx hb dX7_knows_1 (tgt := 21) (by decide) (fun c1 => ?_) (fun c1 => ?_)
  · skip
    refine lv_iconst (v := -1) hx hb dX7_knows_21 (by decide) ?_
    exact hret ((-1)) () _ _ 22 _ dX7_knows_22 rfl (by exact Or.inr ⟨nR_of (by omega) (by omega), rfl⟩) hP hD hS
  · skip
    obtain ⟨x', x'B, rfl⟩ := r_nat c1
    have x'T := n_tI x'B
    refine lv_iload_n hx hb dX7_knows_4 rfl (lv_at hl 1 rfl) ?_
    refine lv_aload_n hx hb dX7_knows_5 rfl (lv_at hl 0 rfl) ?_
    refine va_get (D := D) (ci := 7) (v := .int (nI (v 22 0))) (C := RX7) (T := TX7) (N := 24) hx hb hts hinX7 hown hK hP 0 rfl rfl 22 (by decide) (hts (.fieldLink RX7 106 "DancedLockModel" "families" "I") (List.mem_of_getElem? (i := 1) rfl)) (fun _ h9 => h9) rfl dX7_knows_6 ?_
    refine w_icmp_ge (x := x') (y := v 22 0) hx hb dX7_knows_9 (tgt := 21) (by decide) (by omega) (by omega) (fun c9 => ?_) (fun c9 => ?_)
    · skip
      refine lv_iconst (v := -1) hx hb dX7_knows_21 (by decide) ?_
      exact hret ((-1)) () _ _ 22 _ dX7_knows_22 rfl (by exact Or.inr ⟨nR_of (by omega) (by omega), rfl⟩) hP hD hS
    · skip
      refine lv_aload_n hx hb dX7_knows_12 rfl (lv_at hl 0 rfl) ?_
      refine va_get (D := D) (ci := 7) (v := .ref (b 23)) (C := RX7) (T := TX7) (N := 24) hx hb hts hinX7 hown hK hP 0 rfl rfl 23 (by decide) (hts (.fieldLink RX7 50 "DancedLockModel" "knows" "[I") (List.mem_of_getElem? (i := 2) rfl)) (fun _ h9 => h9) rfl dX7_knows_13 ?_
      refine lv_iload_n hx hb dX7_knows_16 rfl (lv_at hl 1 rfl) ?_
      refine w_iald (f := v 23) hx hb hK hP 14 0 rfl rfl (i := x') (by omega) (by decide) dX7_knows_17 ?_
      refine lv_goto (tgt := 22) hx hb dX7_knows_18 (by decide) ?_
      exact hret (nI (v 23 x')) () _ _ 22 _ dX7_knows_22 rfl (by exact Or.inl ⟨x', by omega, rfl, rfl⟩) hP hD hS

set_option maxHeartbeats 4000000 in
set_option maxRecDepth 100000 in
theorem s_gone (l : Launch) (D : va_G) (b : Nat → Nat) (cI cJ cZ : ClassId) (A : Nat → Prop) (v : Nat → Nat → Nat) (c : Nat → Nat → Int32) (x : Int32) (y : Int32) (hI : MI v c) :
    mI l yX7_gone wsX7_gone 1 23 [.ref (b 0), .int x, .int y] D (xT cI cJ cZ) A (mW b cI cJ cZ v c) (fun _ : Unit => mW b cI cJ cZ v c)
    (fun (r : Int32) (u : Unit) => sp_gone (v 6 0) (v 8) (v 22 0) (v 23) x y r) := by
  refine w_bI cX7_gone 5 .int (by decide) rfl (Nat.le_of_ble_eq_true rfl) (Or.inl rfl) ?_
  intro p e s m args below meth c0 ls Q hx hb hml hts hown hK hN hA hret hP hD hS hl
  have hl : lv_has ls 5 [(0, .ref (b 0)), (1, .int x), (2, .int y)] := hl
  have hinX7 : ∀ w ∈ wsX70, w ∈ wsX7_gone := fun w h => List.mem_cons_of_mem _ (List.mem_append_right _ h)
  obtain ⟨hnb, hnd, hbt, hfg, hne, hnc, hdk, hnf, hkn, hln, hst, hdc, hsp⟩ := MI_o hI
  refine lv_aload_n hx hb dX7_gone_0 rfl (lv_at hl 0 rfl) ?_
  refine lv_iload_n hx hb dX7_gone_1 rfl (lv_at hl 1 rfl) ?_
  refine w_cVi (rest := []) hx hb hml hown hts (m_isDoor_R l D b cI cJ cZ A v c x  (by first | assumption | omega)) 1 gX7_gone_X7_isDoor rfl hdX7_isDoor ⟨Nat.le_of_ble_eq_true rfl, Nat.le_of_ble_eq_true rfl⟩ hK hN hP hD hS hA 0 7 rfl rfl rfl rfl hl.1 rfl (Nat.le_of_ble_eq_true rfl) dX7_gone_2 ⟨Nat.le_of_ble_eq_true rfl, Nat.le_of_ble_eq_true rfl⟩ (fun r u H locs hq hP hD hS => ?_)
  rcases hq with ⟨j_2, rfl, h_2, hs_x_2⟩ | ⟨rfl, h_2⟩
  · skip
    have hP : va_P D vwCl (mW b cI cJ cZ v c) H := hP
    have hD : va_D A (mW b cI cJ cZ v c) := hD
    subst hs_x_2
    have j_2T := n_tI (k := j_2) (by omega)
    refine w_if_ne (x := 1) hx hb dX7_gone_5 (tgt := 10) (by decide) (by decide) (fun _ => ?_) (fun h => absurd h (by decide))
    have hbd := hbt _ h_2
    have hq2 := bars_lt hbd.2 (show j_2 ≤ 3 by omega)
    have hp7 := pow_le_128 (show v 22 0 ≤ 7 by omega)
    have hp0 := Nat.two_pow_pos (v 22 0)
    refine lv_iload_n hx hb dX7_gone_10 rfl (lv_at hl 2 rfl) ?_
    refine lv_iconst (v := nI (0)) hx hb dX7_gone_11 (by decide) ?_
    refine lv_iconst (v := nI (1)) hx hb dX7_gone_12 (by decide) ?_
    refine lv_aload_n hx hb dX7_gone_13 rfl (lv_at hl 0 rfl) ?_
    refine va_get (D := D) (ci := 7) (v := .int (nI (v 22 0))) (C := RX7) (T := TX7) (N := 24) hx hb hts hinX7 hown hK hP 0 rfl rfl 22 (by decide) (hts (.fieldLink RX7 106 "DancedLockModel" "families" "I") (List.mem_of_getElem? (i := 1) rfl)) (fun _ h9 => h9) rfl dX7_gone_14 ?_
    refine w_ishl (x := 1) (y := v 22 0) hx hb dX7_gone_17 (by omega) (by omega) ?_
    refine lv_iconst (v := nI (1)) hx hb dX7_gone_18 (by decide) ?_
    refine w_isub (x := 1 * 2 ^ (v 22 0)) (y := 1) hx hb dX7_gone_19 (by omega) ?_
    refine w_cSi (rest := []) hx hb hml hown hts (m_within_N l D b cI cJ cZ A v c y 0 ((1 * 2 ^ (v 22 0)) - 1)  (by first | assumption | omega) (by first | assumption | omega)) 3 gX7_gone_X7_within rfl hdX7_within ⟨Nat.le_of_ble_eq_true rfl, Nat.le_of_ble_eq_true rfl⟩ hK hN hP hD hS hA rfl hl.1 rfl (Nat.le_of_ble_eq_true rfl) dX7_gone_20 ⟨Nat.le_of_ble_eq_true rfl, Nat.le_of_ble_eq_true rfl⟩ (fun r u H locs hq hP hD hS => ?_)
    rcases hq with ⟨j_20, rfl, h1_20, h_20, hs_x_20⟩ | ⟨rfl, h_20⟩
    · skip
      have hP : va_P D vwCl (mW b cI cJ cZ v c) H := hP
      have hD : va_D A (mW b cI cJ cZ v c) := hD
      subst hs_x_20
      have j_20T := n_tI (k := j_20) (by omega)
      refine w_if_ne (x := 1) hx hb dX7_gone_23 (tgt := 29) (by decide) (by decide) (fun _ => ?_) (fun h => absurd h (by decide))
      refine lv_iconst (v := nI (1)) hx hb dX7_gone_29 (by decide) ?_
      refine lv_aload_n hx hb dX7_gone_30 rfl (lv_at hl 0 rfl) ?_
      refine va_get (D := D) (ci := 7) (v := .int (nI (v 22 0))) (C := RX7) (T := TX7) (N := 24) hx hb hts hinX7 hown hK hP 0 rfl rfl 22 (by decide) (hts (.fieldLink RX7 106 "DancedLockModel" "families" "I") (List.mem_of_getElem? (i := 1) rfl)) (fun _ h9 => h9) rfl dX7_gone_31 ?_
      refine w_ishl (x := 1) (y := v 22 0) hx hb dX7_gone_34 (by omega) (by omega) ?_
      refine lv_iconst (v := nI (1)) hx hb dX7_gone_35 (by decide) ?_
      refine w_isub (x := 1 * 2 ^ (v 22 0)) (y := 1) hx hb dX7_gone_36 (by omega) ?_
      refine lv_iload_n hx hb dX7_gone_37 rfl (lv_at hl 2 rfl) ?_
      refine w_isub (x := (1 * 2 ^ (v 22 0)) - 1) (y := j_20) hx hb dX7_gone_38 (by omega) ?_
      rw [show (nI (((1 * 2 ^ (v 22 0)) - 1) - j_20)) = (nI (2 ^ v 22 0 - 1 - j_20)) from by rw [Nat.one_mul]]
      refine lv_istore_n (lv' := [(3, .int (nI (2 ^ v 22 0 - 1 - j_20))), (0, .ref (b 0)), (1, .int (nI (j_2))), (2, .int (nI (j_20)))]) hx hb dX7_gone_39 rfl hl (by decide) rfl (fun ls hl => ?_)
      refine lv_aload_n hx hb dX7_gone_40 rfl (lv_at hl 1 rfl) ?_
      refine lv_iload_n hx hb dX7_gone_41 rfl (lv_at hl 2 rfl) ?_
      refine w_cVi (rest := []) hx hb hml hown hts (m_barsOf l D b cI cJ cZ A v c j_2  (by first | assumption | omega) (by first | assumption | omega)) 1 gX7_gone_X7_barsOf rfl hdX7_barsOf ⟨Nat.le_of_ble_eq_true rfl, Nat.le_of_ble_eq_true rfl⟩ hK hN hP hD hS hA 0 7 rfl rfl rfl rfl hl.1 rfl (Nat.le_of_ble_eq_true rfl) dX7_gone_42 ⟨Nat.le_of_ble_eq_true rfl, Nat.le_of_ble_eq_true rfl⟩ (fun r u H locs hq hP hD hS => ?_)
      obtain rfl := hq
      have hP : va_P D vwCl (mW b cI cJ cZ v c) H := hP
      have hD : va_D A (mW b cI cJ cZ v c) := hD
      refine lv_aload_n hx hb dX7_gone_45 rfl (lv_at hl 1 rfl) ?_
      refine lv_iload_n hx hb dX7_gone_46 rfl (lv_at hl 0 rfl) ?_
      refine w_cVi (rest := [.int (nI ((2 ^ (v 8) j_2 - 1) * 2 ^ (j_2 * 6)))]) hx hb hml hown hts (m_known l D b cI cJ cZ A v c (2 ^ v 22 0 - 1 - j_20)  (by first | assumption | omega) (by first | assumption | omega)) 1 gX7_gone_X7_known rfl hdX7_known ⟨Nat.le_of_ble_eq_true rfl, Nat.le_of_ble_eq_true rfl⟩ hK hN hP hD hS hA 0 7 rfl rfl rfl rfl hl.1 rfl (Nat.le_of_ble_eq_true rfl) dX7_gone_47 ⟨Nat.le_of_ble_eq_true rfl, Nat.le_of_ble_eq_true rfl⟩ (fun r u H locs hq hP hD hS => ?_)
      obtain rfl := hq
      have hP : va_P D vwCl (mW b cI cJ cZ v c) H := hP
      have hD : va_D A (mW b cI cJ cZ v c) := hD
      refine lv_aload_n hx hb dX7_gone_50 rfl (lv_at hl 1 rfl) ?_
      refine lv_iload_n hx hb dX7_gone_51 rfl (lv_at hl 2 rfl) ?_
      refine w_cVi (rest := [.int (nI (kn ((v 23)) (2 ^ v 22 0 - 1 - j_20) ((v 22 0)))), .int (nI ((2 ^ (v 8) j_2 - 1) * 2 ^ (j_2 * 6)))]) hx hb hml hown hts (m_barsOf l D b cI cJ cZ A v c j_2  (by first | assumption | omega) (by first | assumption | omega)) 1 gX7_gone_X7_barsOf rfl hdX7_barsOf ⟨Nat.le_of_ble_eq_true rfl, Nat.le_of_ble_eq_true rfl⟩ hK hN hP hD hS hA 0 7 rfl rfl rfl rfl hl.1 rfl (Nat.le_of_ble_eq_true rfl) dX7_gone_52 ⟨Nat.le_of_ble_eq_true rfl, Nat.le_of_ble_eq_true rfl⟩ (fun r u H locs hq hP hD hS => ?_)
      obtain rfl := hq
      have hP : va_P D vwCl (mW b cI cJ cZ v c) H := hP
      have hD : va_D A (mW b cI cJ cZ v c) := hD
      refine w_iand (x := kn ((v 23)) (2 ^ v 22 0 - 1 - j_20) ((v 22 0))) (y := (2 ^ (v 8) j_2 - 1) * 2 ^ (j_2 * 6)) hx hb dX7_gone_55  ?_
      rw [show (nI ((kn ((v 23)) (2 ^ v 22 0 - 1 - j_20) ((v 22 0))) &&& ((2 ^ (v 8) j_2 - 1) * 2 ^ (j_2 * 6)))) = (nI (((2 ^ v 8 j_2 - 1) * 2 ^ (j_2 * 6)) &&& kn (v 23) (2 ^ v 22 0 - 1 - j_20) (v 22 0))) from by rw [Nat.and_comm]]
      have hq3 : ((2 ^ v 8 j_2 - 1) * 2 ^ (j_2 * 6)) &&& kn (v 23) (2 ^ v 22 0 - 1 - j_20) (v 22 0) ≤ (2 ^ v 8 j_2 - 1) * 2 ^ (j_2 * 6) := Nat.and_le_left
      refine w_isub (x := (2 ^ (v 8) j_2 - 1) * 2 ^ (j_2 * 6)) (y := ((2 ^ v 8 j_2 - 1) * 2 ^ (j_2 * 6)) &&& kn (v 23) (2 ^ v 22 0 - 1 - j_20) (v 22 0)) hx hb dX7_gone_56 (by omega) ?_
      refine lv_istore (lv' := [(4, .int (nI (((2 ^ (v 8) j_2 - 1) * 2 ^ (j_2 * 6)) - (((2 ^ v 8 j_2 - 1) * 2 ^ (j_2 * 6)) &&& kn (v 23) (2 ^ v 22 0 - 1 - j_20) (v 22 0))))), (3, .int (nI (2 ^ v 22 0 - 1 - j_20))), (0, .ref (b 0)), (1, .int (nI (j_2))), (2, .int (nI (j_20)))]) hx hb dX7_gone_57 hl (by decide) rfl (fun ls hl => ?_)
      refine lv_iload hx hb dX7_gone_59 (lv_at hl 0 rfl) ?_
      refine lv_bipush (v := nI (6)) hx hb dX7_gone_61 (by decide) ?_
      refine lv_iload_n hx hb dX7_gone_63 rfl (lv_at hl 3 rfl) ?_
      refine w_imul (x := 6) (y := j_2) hx hb dX7_gone_64  ?_
      refine w_ishr (x := ((2 ^ (v 8) j_2 - 1) * 2 ^ (j_2 * 6)) - (((2 ^ v 8 j_2 - 1) * 2 ^ (j_2 * 6)) &&& kn (v 23) (2 ^ v 22 0 - 1 - j_20) (v 22 0))) (y := 6 * j_2) hx hb dX7_gone_65 (by omega) (by omega) ?_
      rw [show (nI ((((2 ^ (v 8) j_2 - 1) * 2 ^ (j_2 * 6)) - (((2 ^ v 8 j_2 - 1) * 2 ^ (j_2 * 6)) &&& kn (v 23) (2 ^ v 22 0 - 1 - j_20) (v 22 0))) / 2 ^ (6 * j_2))) = (nI (((2 ^ v 8 j_2 - 1) * 2 ^ (j_2 * 6) - (((2 ^ v 8 j_2 - 1) * 2 ^ (j_2 * 6)) &&& kn (v 23) (2 ^ v 22 0 - 1 - j_20) (v 22 0))) / 2 ^ (j_2 * 6))) from by rw [Nat.mul_comm 6]]
      exact hret (nI (((2 ^ v 8 j_2 - 1) * 2 ^ (j_2 * 6) - (((2 ^ v 8 j_2 - 1) * 2 ^ (j_2 * 6)) &&& kn (v 23) (2 ^ v 22 0 - 1 - j_20) (v 22 0))) / 2 ^ (j_2 * 6))) () _ _ 66 _ dX7_gone_66 rfl (by exact Or.inl ⟨j_2, h_2, rfl, Or.inl ⟨j_20, by omega, rfl, rfl⟩⟩) hP hD hS
    · skip
      have hP : va_P D vwCl (mW b cI cJ cZ v c) H := hP
      have hD : va_D A (mW b cI cJ cZ v c) := hD
      refine w_if_ne (x := 0) hx hb dX7_gone_23 (tgt := 29) (by decide) (by decide) (fun h => absurd h (by decide)) (fun _ => ?_)
      refine lv_bipush (v := -2) hx hb dX7_gone_26 (by decide) ?_
      exact hret ((-2)) () _ _ 28 _ dX7_gone_28 rfl (by exact Or.inl ⟨j_2, h_2, rfl, Or.inr ⟨nR_of (by omega) (by omega), rfl⟩⟩) hP hD hS
  · skip
    have hP : va_P D vwCl (mW b cI cJ cZ v c) H := hP
    have hD : va_D A (mW b cI cJ cZ v c) := hD
    refine w_if_ne (x := 0) hx hb dX7_gone_5 (tgt := 10) (by decide) (by decide) (fun h => absurd h (by decide)) (fun _ => ?_)
    refine lv_iconst (v := -1) hx hb dX7_gone_8 (by decide) ?_
    exact hret ((-1)) () _ _ 9 _ dX7_gone_9 rfl (by exact Or.inr ⟨nR_of (by omega) h_2, rfl⟩) hP hD hS

set_option maxHeartbeats 4000000 in
set_option maxRecDepth 100000 in
theorem s_apart (l : Launch) (D : va_G) (b : Nat → Nat) (cI cJ cZ : ClassId) (A : Nat → Prop) (v : Nat → Nat → Nat) (c : Nat → Nat → Int32) (x : Int32) (y : Int32) (hI : MI v c) :
    mI l yX7_apart wsX7_apart 3 69 [.ref (b 0), .int x, .int y] D (xT cI cJ cZ) A (mW b cI cJ cZ v c) (fun _ : Unit => mW b cI cJ cZ v c)
    (fun (r : Int32) (u : Unit) => sp_apart (v 6 0) (v 8) (fun d k => v 9 (d * 6 + k)) x y r) := by
  refine w_bI cX7_apart 3 .int (by decide) rfl (Nat.le_of_ble_eq_true rfl) (Or.inl rfl) ?_
  intro p e s m args below meth c0 ls Q hx hb hml hts hown hK hN hA hret hP hD hS hl
  have hl : lv_has ls 3 [(0, .ref (b 0)), (1, .int x), (2, .int y)] := hl
  obtain ⟨hnb, hnd, hbt, hfg, hne, hnc, hdk, hnf, hkn, hln, hst, hdc, hsp⟩ := MI_o hI
  refine lv_aload_n hx hb dX7_apart_0 rfl (lv_at hl 0 rfl) ?_
  refine lv_iload_n hx hb dX7_apart_1 rfl (lv_at hl 1 rfl) ?_
  refine w_cVi (rest := []) hx hb hml hown hts (m_isDoor_R l D b cI cJ cZ A v c x  (by first | assumption | omega)) 1 gX7_apart_X7_isDoor rfl hdX7_isDoor ⟨Nat.le_of_ble_eq_true rfl, Nat.le_of_ble_eq_true rfl⟩ hK hN hP hD hS hA 0 7 rfl rfl rfl rfl hl.1 rfl (Nat.le_of_ble_eq_true rfl) dX7_apart_2 ⟨Nat.le_of_ble_eq_true rfl, Nat.le_of_ble_eq_true rfl⟩ (fun r u H locs hq hP hD hS => ?_)
  rcases hq with ⟨j_2, rfl, h_2, hs_x_2⟩ | ⟨rfl, h_2⟩
  · skip
    have hP : va_P D vwCl (mW b cI cJ cZ v c) H := hP
    have hD : va_D A (mW b cI cJ cZ v c) := hD
    subst hs_x_2
    have j_2T := n_tI (k := j_2) (by omega)
    refine w_if_eq (x := 1) hx hb dX7_apart_5 (tgt := 25) (by decide) (by decide) (fun h => absurd h (by decide)) (fun _ => ?_)
    refine lv_aload_n hx hb dX7_apart_8 rfl (lv_at hl 0 rfl) ?_
    refine lv_iload_n hx hb dX7_apart_9 rfl (lv_at hl 2 rfl) ?_
    refine w_cVi (rest := []) hx hb hml hown hts (m_isDoor_R l D b cI cJ cZ A v c y  (by first | assumption | omega)) 1 gX7_apart_X7_isDoor rfl hdX7_isDoor ⟨Nat.le_of_ble_eq_true rfl, Nat.le_of_ble_eq_true rfl⟩ hK hN hP hD hS hA 0 7 rfl rfl rfl rfl hl.1 rfl (Nat.le_of_ble_eq_true rfl) dX7_apart_10 ⟨Nat.le_of_ble_eq_true rfl, Nat.le_of_ble_eq_true rfl⟩ (fun r u H locs hq hP hD hS => ?_)
    rcases hq with ⟨j_10, rfl, h_10, hs_x_10⟩ | ⟨rfl, h_10⟩
    · skip
      have hP : va_P D vwCl (mW b cI cJ cZ v c) H := hP
      have hD : va_D A (mW b cI cJ cZ v c) := hD
      subst hs_x_10
      have j_10T := n_tI (k := j_10) (by omega)
      refine w_if_eq (x := 1) hx hb dX7_apart_13 (tgt := 25) (by decide) (by decide) (fun h => absurd h (by decide)) (fun _ => ?_)
      refine lv_aload_n hx hb dX7_apart_16 rfl (lv_at hl 0 rfl) ?_
      refine lv_iload_n hx hb dX7_apart_17 rfl (lv_at hl 1 rfl) ?_
      refine lv_iload_n hx hb dX7_apart_18 rfl (lv_at hl 2 rfl) ?_
      refine w_cVi (rest := []) hx hb hml hown hts (m_apartOf l D b cI cJ cZ A v c j_2 j_10  (by first | assumption | omega) (by first | assumption | omega) (by first | assumption | omega)) 2 gX7_apart_X7_apartOf rfl hdX7_apartOf ⟨Nat.le_of_ble_eq_true rfl, Nat.le_of_ble_eq_true rfl⟩ hK hN hP hD hS hA 0 7 rfl rfl rfl rfl hl.1 rfl (Nat.le_of_ble_eq_true rfl) dX7_apart_19 ⟨Nat.le_of_ble_eq_true rfl, Nat.le_of_ble_eq_true rfl⟩ (fun r u H locs hq hP hD hS => ?_)
      obtain rfl := hq
      have hP : va_P D vwCl (mW b cI cJ cZ v c) H := hP
      have hD : va_D A (mW b cI cJ cZ v c) := hD
      refine lv_goto (tgt := 26) hx hb dX7_apart_22 (by decide) ?_
      exact hret (nI (ulN ((v 8) j_2) ((v 8) j_10) (fun k => (v 9) (j_2 * 6 + k)) (fun k => (v 9) (j_10 * 6 + k)) 6)) () _ _ 26 _ dX7_apart_26 rfl (by exact Or.inl ⟨j_2, j_10, h_2, h_10, rfl, rfl, rfl⟩) hP hD hS
    · skip
      have hP : va_P D vwCl (mW b cI cJ cZ v c) H := hP
      have hD : va_D A (mW b cI cJ cZ v c) := hD
      refine w_if_eq (x := 0) hx hb dX7_apart_13 (tgt := 25) (by decide) (by decide) (fun _ => ?_) (fun h => absurd h (by decide))
      refine lv_iconst (v := -1) hx hb dX7_apart_25 (by decide) ?_
      exact hret ((-1)) () _ _ 26 _ dX7_apart_26 rfl (by first | exact Or.inr ⟨Or.inl (nR_of (by omega) h_2), rfl⟩ | exact Or.inr ⟨Or.inr (nR_of (by omega) h_10), rfl⟩) hP hD hS
  · skip
    have hP : va_P D vwCl (mW b cI cJ cZ v c) H := hP
    have hD : va_D A (mW b cI cJ cZ v c) := hD
    refine w_if_eq (x := 0) hx hb dX7_apart_5 (tgt := 25) (by decide) (by decide) (fun _ => ?_) (fun h => absurd h (by decide))
    refine lv_iconst (v := -1) hx hb dX7_apart_25 (by decide) ?_
    exact hret ((-1)) () _ _ 26 _ dX7_apart_26 rfl (by first | exact Or.inr ⟨Or.inl (nR_of (by omega) h_2), rfl⟩ | exact Or.inr ⟨Or.inr (nR_of (by omega) h_10), rfl⟩) hP hD hS

set_option maxHeartbeats 4000000 in
set_option maxRecDepth 100000 in
theorem s_trace (l : Launch) (D : va_G) (b : Nat → Nat) (cI cJ cZ : ClassId) (A : Nat → Prop) (v : Nat → Nat → Nat) (c : Nat → Nat → Int32) (hI : MI v c) :
    mI l yX7_trace wsX7_trace 0 0 [.ref (b 0)] D (xT cI cJ cZ) A (mW b cI cJ cZ v c) (fun _ : Unit => mW b cI cJ cZ v c)
    (fun (r : Int32) (u : Unit) => r = c 1 0) := by
  refine w_bI cX7_trace 1 .int (by decide) rfl (Nat.le_of_ble_eq_true rfl) (Or.inl rfl) ?_
  intro p e s m args below meth c0 ls Q hx hb hml hts hown hK hN hA hret hP hD hS hl
  have hl : lv_has ls 1 [(0, .ref (b 0))] := hl
  have hinX7 : ∀ w ∈ wsX70, w ∈ wsX7_trace := fun w h => List.mem_cons_of_mem _ (List.mem_append_right _ h)
  obtain ⟨hnb, hnd, hbt, hfg, hne, hnc, hdk, hnf, hkn, hln, hst, hdc, hsp⟩ := MI_o hI
  refine lv_aload_n hx hb dX7_trace_0 rfl (lv_at hl 0 rfl) ?_
  refine va_get (D := D) (ci := 7) (v := .int (c 1 0)) (C := RX7) (T := TX7) (N := 24) hx hb hts hinX7 hown hK hP 0 rfl rfl 1 (by decide) (hts (.fieldLink RX7 207 "DancedLockModel" "trace" "I") (List.mem_of_getElem? (i := 1) rfl)) (fun _ h9 => h9) rfl dX7_trace_1 ?_
  exact hret (c 1 0) () _ _ 4 _ dX7_trace_4 rfl (by rfl) hP hD hS

set_option maxHeartbeats 4000000 in
set_option maxRecDepth 100000 in
theorem s_fault (l : Launch) (D : va_G) (b : Nat → Nat) (cI cJ cZ : ClassId) (A : Nat → Prop) (v : Nat → Nat → Nat) (c : Nat → Nat → Int32) (hI : MI v c) :
    mI l yX7_fault wsX7_fault 0 0 [.ref (b 0)] D (xT cI cJ cZ) A (mW b cI cJ cZ v c) (fun _ : Unit => mW b cI cJ cZ v c)
    (fun (r : Int32) (u : Unit) => r = nI (v 0 0)) := by
  refine w_bI cX7_fault 1 .int (by decide) rfl (Nat.le_of_ble_eq_true rfl) (Or.inl rfl) ?_
  intro p e s m args below meth c0 ls Q hx hb hml hts hown hK hN hA hret hP hD hS hl
  have hl : lv_has ls 1 [(0, .ref (b 0))] := hl
  have hinX7 : ∀ w ∈ wsX70, w ∈ wsX7_fault := fun w h => List.mem_cons_of_mem _ (List.mem_append_right _ h)
  obtain ⟨hnb, hnd, hbt, hfg, hne, hnc, hdk, hnf, hkn, hln, hst, hdc, hsp⟩ := MI_o hI
  refine lv_aload_n hx hb dX7_fault_0 rfl (lv_at hl 0 rfl) ?_
  refine va_get (D := D) (ci := 7) (v := .int (nI (v 0 0))) (C := RX7) (T := TX7) (N := 24) hx hb hts hinX7 hown hK hP 0 rfl rfl 0 (by decide) (hts (.fieldLink RX7 53 "DancedLockModel" "fault" "I") (List.mem_of_getElem? (i := 1) rfl)) (fun _ h9 => h9) rfl dX7_fault_1 ?_
  exact hret (nI (v 0 0)) () _ _ 4 _ dX7_fault_4 rfl (by rfl) hP hD hS

set_option maxHeartbeats 4000000 in
set_option maxRecDepth 100000 in
theorem s_safe (l : Launch) (D : va_G) (b : Nat → Nat) (cI cJ cZ : ClassId) (A : Nat → Prop) (v : Nat → Nat → Nat) (c : Nat → Nat → Int32) (hI : MI v c) :
    mI l yX7_safe wsX7_safe 3 66 [.ref (b 0)] D (xT cI cJ cZ) A (mW b cI cJ cZ v c) (fun _ : Unit => mW b cI cJ cZ v c)
    (fun (r : Int32) (u : Unit) => sp_safe (v 6 0) (v 8) (fun d k => v 9 (d * 6 + k)) r) := by
  refine w_bI cX7_safe 3 .int (by decide) rfl (Nat.le_of_ble_eq_true rfl) (Or.inl rfl) ?_
  intro p e s m args below meth c0 ls Q hx hb hml hts hown hK hN hA hret hP hD hS hl
  have hl : lv_has ls 3 [(0, .ref (b 0))] := hl
  have hinX7 : ∀ w ∈ wsX70, w ∈ wsX7_safe := fun w h => List.mem_cons_of_mem _ (List.mem_append_right _ h)
  obtain ⟨hnb, hnd, hbt, hfg, hne, hnc, hdk, hnf, hkn, hln, hst, hdc, hsp⟩ := MI_o hI
  refine lv_aload_n hx hb dX7_safe_0 rfl (lv_at hl 0 rfl) ?_
  refine va_get (D := D) (ci := 7) (v := .int (nI (v 6 0))) (C := RX7) (T := TX7) (N := 24) hx hb hts hinX7 hown hK hP 0 rfl rfl 6 (by decide) (hts (.fieldLink RX7 66 "DancedLockModel" "doors" "I") (List.mem_of_getElem? (i := 1) rfl)) (fun _ h9 => h9) rfl dX7_safe_1 ?_
  refine w_if_ne (x := v 6 0) hx hb dX7_safe_4 (tgt := 10) (by decide) (by omega) (fun c4 => ?_) (fun c4 => ?_)
  · skip
    refine lv_iconst (v := nI (0)) hx hb dX7_safe_10 (by decide) ?_
    refine lv_istore_n (lv' := [(1, .int (nI (0))), (0, .ref (b 0))]) hx hb dX7_safe_11 rfl hl (by decide) rfl (fun ls hl => ?_)
    have L12 : ∀ (n : Nat) (i : Nat) (H : Heap) (locs : List Loc) (ls : Array Slot), v 6 0 - i < n → (i ≤ v 6 0) → (∀ a b, a < i → b < v 6 0 → a ≠ b → ¬ BGb (v 8) (fun d k => v 9 (d * 6 + k)) a b) → va_P D vwCl (mW b cI cJ cZ v c) H → va_D A (mW b cI cJ cZ v c) → va_S A s.heap H locs → lv_has ls 3 [(1, .int (nI (i))), (0, .ref (b 0))] → W p l e { frames := 3, cells := 0, slots := 0, locals := 66 } s m args below meth c0 H locs 0 0 Q (F0 m 12 ls []) := by
      intro n
      induction n with
      | zero => intro i H locs ls hm; exact absurd hm (Nat.not_lt_zero _)
      | succ n ih12 =>
        intro i H locs ls hm12 h1 h2 hP hD hS hl
        refine lv_iload_n hx hb dX7_safe_12 rfl (lv_at hl 0 rfl) ?_
        refine lv_aload_n hx hb dX7_safe_13 rfl (lv_at hl 1 rfl) ?_
        refine va_get (D := D) (ci := 7) (v := .int (nI (v 6 0))) (C := RX7) (T := TX7) (N := 24) hx hb hts hinX7 hown hK hP 0 rfl rfl 6 (by decide) (hts (.fieldLink RX7 66 "DancedLockModel" "doors" "I") (List.mem_of_getElem? (i := 1) rfl)) (fun _ h9 => h9) rfl dX7_safe_14 ?_
        refine w_icmp_ge (x := i) (y := v 6 0) hx hb dX7_safe_17 (tgt := 58) (by decide) (by omega) (by omega) (fun c17 => ?_) (fun c17 => ?_)
        · skip
          refine lv_iconst (v := nI (1)) hx hb dX7_safe_58 (by decide) ?_
          exact hret (nI (1)) () _ _ 59 _ dX7_safe_59 rfl (by have e : i = v 6 0 := (by omega); exact Or.inr (Or.inr ⟨by omega, fun ⟨a, b, q1, q2, q3, q4⟩ => h2 a b (by omega) q2 q3 q4, rfl⟩)) hP hD hS
        · skip
          refine lv_iconst (v := nI (0)) hx hb dX7_safe_20 (by decide) ?_
          refine lv_istore_n (lv' := [(2, .int (nI (0))), (1, .int (nI (i))), (0, .ref (b 0))]) hx hb dX7_safe_21 rfl hl (by decide) rfl (fun ls hl => ?_)
          have L22 : ∀ (n : Nat) (j : Nat) (H : Heap) (locs : List Loc) (ls : Array Slot), v 6 0 - j < n → (j ≤ v 6 0) → (∀ b, b < j → i ≠ b → ¬ BGb (v 8) (fun d k => v 9 (d * 6 + k)) i b) → va_P D vwCl (mW b cI cJ cZ v c) H → va_D A (mW b cI cJ cZ v c) → va_S A s.heap H locs → lv_has ls 3 [(2, .int (nI (j))), (0, .ref (b 0)), (1, .int (nI (i)))] → W p l e { frames := 3, cells := 0, slots := 0, locals := 66 } s m args below meth c0 H locs 0 0 Q (F0 m 22 ls []) := by
            intro n
            induction n with
            | zero => intro j H locs ls hm; exact absurd hm (Nat.not_lt_zero _)
            | succ n ih22 =>
              intro j H locs ls hm22 h3 h4 hP hD hS hl
              refine lv_iload_n hx hb dX7_safe_22 rfl (lv_at hl 0 rfl) ?_
              refine lv_aload_n hx hb dX7_safe_23 rfl (lv_at hl 1 rfl) ?_
              refine va_get (D := D) (ci := 7) (v := .int (nI (v 6 0))) (C := RX7) (T := TX7) (N := 24) hx hb hts hinX7 hown hK hP 0 rfl rfl 6 (by decide) (hts (.fieldLink RX7 66 "DancedLockModel" "doors" "I") (List.mem_of_getElem? (i := 1) rfl)) (fun _ h9 => h9) rfl dX7_safe_24 ?_
              refine w_icmp_ge (x := j) (y := v 6 0) hx hb dX7_safe_27 (tgt := 52) (by decide) (by omega) (by omega) (fun c27 => ?_) (fun c27 => ?_)
              · skip
                refine lv_iinc (v := nI (i + 1)) (lv' := [(1, .int (nI (i + 1))), (2, .int (nI (j))), (0, .ref (b 0))]) hx hb dX7_safe_52 hl (k := 2) rfl (nI_add i 1) (by decide) rfl (fun ls hl => ?_)
                refine lv_goto (tgt := 12) hx hb dX7_safe_55 (by decide) ?_
                exact ih12 (i + 1) _ _ _ (by omega) (by omega) (by exact nb_s (by omega) h2 h4) hP hD hS (lv_sub hl [0, 2] rfl)
              · skip
                refine lv_iload_n hx hb dX7_safe_30 rfl (lv_at hl 2 rfl) ?_
                refine lv_iload_n hx hb dX7_safe_31 rfl (lv_at hl 0 rfl) ?_
                refine w_icmp_eq (x := i) (y := j) hx hb dX7_safe_32 (tgt := 46) (by decide) (by omega) (by omega) (fun c32 => ?_) (fun c32 => ?_)
                · skip
                  refine lv_iinc (v := nI (j + 1)) (lv' := [(2, .int (nI (j + 1))), (0, .ref (b 0)), (1, .int (nI (i)))]) hx hb dX7_safe_46 hl (k := 0) rfl (nI_add j 1) (by decide) rfl (fun ls hl => ?_)
                  refine lv_goto (tgt := 22) hx hb dX7_safe_49 (by decide) ?_
                  exact ih22 (j + 1) _ _ _ (by omega) (by omega) (by first | exact nb_t h4 (fun z9 => absurd c32 z9) | exact nb_t h4 (fun _ => h_38)) hP hD hS (lv_sub hl [0, 1, 2] rfl)
                · skip
                  refine lv_aload_n hx hb dX7_safe_35 rfl (lv_at hl 1 rfl) ?_
                  refine lv_iload_n hx hb dX7_safe_36 rfl (lv_at hl 2 rfl) ?_
                  refine lv_iload_n hx hb dX7_safe_37 rfl (lv_at hl 0 rfl) ?_
                  refine w_cVi (rest := []) hx hb hml hown hts (m_begins l D b cI cJ cZ A v c i j  (by first | assumption | omega) (by first | assumption | omega) (by first | assumption | omega)) 2 gX7_safe_X7_begins rfl hdX7_begins ⟨Nat.le_of_ble_eq_true rfl, Nat.le_of_ble_eq_true rfl⟩ hK hN hP hD hS hA 0 7 rfl rfl rfl rfl hl.1 rfl (Nat.le_of_ble_eq_true rfl) dX7_safe_38 ⟨Nat.le_of_ble_eq_true rfl, Nat.le_of_ble_eq_true rfl⟩ (fun r u H locs hq hP hD hS => ?_)
                  rcases hq with ⟨rfl, h_38⟩ | ⟨rfl, h_38⟩
                  · skip
                    have hP : va_P D vwCl (mW b cI cJ cZ v c) H := hP
                    have hD : va_D A (mW b cI cJ cZ v c) := hD
                    refine w_if_eq (x := 1) hx hb dX7_safe_41 (tgt := 46) (by decide) (by decide) (fun h => absurd h (by decide)) (fun _ => ?_)
                    refine lv_iconst (v := nI (0)) hx hb dX7_safe_44 (by decide) ?_
                    exact hret (nI (0)) () _ _ 45 _ dX7_safe_45 rfl (by exact Or.inr (Or.inl ⟨by omega, ⟨i, j, by omega, by omega, c32, h_38⟩, rfl⟩)) hP hD hS
                  · skip
                    have hP : va_P D vwCl (mW b cI cJ cZ v c) H := hP
                    have hD : va_D A (mW b cI cJ cZ v c) := hD
                    refine w_if_eq (x := 0) hx hb dX7_safe_41 (tgt := 46) (by decide) (by decide) (fun _ => ?_) (fun h => absurd h (by decide))
                    refine lv_iinc (v := nI (j + 1)) (lv' := [(2, .int (nI (j + 1))), (0, .ref (b 0)), (1, .int (nI (i)))]) hx hb dX7_safe_46 hl (k := 0) rfl (nI_add j 1) (by decide) rfl (fun ls hl => ?_)
                    refine lv_goto (tgt := 22) hx hb dX7_safe_49 (by decide) ?_
                    exact ih22 (j + 1) _ _ _ (by omega) (by omega) (by first | exact nb_t h4 (fun z9 => absurd c32 z9) | exact nb_t h4 (fun _ => h_38)) hP hD hS (lv_sub hl [0, 1, 2] rfl)
          exact L22 ((v 6 0 - 0) + 1) 0 _ _ _ (Nat.lt_succ_self _) (by omega) (by exact fun b hb => absurd hb (Nat.not_lt_zero _)) hP hD hS (lv_sub hl [0, 2, 1] rfl)
    exact L12 ((v 6 0 - 0) + 1) 0 _ _ _ (Nat.lt_succ_self _) (by omega) (by exact fun a b ha => absurd ha (Nat.not_lt_zero _)) hP hD hS (lv_sub hl [0, 1] rfl)
  · skip
    refine lv_bipush (v := -3) hx hb dX7_safe_7 (by decide) ?_
    exact hret ((-3)) () _ _ 9 _ dX7_safe_9 rfl (by exact Or.inl ⟨by omega, rfl⟩) hP hD hS

set_option maxHeartbeats 4000000 in
set_option maxRecDepth 100000 in
theorem s_evenings (l : Launch) (D : va_G) (b : Nat → Nat) (cI cJ cZ : ClassId) (A : Nat → Prop) (v : Nat → Nat → Nat) (c : Nat → Nat → Int32) (x : Int32) (hI : MI v c) :
    mI l yX7_evenings wsX7_evenings 1 23 [.ref (b 0), .int x] D (xT cI cJ cZ) A (mW b cI cJ cZ v c) (fun _ : Unit => mW b cI cJ cZ v c)
    (fun (r : Int32) (u : Unit) => sp_door (v 6 0) (fun d => nI (lrn (v 23) (kn (v 23) (2 ^ v 22 0 - 1) (v 22 0) &&& ((2 ^ v 8 d - 1) * 2 ^ (d * 6))) (v 22 0))) x r) := by
  refine w_bI cX7_evenings 6 .int (by decide) rfl (Nat.le_of_ble_eq_true rfl) (Or.inl rfl) ?_
  intro p e s m args below meth c0 ls Q hx hb hml hts hown hK hN hA hret hP hD hS hl
  have hl : lv_has ls 6 [(0, .ref (b 0)), (1, .int x)] := hl
  have hinX7 : ∀ w ∈ wsX70, w ∈ wsX7_evenings := fun w h => List.mem_cons_of_mem _ (List.mem_append_right _ h)
  obtain ⟨hnb, hnd, hbt, hfg, hne, hnc, hdk, hnf, hkn, hln, hst, hdc, hsp⟩ := MI_o hI
  refine lv_aload_n hx hb dX7_evenings_0 rfl (lv_at hl 0 rfl) ?_
  refine lv_iload_n hx hb dX7_evenings_1 rfl (lv_at hl 1 rfl) ?_
  refine w_cVi (rest := []) hx hb hml hown hts (m_isDoor_R l D b cI cJ cZ A v c x  (by first | assumption | omega)) 1 gX7_evenings_X7_isDoor rfl hdX7_isDoor ⟨Nat.le_of_ble_eq_true rfl, Nat.le_of_ble_eq_true rfl⟩ hK hN hP hD hS hA 0 7 rfl rfl rfl rfl hl.1 rfl (Nat.le_of_ble_eq_true rfl) dX7_evenings_2 ⟨Nat.le_of_ble_eq_true rfl, Nat.le_of_ble_eq_true rfl⟩ (fun r u H locs hq hP hD hS => ?_)
  rcases hq with ⟨j_2, rfl, h_2, hs_x_2⟩ | ⟨rfl, h_2⟩
  · skip
    have hP : va_P D vwCl (mW b cI cJ cZ v c) H := hP
    have hD : va_D A (mW b cI cJ cZ v c) := hD
    subst hs_x_2
    have j_2T := n_tI (k := j_2) (by omega)
    refine w_if_ne (x := 1) hx hb dX7_evenings_5 (tgt := 10) (by decide) (by decide) (fun _ => ?_) (fun h => absurd h (by decide))
    have hbd := hbt _ h_2
    have hq2 := bars_lt hbd.2 (show j_2 ≤ 3 by omega)
    have hp7 := pow_le_128 (show v 22 0 ≤ 7 by omega)
    have hp0 := Nat.two_pow_pos (v 22 0)
    refine lv_aload_n hx hb dX7_evenings_10 rfl (lv_at hl 0 rfl) ?_
    refine lv_iconst (v := nI (1)) hx hb dX7_evenings_11 (by decide) ?_
    refine lv_aload_n hx hb dX7_evenings_12 rfl (lv_at hl 0 rfl) ?_
    refine va_get (D := D) (ci := 7) (v := .int (nI (v 22 0))) (C := RX7) (T := TX7) (N := 24) hx hb hts hinX7 hown hK hP 0 rfl rfl 22 (by decide) (hts (.fieldLink RX7 106 "DancedLockModel" "families" "I") (List.mem_of_getElem? (i := 1) rfl)) (fun _ h9 => h9) rfl dX7_evenings_13 ?_
    refine w_ishl (x := 1) (y := v 22 0) hx hb dX7_evenings_16 (by omega) (by omega) ?_
    refine lv_iconst (v := nI (1)) hx hb dX7_evenings_17 (by decide) ?_
    refine w_isub (x := 1 * 2 ^ (v 22 0)) (y := 1) hx hb dX7_evenings_18 (by omega) ?_
    rw [show (nI ((1 * 2 ^ (v 22 0)) - 1)) = (nI (2 ^ v 22 0 - 1)) from by rw [Nat.one_mul]]
    refine w_cVi (rest := []) hx hb hml hown hts (m_known l D b cI cJ cZ A v c (2 ^ v 22 0 - 1)  (by first | assumption | omega) (by first | assumption | omega)) 1 gX7_evenings_X7_known rfl hdX7_known ⟨Nat.le_of_ble_eq_true rfl, Nat.le_of_ble_eq_true rfl⟩ hK hN hP hD hS hA 0 7 rfl rfl rfl rfl hl.1 rfl (Nat.le_of_ble_eq_true rfl) dX7_evenings_19 ⟨Nat.le_of_ble_eq_true rfl, Nat.le_of_ble_eq_true rfl⟩ (fun r u H locs hq hP hD hS => ?_)
    obtain rfl := hq
    have hP : va_P D vwCl (mW b cI cJ cZ v c) H := hP
    have hD : va_D A (mW b cI cJ cZ v c) := hD
    refine lv_aload_n hx hb dX7_evenings_22 rfl (lv_at hl 0 rfl) ?_
    refine lv_iload_n hx hb dX7_evenings_23 rfl (lv_at hl 1 rfl) ?_
    refine w_cVi (rest := [.int (nI (kn ((v 23)) (2 ^ v 22 0 - 1) ((v 22 0))))]) hx hb hml hown hts (m_barsOf l D b cI cJ cZ A v c j_2  (by first | assumption | omega) (by first | assumption | omega)) 1 gX7_evenings_X7_barsOf rfl hdX7_barsOf ⟨Nat.le_of_ble_eq_true rfl, Nat.le_of_ble_eq_true rfl⟩ hK hN hP hD hS hA 0 7 rfl rfl rfl rfl hl.1 rfl (Nat.le_of_ble_eq_true rfl) dX7_evenings_24 ⟨Nat.le_of_ble_eq_true rfl, Nat.le_of_ble_eq_true rfl⟩ (fun r u H locs hq hP hD hS => ?_)
    obtain rfl := hq
    have hP : va_P D vwCl (mW b cI cJ cZ v c) H := hP
    have hD : va_D A (mW b cI cJ cZ v c) := hD
    refine w_iand (x := kn ((v 23)) (2 ^ v 22 0 - 1) ((v 22 0))) (y := (2 ^ (v 8) j_2 - 1) * 2 ^ (j_2 * 6)) hx hb dX7_evenings_27  ?_
    have hsl : (kn (v 23) (2 ^ v 22 0 - 1) (v 22 0) &&& (2 ^ v 8 j_2 - 1) * 2 ^ (j_2 * 6)) < 16777216 := Nat.lt_of_le_of_lt Nat.and_le_right hq2
    obtain ⟨s1, hs1⟩ : ∃ zz : Nat, zz = (kn ((v 23)) (2 ^ v 22 0 - 1) ((v 22 0))) &&& ((2 ^ (v 8) j_2 - 1) * 2 ^ (j_2 * 6)) := ⟨_, rfl⟩
    rw [← hs1]
    rw [← hs1] at hsl
    refine lv_istore_n (lv' := [(2, .int (nI (s1))), (0, .ref (b 0)), (1, .int (nI (j_2)))]) hx hb dX7_evenings_28 rfl hl (by decide) rfl (fun ls hl => ?_)
    refine lv_iconst (v := nI (0)) hx hb dX7_evenings_29 (by decide) ?_
    refine lv_istore_n (lv' := [(3, .int (nI (0))), (2, .int (nI (s1))), (0, .ref (b 0)), (1, .int (nI (j_2)))]) hx hb dX7_evenings_30 rfl hl (by decide) rfl (fun ls hl => ?_)
    refine lv_iconst (v := nI (0)) hx hb dX7_evenings_31 (by decide) ?_
    refine lv_istore (lv' := [(4, .int (nI (0))), (3, .int (nI (0))), (2, .int (nI (s1))), (0, .ref (b 0)), (1, .int (nI (j_2)))]) hx hb dX7_evenings_32 hl (by decide) rfl (fun ls hl => ?_)
    have L34 : ∀ (n : Nat) (i : Nat) (q : Nat) (H : Heap) (locs : List Loc) (ls : Array Slot), v 22 0 - i < n → (i ≤ v 22 0) → (q = lrn (v 23) s1 i) → va_P D vwCl (mW b cI cJ cZ v c) H → va_D A (mW b cI cJ cZ v c) → va_S A s.heap H locs → lv_has ls 6 [(3, .int (nI (q))), (4, .int (nI (i))), (0, .ref (b 0)), (1, .int (nI (j_2))), (2, .int (nI (s1)))] → W p l e { frames := 1, cells := 0, slots := 0, locals := 23 } s m args below meth c0 H locs 0 0 Q (F0 m 34 ls []) := by
      intro n
      induction n with
      | zero => intro i q H locs ls hm; exact absurd hm (Nat.not_lt_zero _)
      | succ n ih34 =>
        intro i q H locs ls hm34 h1 h2 hP hD hS hl
        refine lv_iload hx hb dX7_evenings_34 (lv_at hl 1 rfl) ?_
        refine lv_aload_n hx hb dX7_evenings_36 rfl (lv_at hl 2 rfl) ?_
        refine va_get (D := D) (ci := 7) (v := .int (nI (v 22 0))) (C := RX7) (T := TX7) (N := 24) hx hb hts hinX7 hown hK hP 0 rfl rfl 22 (by decide) (hts (.fieldLink RX7 106 "DancedLockModel" "families" "I") (List.mem_of_getElem? (i := 1) rfl)) (fun _ h9 => h9) rfl dX7_evenings_37 ?_
        refine w_icmp_ge (x := i) (y := v 22 0) hx hb dX7_evenings_40 (tgt := 78) (by decide) (by omega) (by omega) (fun c40 => ?_) (fun c40 => ?_)
        · skip
          refine lv_iload_n hx hb dX7_evenings_78 rfl (lv_at hl 0 rfl) ?_
          exact hret (nI (q)) () _ _ 79 _ dX7_evenings_79 rfl (by have e : i = v 22 0 := (by omega); exact Or.inl ⟨j_2, h_2, rfl, by rw [h2, e, hs1]⟩) hP hD hS
        · skip
          refine lv_iload_n hx hb dX7_evenings_43 rfl (lv_at hl 4 rfl) ?_
          refine lv_aload_n hx hb dX7_evenings_44 rfl (lv_at hl 2 rfl) ?_
          refine va_get (D := D) (ci := 7) (v := .ref (b 23)) (C := RX7) (T := TX7) (N := 24) hx hb hts hinX7 hown hK hP 0 rfl rfl 23 (by decide) (hts (.fieldLink RX7 50 "DancedLockModel" "knows" "[I") (List.mem_of_getElem? (i := 2) rfl)) (fun _ h9 => h9) rfl dX7_evenings_45 ?_
          refine lv_iload hx hb dX7_evenings_48 (lv_at hl 1 rfl) ?_
          refine w_iald (f := v 23) hx hb hK hP 14 0 rfl rfl (i := i) (by omega) (by decide) dX7_evenings_50 ?_
          refine lv_iload_n hx hb dX7_evenings_51 rfl (lv_at hl 4 rfl) ?_
          refine w_iand (x := v 23 i) (y := s1) hx hb dX7_evenings_52  ?_
          have hle : (v 23 i) &&& s1 ≤ s1 := Nat.and_le_right
          refine w_isub (x := s1) (y := (v 23 i) &&& s1) hx hb dX7_evenings_53 (by omega) ?_
          refine w_cSi (rest := []) hx hb hml hown hts (m_size l D b cI cJ cZ A v c (s1 - ((v 23 i) &&& s1))  (by first | assumption | omega)) 1 gX7_evenings_X7_size rfl hdX7_size ⟨Nat.le_of_ble_eq_true rfl, Nat.le_of_ble_eq_true rfl⟩ hK hN hP hD hS hA rfl hl.1 rfl (Nat.le_of_ble_eq_true rfl) dX7_evenings_54 ⟨Nat.le_of_ble_eq_true rfl, Nat.le_of_ble_eq_true rfl⟩ (fun r u H locs hq hP hD hS => ?_)
          obtain rfl := hq
          have hP : va_P D vwCl (mW b cI cJ cZ v c) H := hP
          have hD : va_D A (mW b cI cJ cZ v c) := hD
          refine lv_istore (lv' := [(5, .int (nI (pc (s1 - ((v 23 i) &&& s1))))), (3, .int (nI (q))), (4, .int (nI (i))), (0, .ref (b 0)), (1, .int (nI (j_2))), (2, .int (nI (s1)))]) hx hb dX7_evenings_57 hl (by decide) rfl (fun ls hl => ?_)
          refine lv_iload hx hb dX7_evenings_59 (lv_at hl 0 rfl) ?_
          refine lv_iload_n hx hb dX7_evenings_61 rfl (lv_at hl 1 rfl) ?_
          refine w_icmp_le (x := pc (s1 - ((v 23 i) &&& s1))) (y := q) hx hb dX7_evenings_62 (tgt := 70) (by decide) (by have h9 := pc_le (s1 - (v 23 i &&& s1)); omega) (by have h9 := lrn_le (v 23) s1 i; omega) (fun c62 => ?_) (fun c62 => ?_)
          · skip
            refine lv_iload_n hx hb dX7_evenings_70 rfl (lv_at hl 1 rfl) ?_
            refine lv_istore_n (lv' := [(3, .int (nI (q))), (5, .int (nI (pc (s1 - ((v 23 i) &&& s1))))), (4, .int (nI (i))), (0, .ref (b 0)), (1, .int (nI (j_2))), (2, .int (nI (s1)))]) hx hb dX7_evenings_71 rfl hl (by decide) rfl (fun ls hl => ?_)
            refine lv_iinc (v := nI (i + 1)) (lv' := [(4, .int (nI (i + 1))), (3, .int (nI (q))), (5, .int (nI (pc (s1 - ((v 23 i) &&& s1))))), (0, .ref (b 0)), (1, .int (nI (j_2))), (2, .int (nI (s1)))]) hx hb dX7_evenings_72 hl (k := 2) rfl (nI_add i 1) (by decide) rfl (fun ls hl => ?_)
            refine lv_goto (tgt := 34) hx hb dX7_evenings_75 (by decide) ?_
            exact ih34 (i + 1) q _ _ _ (by omega) (by omega) (by first | (rw [lrn_s, ← h2, Nat.and_comm s1]; omega) | (rw [lrn_s, ← h2, Nat.and_comm s1, Nat.max_def]; split <;> omega)) hP hD hS (lv_sub hl [1, 0, 3, 4, 5] rfl)
          · skip
            refine lv_iload hx hb dX7_evenings_65 (lv_at hl 0 rfl) ?_
            refine lv_goto (tgt := 71) hx hb dX7_evenings_67 (by decide) ?_
            refine lv_istore_n (lv' := [(3, .int (nI (pc (s1 - ((v 23 i) &&& s1))))), (5, .int (nI (pc (s1 - ((v 23 i) &&& s1))))), (4, .int (nI (i))), (0, .ref (b 0)), (1, .int (nI (j_2))), (2, .int (nI (s1)))]) hx hb dX7_evenings_71 rfl hl (by decide) rfl (fun ls hl => ?_)
            refine lv_iinc (v := nI (i + 1)) (lv' := [(4, .int (nI (i + 1))), (3, .int (nI (pc (s1 - ((v 23 i) &&& s1))))), (5, .int (nI (pc (s1 - ((v 23 i) &&& s1))))), (0, .ref (b 0)), (1, .int (nI (j_2))), (2, .int (nI (s1)))]) hx hb dX7_evenings_72 hl (k := 2) rfl (nI_add i 1) (by decide) rfl (fun ls hl => ?_)
            refine lv_goto (tgt := 34) hx hb dX7_evenings_75 (by decide) ?_
            exact ih34 (i + 1) (pc (s1 - ((v 23 i) &&& s1))) _ _ _ (by omega) (by omega) (by first | (rw [lrn_s, ← h2, Nat.and_comm s1]; omega) | (rw [lrn_s, ← h2, Nat.and_comm s1, Nat.max_def]; split <;> omega)) hP hD hS (lv_sub hl [1, 0, 3, 4, 5] rfl)
    exact L34 ((v 22 0 - 0) + 1) 0 0 _ _ _ (Nat.lt_succ_self _) (by omega) (by rfl) hP hD hS (lv_sub hl [1, 0, 3, 4, 2] rfl)
  · skip
    have hP : va_P D vwCl (mW b cI cJ cZ v c) H := hP
    have hD : va_D A (mW b cI cJ cZ v c) := hD
    refine w_if_ne (x := 0) hx hb dX7_evenings_5 (tgt := 10) (by decide) (by decide) (fun h => absurd h (by decide)) (fun _ => ?_)
    refine lv_iconst (v := -1) hx hb dX7_evenings_8 (by decide) ?_
    exact hret ((-1)) () _ _ 9 _ dX7_evenings_9 rfl (by exact Or.inr ⟨nR_of (by omega) h_2, rfl⟩) hP hD hS
