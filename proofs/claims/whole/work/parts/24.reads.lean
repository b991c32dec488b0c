/-! ===== the class's calls that only read ===== -/
theorem nR_lt {x : Int32} {n : Nat} (hn : n < 2147483648) (h : nR x n) : x.toInt < 0 ∨ (n : Int) ≤ x.toInt := by
  refine Classical.byContradiction (fun z => h ?_)
  obtain ⟨q, hq, rfl⟩ := r_nat (x := x) (by omega)
  rw [n_tI hq] at z
  exact ⟨q, by omega, rfl⟩
theorem n3_cases (x : Int32) : x = nI 0 ∨ x = nI 1 ∨ x = nI 2 ∨ nR x 3 := by
  by_cases h : ∃ j, j < 3 ∧ x = nI j
  · obtain ⟨j, hj, rfl⟩ := h
    rcases (show j = 0 ∨ j = 1 ∨ j = 2 by omega) with rfl | rfl | rfl
    · exact Or.inl rfl
    · exact Or.inr (Or.inl rfl)
    · exact Or.inr (Or.inr (Or.inl rfl))
  · exact Or.inr (Or.inr (Or.inr h))
theorem n4_cases (x : Int32) : x = nI 0 ∨ x = nI 1 ∨ x = nI 2 ∨ x = nI 3 ∨ nR x 4 := by
  by_cases h : ∃ j, j < 4 ∧ x = nI j
  · obtain ⟨j, hj, rfl⟩ := h
    rcases (show j = 0 ∨ j = 1 ∨ j = 2 ∨ j = 3 by omega) with rfl | rfl | rfl | rfl
    · exact Or.inl rfl
    · exact Or.inr (Or.inl rfl)
    · exact Or.inr (Or.inr (Or.inl rfl))
    · exact Or.inr (Or.inr (Or.inr (Or.inl rfl)))
  · exact Or.inr (Or.inr (Or.inr (Or.inr h)))
set_option maxHeartbeats 4000000 in
set_option maxRecDepth 100000 in
theorem k_beatsOfBars_R (l : Launch) (D : va_G) (a : Nat → Nat) (cI cJ cZ : ClassId) (A : Nat → Prop) (v : Nat → Nat → Nat) (c : Nat → Nat → Int32) (d : Nat) (z : Int32) (kk : Nat) (hnd : v 11 1 ≤ 4) (hbt : ∀ d, d < v 11 1 → 1 ≤ v 13 d ∧ v 13 d ≤ 6) (hd : d < v 11 1) (hz : z = nI kk ^^^ -1) :
    mI l yX2_beatsOfBars wsX2_beatsOfBars 3 63 [.ref (a 11), .int (nI d), .int z] D (xT cI cJ cZ) A (xW a cI cJ cZ v c) (fun _ : Unit => xW a cI cJ cZ v c)
    (fun (r : Int32) (u : Unit) => r = nI (((2 ^ v 13 d - 1) * 2 ^ (d * 6) - ((2 ^ v 13 d - 1) * 2 ^ (d * 6) &&& kk)) / 2 ^ (d * 6))) := by
  refine w_bI cX2_beatsOfBars 3 .int (by decide) rfl (Nat.le_of_ble_eq_true rfl) (Or.inl rfl) ?_
  intro p e s m args below meth c0 ls Q hx hb hml hts hown hK hN hA hret hP hD hS hl
  have hl : lv_has ls 3 [(0, .ref (a 11)), (1, .int (nI (d))), (2, .int z)] := hl
  have hbd := hbt d hd
  have hq2 := bars_lt hbd.2 (show d ≤ 3 by omega)
  refine lv_iload_n hx hb dX2_beatsOfBars_0 rfl (lv_at hl 2 rfl) ?_
  refine lv_aload_n hx hb dX2_beatsOfBars_1 rfl (lv_at hl 0 rfl) ?_
  refine lv_iload_n hx hb dX2_beatsOfBars_2 rfl (lv_at hl 1 rfl) ?_
  refine w_cVi (rest := [.int z]) hx hb hml hown hts (k_barsOfDoor l D a cI cJ cZ A v c d  (by first | assumption | omega) (by first | assumption | omega) (by first | assumption | omega)) 1 gX2_beatsOfBars_X2_barsOfDoor rfl hdX2_barsOfDoor ⟨Nat.le_of_ble_eq_true rfl, Nat.le_of_ble_eq_true rfl⟩ hK hN hP hD hS hA 11 2 rfl rfl rfl rfl hl.1 rfl (Nat.le_of_ble_eq_true rfl) dX2_beatsOfBars_3 ⟨Nat.le_of_ble_eq_true rfl, Nat.le_of_ble_eq_true rfl⟩ (fun r u H locs hq hP hD hS => ?_)
  obtain rfl := hq
  have hP : va_P D vwCl (xW a cI cJ cZ v c) H := hP
  have hD : va_D A (xW a cI cJ cZ v c) := hD
  refine lv_iand hx hb dX2_beatsOfBars_6 ?_
  rw [show (z &&& (nI ((2 ^ (v 13) d - 1) * 2 ^ (d * 6)))) = (nI ((2 ^ v 13 d - 1) * 2 ^ (d * 6) - ((2 ^ v 13 d - 1) * 2 ^ (d * 6) &&& kk))) from by rw [hz, Int32.and_comm]; exact n_andn]
  refine lv_iload_n hx hb dX2_beatsOfBars_7 rfl (lv_at hl 1 rfl) ?_
  refine lv_bipush (v := nI (6)) hx hb dX2_beatsOfBars_8 (by decide) ?_
  refine w_imul (x := d) (y := 6) hx hb dX2_beatsOfBars_10  ?_
  refine w_ishr (x := (2 ^ v 13 d - 1) * 2 ^ (d * 6) - ((2 ^ v 13 d - 1) * 2 ^ (d * 6) &&& kk)) (y := d * 6) hx hb dX2_beatsOfBars_11 (by omega) (by omega) ?_
  exact hret (nI (((2 ^ v 13 d - 1) * 2 ^ (d * 6) - ((2 ^ v 13 d - 1) * 2 ^ (d * 6) &&& kk)) / 2 ^ (d * 6))) () _ _ 12 _ dX2_beatsOfBars_12 rfl (by rfl) hP hD hS

set_option maxHeartbeats 4000000 in
set_option maxRecDepth 100000 in
theorem t_board (l : Launch) (D : va_G) (a : Nat → Nat) (cI cJ cZ : ClassId) (A : Nat → Prop) (v : Nat → Nat → Nat) (c : Nat → Nat → Int32) (x : Int32) (hI : XI v) :
    mI l yX6_board wsX6_board 1 21 [.ref (a 0), .int x] D (xT cI cJ cZ) A (xW a cI cJ cZ v c) (fun _ : Unit => xW a cI cJ cZ v c)
    (fun (r : Int32) (u : Unit) => sp_board (v 11 0) (v 12) x r) := by
  refine w_bI cX6_board 2 .int (by decide) rfl (Nat.le_of_ble_eq_true rfl) (Or.inl rfl) ?_
  intro p e s m args below meth c0 ls Q hx hb hml hts hown hK hN hA hret hP hD hS hl
  have hl : lv_has ls 2 [(0, .ref (a 0)), (1, .int x)] := hl
  have hinX2 : ∀ w ∈ wsX20, w ∈ wsX6_board := fun w h => List.mem_cons_of_mem _ (List.mem_append_right _ h)
  have hinX6 : ∀ w ∈ wsX60, w ∈ wsX6_board := fun w h => List.mem_cons_of_mem _ (List.mem_append_left _ (List.mem_append_right _ h))
  obtain ⟨hnb, hnd, hbt, hfg, hne, hnc, hdk, hnf, hkn, hln, hst, hdc, hsp⟩ := id hI
  refine lv_aload_n hx hb dX6_board_0 rfl (lv_at hl 0 rfl) ?_
  refine va_get (D := D) (ci := 6) (v := .ref (a 11)) (C := RX6) (T := TX6) (N := 9) hx hb hts hinX6 hown hK hP 0 rfl rfl 3 (by decide) (hts (.fieldLink RX6 36 "DancedLock" "floor" "LDancedLock$Floor;") (List.mem_of_getElem? (i := 1) rfl)) (fun _ h9 => h9) rfl dX6_board_1 ?_
  refine lv_iload_n hx hb dX6_board_4 rfl (lv_at hl 1 rfl) ?_
  refine w_cVi (rest := []) hx hb hml hown hts (k_hasBoard_R l D a cI cJ cZ A v c x  (by first | assumption | omega)) 1 gX6_board_X2_hasBoard rfl hdX2_hasBoard ⟨Nat.le_of_ble_eq_true rfl, Nat.le_of_ble_eq_true rfl⟩ hK hN hP hD hS hA 11 2 rfl rfl rfl rfl hl.1 rfl (Nat.le_of_ble_eq_true rfl) dX6_board_5 ⟨Nat.le_of_ble_eq_true rfl, Nat.le_of_ble_eq_true rfl⟩ (fun r u H locs hq hP hD hS => ?_)
  rcases hq with ⟨j_5, rfl, h_5, hs_x_5⟩ | ⟨rfl, h_5⟩
  · skip
    have hP : va_P D vwCl (xW a cI cJ cZ v c) H := hP
    have hD : va_D A (xW a cI cJ cZ v c) := hD
    subst hs_x_5
    have j_5T := n_tI (k := j_5) (by omega)
    refine w_if_eq (x := 1) hx hb dX6_board_8 (tgt := 23) (by decide) (by decide) (fun h => absurd h (by decide)) (fun _ => ?_)
    refine lv_aload_n hx hb dX6_board_11 rfl (lv_at hl 0 rfl) ?_
    refine va_get (D := D) (ci := 6) (v := .ref (a 11)) (C := RX6) (T := TX6) (N := 9) hx hb hts hinX6 hown hK hP 0 rfl rfl 3 (by decide) (hts (.fieldLink RX6 36 "DancedLock" "floor" "LDancedLock$Floor;") (List.mem_of_getElem? (i := 1) rfl)) (fun _ h9 => h9) rfl dX6_board_12 ?_
    refine va_getN (D := D) (ci := 2) (v := .ref (a 12)) (C := RX2) (T := TX2) (N := 5) hx hb hts hinX2 hown hK hP 11 rfl rfl 2 (by decide) (va_Nw.use rfl (hN (.fieldLinkNest RX6 84 "DancedLock$Floor" "needs" "[I" "DancedLock") (List.mem_of_getElem? (i := 5) rfl))) (fun _ h9 => h9) rfl dX6_board_15 ?_
    refine lv_iload_n hx hb dX6_board_18 rfl (lv_at hl 1 rfl) ?_
    refine w_iald (f := v 12) hx hb hK hP 12 0 rfl rfl (i := j_5) (by omega) (by decide) dX6_board_19 ?_
    refine lv_goto (tgt := 24) hx hb dX6_board_20 (by decide) ?_
    exact hret (nI (v 12 j_5)) () _ _ 24 _ dX6_board_24 rfl (by exact Or.inl ⟨j_5, h_5, rfl, rfl⟩) hP hD hS
  · skip
    have hP : va_P D vwCl (xW a cI cJ cZ v c) H := hP
    have hD : va_D A (xW a cI cJ cZ v c) := hD
    refine w_if_eq (x := 0) hx hb dX6_board_8 (tgt := 23) (by decide) (by decide) (fun _ => ?_) (fun h => absurd h (by decide))
    refine lv_iconst (v := -1) hx hb dX6_board_23 (by decide) ?_
    exact hret ((-1)) () _ _ 24 _ dX6_board_24 rfl (by exact Or.inr ⟨nR_of (by omega) h_5, rfl⟩) hP hD hS

set_option maxHeartbeats 4000000 in
set_option maxRecDepth 100000 in
theorem t_beat (l : Launch) (D : va_G) (a : Nat → Nat) (cI cJ cZ : ClassId) (A : Nat → Prop) (v : Nat → Nat → Nat) (c : Nat → Nat → Int32) (x : Int32) (y : Int32) (hI : XI v) :
    mI l yX6_beat wsX6_beat 3 65 [.ref (a 0), .int x, .int y] D (xT cI cJ cZ) A (xW a cI cJ cZ v c) (fun _ : Unit => xW a cI cJ cZ v c)
    (fun (r : Int32) (u : Unit) => sp_beat (v 11 1) (v 13) (xFig v) x y r) := by
  refine w_bI cX6_beat 3 .int (by decide) rfl (Nat.le_of_ble_eq_true rfl) (Or.inl rfl) ?_
  intro p e s m args below meth c0 ls Q hx hb hml hts hown hK hN hA hret hP hD hS hl
  have hl : lv_has ls 3 [(0, .ref (a 0)), (1, .int x), (2, .int y)] := hl
  have hinX6 : ∀ w ∈ wsX60, w ∈ wsX6_beat := fun w h => List.mem_cons_of_mem _ (List.mem_append_left _ (List.mem_append_right _ h))
  obtain ⟨hnb, hnd, hbt, hfg, hne, hnc, hdk, hnf, hkn, hln, hst, hdc, hsp⟩ := id hI
  refine lv_iload_n hx hb dX6_beat_0 rfl (lv_at hl 2 rfl) ?_
  refine lv_iconst (v := -1) hx hb dX6_beat_1 (by decide) ?_
  refine lv_icmp_ne (x := y) (y := (-1)) hx hb dX6_beat_2 (tgt := 25) (by decide) (fun c2 => ?_) (fun c2 => ?_)
  · skip
    refine lv_aload_n hx hb dX6_beat_25 rfl (lv_at hl 0 rfl) ?_
    refine va_get (D := D) (ci := 6) (v := .ref (a 11)) (C := RX6) (T := TX6) (N := 9) hx hb hts hinX6 hown hK hP 0 rfl rfl 3 (by decide) (hts (.fieldLink RX6 36 "DancedLock" "floor" "LDancedLock$Floor;") (List.mem_of_getElem? (i := 1) rfl)) (fun _ h9 => h9) rfl dX6_beat_26 ?_
    refine lv_iload_n hx hb dX6_beat_29 rfl (lv_at hl 1 rfl) ?_
    refine lv_iload_n hx hb dX6_beat_30 rfl (lv_at hl 2 rfl) ?_
    refine w_cVi (rest := []) hx hb hml hown hts (k_hasBeat_R l D a cI cJ cZ A v c x y  (by first | assumption | omega) (by first | assumption | omega)) 2 gX6_beat_X2_hasBeat rfl hdX2_hasBeat ⟨Nat.le_of_ble_eq_true rfl, Nat.le_of_ble_eq_true rfl⟩ hK hN hP hD hS hA 11 2 rfl rfl rfl rfl hl.1 rfl (Nat.le_of_ble_eq_true rfl) dX6_beat_31 ⟨Nat.le_of_ble_eq_true rfl, Nat.le_of_ble_eq_true rfl⟩ (fun r u H locs hq hP hD hS => ?_)
    rcases hq with ⟨i_31, j_31, rfl, h_31, hj_31, hs_d_31, hs_k_31⟩ | ⟨rfl, h_31⟩ | ⟨i_31, rfl, h_31, hs_d_31, hk_31⟩
    · skip
      have hP : va_P D vwCl (xW a cI cJ cZ v c) H := hP
      have hD : va_D A (xW a cI cJ cZ v c) := hD
      subst hs_d_31
      have i_31T := n_tI (k := i_31) (by have h9 := hbt _ h_31; omega)
      subst hs_k_31
      have j_31T := n_tI (k := j_31) (by have h9 := hbt _ h_31; omega)
      refine w_if_eq (x := 1) hx hb dX6_beat_34 (tgt := 49) (by decide) (by decide) (fun h => absurd h (by decide)) (fun _ => ?_)
      refine lv_aload_n hx hb dX6_beat_37 rfl (lv_at hl 0 rfl) ?_
      refine va_get (D := D) (ci := 6) (v := .ref (a 11)) (C := RX6) (T := TX6) (N := 9) hx hb hts hinX6 hown hK hP 0 rfl rfl 3 (by decide) (hts (.fieldLink RX6 36 "DancedLock" "floor" "LDancedLock$Floor;") (List.mem_of_getElem? (i := 1) rfl)) (fun _ h9 => h9) rfl dX6_beat_38 ?_
      refine lv_iload_n hx hb dX6_beat_41 rfl (lv_at hl 1 rfl) ?_
      refine lv_iload_n hx hb dX6_beat_42 rfl (lv_at hl 2 rfl) ?_
      refine w_cVi (rest := []) hx hb hml hown hts (k_figureAt l D a cI cJ cZ A v c i_31 j_31  (by first | assumption | omega) (by first | assumption | omega) (by first | assumption | omega) (by have h9 := hbt _ h_31; omega)) 2 gX6_beat_X2_figureAt rfl hdX2_figureAt ⟨Nat.le_of_ble_eq_true rfl, Nat.le_of_ble_eq_true rfl⟩ hK hN hP hD hS hA 11 2 rfl rfl rfl rfl hl.1 rfl (Nat.le_of_ble_eq_true rfl) dX6_beat_43 ⟨Nat.le_of_ble_eq_true rfl, Nat.le_of_ble_eq_true rfl⟩ (fun r u H locs hq hP hD hS => ?_)
      obtain rfl := hq
      have hP : va_P D vwCl (xW a cI cJ cZ v c) H := hP
      have hD : va_D A (xW a cI cJ cZ v c) := hD
      rw [show (nI (if j_31 < (v 13) i_31 then (v 14) (i_31 * 6 + j_31) else 0)) = (nI (v 14 (i_31 * 6 + j_31))) from by rw [if_pos hj_31]]
      refine lv_goto (tgt := 50) hx hb dX6_beat_46 (by decide) ?_
      exact hret (nI (v 14 (i_31 * 6 + j_31))) () _ _ 50 _ dX6_beat_50 rfl (by exact Or.inl ⟨i_31, h_31, rfl, Or.inr (Or.inl ⟨j_31, hj_31, rfl, rfl⟩)⟩) hP hD hS
    · skip
      have hP : va_P D vwCl (xW a cI cJ cZ v c) H := hP
      have hD : va_D A (xW a cI cJ cZ v c) := hD
      refine w_if_eq (x := 0) hx hb dX6_beat_34 (tgt := 49) (by decide) (by decide) (fun _ => ?_) (fun h => absurd h (by decide))
      refine lv_iconst (v := -1) hx hb dX6_beat_49 (by decide) ?_
      exact hret ((-1)) () _ _ 50 _ dX6_beat_50 rfl (by first | exact Or.inr ⟨nR_of (by omega) h_31, rfl⟩ | exact Or.inl ⟨i_31, h_31, rfl, Or.inr (Or.inr ⟨c2, nR_of (by have h9 := hbt i_31 h_31; omega) hk_31, rfl⟩)⟩ | (exfalso; omega)) hP hD hS
    · skip
      have hP : va_P D vwCl (xW a cI cJ cZ v c) H := hP
      have hD : va_D A (xW a cI cJ cZ v c) := hD
      subst hs_d_31
      have i_31T := n_tI (k := i_31) (by have h9 := hbt _ h_31; omega)
      refine w_if_eq (x := 0) hx hb dX6_beat_34 (tgt := 49) (by decide) (by decide) (fun _ => ?_) (fun h => absurd h (by decide))
      refine lv_iconst (v := -1) hx hb dX6_beat_49 (by decide) ?_
      exact hret ((-1)) () _ _ 50 _ dX6_beat_50 rfl (by first | exact Or.inr ⟨nR_of (by omega) h_31, rfl⟩ | exact Or.inl ⟨i_31, h_31, rfl, Or.inr (Or.inr ⟨c2, nR_of (by have h9 := hbt i_31 h_31; omega) hk_31, rfl⟩)⟩ | (exfalso; omega)) hP hD hS
  · skip
    refine lv_aload_n hx hb dX6_beat_5 rfl (lv_at hl 0 rfl) ?_
    refine va_get (D := D) (ci := 6) (v := .ref (a 11)) (C := RX6) (T := TX6) (N := 9) hx hb hts hinX6 hown hK hP 0 rfl rfl 3 (by decide) (hts (.fieldLink RX6 36 "DancedLock" "floor" "LDancedLock$Floor;") (List.mem_of_getElem? (i := 1) rfl)) (fun _ h9 => h9) rfl dX6_beat_6 ?_
    refine lv_iload_n hx hb dX6_beat_9 rfl (lv_at hl 1 rfl) ?_
    refine w_cVi (rest := []) hx hb hml hown hts (k_hasDoor_R l D a cI cJ cZ A v c x  (by first | assumption | omega)) 1 gX6_beat_X2_hasDoor rfl hdX2_hasDoor ⟨Nat.le_of_ble_eq_true rfl, Nat.le_of_ble_eq_true rfl⟩ hK hN hP hD hS hA 11 2 rfl rfl rfl rfl hl.1 rfl (Nat.le_of_ble_eq_true rfl) dX6_beat_10 ⟨Nat.le_of_ble_eq_true rfl, Nat.le_of_ble_eq_true rfl⟩ (fun r u H locs hq hP hD hS => ?_)
    rcases hq with ⟨j_10, rfl, h_10, hs_x_10⟩ | ⟨rfl, h_10⟩
    · skip
      have hP : va_P D vwCl (xW a cI cJ cZ v c) H := hP
      have hD : va_D A (xW a cI cJ cZ v c) := hD
      subst hs_x_10
      have j_10T := n_tI (k := j_10) (by omega)
      refine w_if_eq (x := 1) hx hb dX6_beat_13 (tgt := 25) (by decide) (by decide) (fun h => absurd h (by decide)) (fun _ => ?_)
      refine lv_aload_n hx hb dX6_beat_16 rfl (lv_at hl 0 rfl) ?_
      refine va_get (D := D) (ci := 6) (v := .ref (a 11)) (C := RX6) (T := TX6) (N := 9) hx hb hts hinX6 hown hK hP 0 rfl rfl 3 (by decide) (hts (.fieldLink RX6 36 "DancedLock" "floor" "LDancedLock$Floor;") (List.mem_of_getElem? (i := 1) rfl)) (fun _ h9 => h9) rfl dX6_beat_17 ?_
      refine lv_iload_n hx hb dX6_beat_20 rfl (lv_at hl 1 rfl) ?_
      refine w_cVi (rest := []) hx hb hml hown hts (k_beatsOf l D a cI cJ cZ A v c j_10  (by first | assumption | omega) (by first | assumption | omega)) 1 gX6_beat_X2_beatsOf rfl hdX2_beatsOf ⟨Nat.le_of_ble_eq_true rfl, Nat.le_of_ble_eq_true rfl⟩ hK hN hP hD hS hA 11 2 rfl rfl rfl rfl hl.1 rfl (Nat.le_of_ble_eq_true rfl) dX6_beat_21 ⟨Nat.le_of_ble_eq_true rfl, Nat.le_of_ble_eq_true rfl⟩ (fun r u H locs hq hP hD hS => ?_)
      obtain rfl := hq
      have hP : va_P D vwCl (xW a cI cJ cZ v c) H := hP
      have hD : va_D A (xW a cI cJ cZ v c) := hD
      exact hret (nI ((v 13) j_10)) () _ _ 24 _ dX6_beat_24 rfl (by exact Or.inl ⟨j_10, h_10, rfl, Or.inl ⟨c2, rfl⟩⟩) hP hD hS
    · skip
      have hP : va_P D vwCl (xW a cI cJ cZ v c) H := hP
      have hD : va_D A (xW a cI cJ cZ v c) := hD
      refine w_if_eq (x := 0) hx hb dX6_beat_13 (tgt := 25) (by decide) (by decide) (fun _ => ?_) (fun h => absurd h (by decide))
      refine lv_aload_n hx hb dX6_beat_25 rfl (lv_at hl 0 rfl) ?_
      refine va_get (D := D) (ci := 6) (v := .ref (a 11)) (C := RX6) (T := TX6) (N := 9) hx hb hts hinX6 hown hK hP 0 rfl rfl 3 (by decide) (hts (.fieldLink RX6 36 "DancedLock" "floor" "LDancedLock$Floor;") (List.mem_of_getElem? (i := 1) rfl)) (fun _ h9 => h9) rfl dX6_beat_26 ?_
      refine lv_iload_n hx hb dX6_beat_29 rfl (lv_at hl 1 rfl) ?_
      refine lv_iload_n hx hb dX6_beat_30 rfl (lv_at hl 2 rfl) ?_
      refine w_cVi (rest := []) hx hb hml hown hts (k_hasBeat_R l D a cI cJ cZ A v c x y  (by first | assumption | omega) (by first | assumption | omega)) 2 gX6_beat_X2_hasBeat rfl hdX2_hasBeat ⟨Nat.le_of_ble_eq_true rfl, Nat.le_of_ble_eq_true rfl⟩ hK hN hP hD hS hA 11 2 rfl rfl rfl rfl hl.1 rfl (Nat.le_of_ble_eq_true rfl) dX6_beat_31 ⟨Nat.le_of_ble_eq_true rfl, Nat.le_of_ble_eq_true rfl⟩ (fun r u H locs hq hP hD hS => ?_)
      rcases hq with ⟨i_31, j_31, rfl, h_31, hj_31, hs_d_31, hs_k_31⟩ | ⟨rfl, h_31⟩ | ⟨i_31, rfl, h_31, hs_d_31, hk_31⟩
      · skip
        have hP : va_P D vwCl (xW a cI cJ cZ v c) H := hP
        have hD : va_D A (xW a cI cJ cZ v c) := hD
        subst hs_d_31
        have i_31T := n_tI (k := i_31) (by have h9 := hbt _ h_31; omega)
        subst hs_k_31
        have j_31T := n_tI (k := j_31) (by have h9 := hbt _ h_31; omega)
        refine w_if_eq (x := 1) hx hb dX6_beat_34 (tgt := 49) (by decide) (by decide) (fun h => absurd h (by decide)) (fun _ => ?_)
        refine lv_aload_n hx hb dX6_beat_37 rfl (lv_at hl 0 rfl) ?_
        refine va_get (D := D) (ci := 6) (v := .ref (a 11)) (C := RX6) (T := TX6) (N := 9) hx hb hts hinX6 hown hK hP 0 rfl rfl 3 (by decide) (hts (.fieldLink RX6 36 "DancedLock" "floor" "LDancedLock$Floor;") (List.mem_of_getElem? (i := 1) rfl)) (fun _ h9 => h9) rfl dX6_beat_38 ?_
        refine lv_iload_n hx hb dX6_beat_41 rfl (lv_at hl 1 rfl) ?_
        refine lv_iload_n hx hb dX6_beat_42 rfl (lv_at hl 2 rfl) ?_
        refine w_cVi (rest := []) hx hb hml hown hts (k_figureAt l D a cI cJ cZ A v c i_31 j_31  (by first | assumption | omega) (by first | assumption | omega) (by first | assumption | omega) (by have h9 := hbt _ h_31; omega)) 2 gX6_beat_X2_figureAt rfl hdX2_figureAt ⟨Nat.le_of_ble_eq_true rfl, Nat.le_of_ble_eq_true rfl⟩ hK hN hP hD hS hA 11 2 rfl rfl rfl rfl hl.1 rfl (Nat.le_of_ble_eq_true rfl) dX6_beat_43 ⟨Nat.le_of_ble_eq_true rfl, Nat.le_of_ble_eq_true rfl⟩ (fun r u H locs hq hP hD hS => ?_)
        obtain rfl := hq
        have hP : va_P D vwCl (xW a cI cJ cZ v c) H := hP
        have hD : va_D A (xW a cI cJ cZ v c) := hD
        rw [show (nI (if j_31 < (v 13) i_31 then (v 14) (i_31 * 6 + j_31) else 0)) = (nI (v 14 (i_31 * 6 + j_31))) from by rw [if_pos hj_31]]
        refine lv_goto (tgt := 50) hx hb dX6_beat_46 (by decide) ?_
        exact hret (nI (v 14 (i_31 * 6 + j_31))) () _ _ 50 _ dX6_beat_50 rfl (by exact Or.inl ⟨i_31, h_31, rfl, Or.inr (Or.inl ⟨j_31, hj_31, rfl, rfl⟩)⟩) hP hD hS
      · skip
        have hP : va_P D vwCl (xW a cI cJ cZ v c) H := hP
        have hD : va_D A (xW a cI cJ cZ v c) := hD
        refine w_if_eq (x := 0) hx hb dX6_beat_34 (tgt := 49) (by decide) (by decide) (fun _ => ?_) (fun h => absurd h (by decide))
        refine lv_iconst (v := -1) hx hb dX6_beat_49 (by decide) ?_
        exact hret ((-1)) () _ _ 50 _ dX6_beat_50 rfl (by first | exact Or.inr ⟨nR_of (by omega) h_31, rfl⟩ | exact Or.inl ⟨i_31, h_31, rfl, Or.inr (Or.inr ⟨c2, nR_of (by have h9 := hbt i_31 h_31; omega) hk_31, rfl⟩)⟩ | (exfalso; omega)) hP hD hS
      · skip
        have hP : va_P D vwCl (xW a cI cJ cZ v c) H := hP
        have hD : va_D A (xW a cI cJ cZ v c) := hD
        subst hs_d_31
        have i_31T := n_tI (k := i_31) (by have h9 := hbt _ h_31; omega)
        refine w_if_eq (x := 0) hx hb dX6_beat_34 (tgt := 49) (by decide) (by decide) (fun _ => ?_) (fun h => absurd h (by decide))
        refine lv_iconst (v := -1) hx hb dX6_beat_49 (by decide) ?_
        exact hret ((-1)) () _ _ 50 _ dX6_beat_50 rfl (by first | exact Or.inr ⟨nR_of (by omega) h_31, rfl⟩ | exact Or.inl ⟨i_31, h_31, rfl, Or.inr (Or.inr ⟨c2, nR_of (by have h9 := hbt i_31 h_31; omega) hk_31, rfl⟩)⟩ | (exfalso; omega)) hP hD hS

set_option maxHeartbeats 4000000 in
set_option maxRecDepth 100000 in
theorem t_ofDancer (l : Launch) (D : va_G) (a : Nat → Nat) (cI cJ cZ : ClassId) (A : Nat → Prop) (v : Nat → Nat → Nat) (c : Nat → Nat → Int32) (x : Int32) (y : Int32) (hI : XI v) :
    mI l yX6_ofDancer wsX6_ofDancer 2 42 [.ref (a 0), .int x, .int y] D (xT cI cJ cZ) A (xW a cI cJ cZ v c) (fun _ : Unit => xW a cI cJ cZ v c)
    (fun (r : Int32) (u : Unit) => sp_ofDancer (v 15 0) (v 16) (v 17) x y r) := by
  refine w_bI cX6_ofDancer 3 .int (by decide) rfl (Nat.le_of_ble_eq_true rfl) (Or.inl rfl) ?_
  intro p e s m args below meth c0 ls Q hx hb hml hts hown hK hN hA hret hP hD hS hl
  have hl : lv_has ls 3 [(0, .ref (a 0)), (1, .int x), (2, .int y)] := hl
  have hinX6 : ∀ w ∈ wsX60, w ∈ wsX6_ofDancer := fun w h => List.mem_cons_of_mem _ (List.mem_append_left _ (List.mem_append_right _ h))
  obtain ⟨hnb, hnd, hbt, hfg, hne, hnc, hdk, hnf, hkn, hln, hst, hdc, hsp⟩ := id hI
  refine lv_aload_n hx hb dX6_ofDancer_0 rfl (lv_at hl 0 rfl) ?_
  refine va_get (D := D) (ci := 6) (v := .ref (a 15)) (C := RX6) (T := TX6) (N := 9) hx hb hts hinX6 hown hK hP 0 rfl rfl 4 (by decide) (hts (.fieldLink RX6 41 "DancedLock" "troupe" "LDancedLock$Troupe;") (List.mem_of_getElem? (i := 1) rfl)) (fun _ h9 => h9) rfl dX6_ofDancer_1 ?_
  refine lv_iload_n hx hb dX6_ofDancer_4 rfl (lv_at hl 1 rfl) ?_
  refine w_cVi (rest := []) hx hb hml hown hts (k_tincl_R l D a cI cJ cZ A v c x  (by first | assumption | omega)) 1 gX6_ofDancer_X5_includes rfl hdX5_includes ⟨Nat.le_of_ble_eq_true rfl, Nat.le_of_ble_eq_true rfl⟩ hK hN hP hD hS hA 15 5 rfl rfl rfl rfl hl.1 rfl (Nat.le_of_ble_eq_true rfl) dX6_ofDancer_5 ⟨Nat.le_of_ble_eq_true rfl, Nat.le_of_ble_eq_true rfl⟩ (fun r u H locs hq hP hD hS => ?_)
  rcases hq with ⟨j_5, rfl, h_5, hs_x_5⟩ | ⟨rfl, h_5⟩
  · skip
    have hP : va_P D vwCl (xW a cI cJ cZ v c) H := hP
    have hD : va_D A (xW a cI cJ cZ v c) := hD
    subst hs_x_5
    have j_5T := n_tI (k := j_5) (by omega)
    refine w_if_ne (x := 1) hx hb dX6_ofDancer_8 (tgt := 13) (by decide) (by decide) (fun _ => ?_) (fun h => absurd h (by decide))
    refine lv_iload_n hx hb dX6_ofDancer_13 rfl (lv_at hl 2 rfl) ?_
    rcases n3_cases y with rfl | rfl | rfl | hno
    · skip
      refine lv_tableIn (tgt := 40) hx hb dX6_ofDancer_14 (by decide) (by decide) (off := 26) (by decide) (by decide) ?_
      refine lv_aload_n hx hb dX6_ofDancer_40 rfl (lv_at hl 0 rfl) ?_
      refine va_get (D := D) (ci := 6) (v := .ref (a 15)) (C := RX6) (T := TX6) (N := 9) hx hb hts hinX6 hown hK hP 0 rfl rfl 4 (by decide) (hts (.fieldLink RX6 41 "DancedLock" "troupe" "LDancedLock$Troupe;") (List.mem_of_getElem? (i := 1) rfl)) (fun _ h9 => h9) rfl dX6_ofDancer_41 ?_
      refine lv_iload_n hx hb dX6_ofDancer_44 rfl (lv_at hl 1 rfl) ?_
      refine w_cVi (rest := []) hx hb hml hown hts (k_kindOf l D a cI cJ cZ A v c j_5  (by first | assumption | omega) (by first | assumption | omega)) 1 gX6_ofDancer_X5_kindOf rfl hdX5_kindOf ⟨Nat.le_of_ble_eq_true rfl, Nat.le_of_ble_eq_true rfl⟩ hK hN hP hD hS hA 15 5 rfl rfl rfl rfl hl.1 rfl (Nat.le_of_ble_eq_true rfl) dX6_ofDancer_45 ⟨Nat.le_of_ble_eq_true rfl, Nat.le_of_ble_eq_true rfl⟩ (fun r u H locs hq hP hD hS => ?_)
      obtain rfl := hq
      have hP : va_P D vwCl (xW a cI cJ cZ v c) H := hP
      have hD : va_D A (xW a cI cJ cZ v c) := hD
      exact hret (nI ((v 16) j_5)) () _ _ 48 _ dX6_ofDancer_48 rfl (by exact Or.inl ⟨j_5, h_5, rfl, Or.inl ⟨rfl, rfl⟩⟩) hP hD hS
    · skip
      refine lv_tableIn (tgt := 49) hx hb dX6_ofDancer_14 (by decide) (by decide) (off := 35) (by decide) (by decide) ?_
      refine lv_aload_n hx hb dX6_ofDancer_49 rfl (lv_at hl 0 rfl) ?_
      refine va_get (D := D) (ci := 6) (v := .ref (a 15)) (C := RX6) (T := TX6) (N := 9) hx hb hts hinX6 hown hK hP 0 rfl rfl 4 (by decide) (hts (.fieldLink RX6 41 "DancedLock" "troupe" "LDancedLock$Troupe;") (List.mem_of_getElem? (i := 1) rfl)) (fun _ h9 => h9) rfl dX6_ofDancer_50 ?_
      refine lv_iload_n hx hb dX6_ofDancer_53 rfl (lv_at hl 1 rfl) ?_
      refine w_cVi (rest := []) hx hb hml hown hts (k_weightOf l D a cI cJ cZ A v c j_5  (by first | assumption | omega) (by first | assumption | omega)) 1 gX6_ofDancer_X5_weightOf rfl hdX5_weightOf ⟨Nat.le_of_ble_eq_true rfl, Nat.le_of_ble_eq_true rfl⟩ hK hN hP hD hS hA 15 5 rfl rfl rfl rfl hl.1 rfl (Nat.le_of_ble_eq_true rfl) dX6_ofDancer_54 ⟨Nat.le_of_ble_eq_true rfl, Nat.le_of_ble_eq_true rfl⟩ (fun r u H locs hq hP hD hS => ?_)
      obtain rfl := hq
      have hP : va_P D vwCl (xW a cI cJ cZ v c) H := hP
      have hD : va_D A (xW a cI cJ cZ v c) := hD
      exact hret (nI ((v 17) j_5)) () _ _ 57 _ dX6_ofDancer_57 rfl (by exact Or.inl ⟨j_5, h_5, rfl, Or.inr (Or.inl ⟨rfl, rfl⟩)⟩) hP hD hS
    · skip
      refine lv_tableIn (tgt := 58) hx hb dX6_ofDancer_14 (by decide) (by decide) (off := 44) (by decide) (by decide) ?_
      refine lv_aload_n hx hb dX6_ofDancer_58 rfl (lv_at hl 0 rfl) ?_
      refine va_get (D := D) (ci := 6) (v := .ref (a 15)) (C := RX6) (T := TX6) (N := 9) hx hb hts hinX6 hown hK hP 0 rfl rfl 4 (by decide) (hts (.fieldLink RX6 41 "DancedLock" "troupe" "LDancedLock$Troupe;") (List.mem_of_getElem? (i := 1) rfl)) (fun _ h9 => h9) rfl dX6_ofDancer_59 ?_
      refine lv_iload_n hx hb dX6_ofDancer_62 rfl (lv_at hl 1 rfl) ?_
      refine w_cVi (rest := []) hx hb hml hown hts (k_kindOf l D a cI cJ cZ A v c j_5  (by first | assumption | omega) (by first | assumption | omega)) 1 gX6_ofDancer_X5_kindOf rfl hdX5_kindOf ⟨Nat.le_of_ble_eq_true rfl, Nat.le_of_ble_eq_true rfl⟩ hK hN hP hD hS hA 15 5 rfl rfl rfl rfl hl.1 rfl (Nat.le_of_ble_eq_true rfl) dX6_ofDancer_63 ⟨Nat.le_of_ble_eq_true rfl, Nat.le_of_ble_eq_true rfl⟩ (fun r u H locs hq hP hD hS => ?_)
      obtain rfl := hq
      have hP : va_P D vwCl (xW a cI cJ cZ v c) H := hP
      have hD : va_D A (xW a cI cJ cZ v c) := hD
      refine lv_aload_n hx hb dX6_ofDancer_66 rfl (lv_at hl 0 rfl) ?_
      refine va_get (D := D) (ci := 6) (v := .ref (a 15)) (C := RX6) (T := TX6) (N := 9) hx hb hts hinX6 hown hK hP 0 rfl rfl 4 (by decide) (hts (.fieldLink RX6 41 "DancedLock" "troupe" "LDancedLock$Troupe;") (List.mem_of_getElem? (i := 1) rfl)) (fun _ h9 => h9) rfl dX6_ofDancer_67 ?_
      refine lv_iload_n hx hb dX6_ofDancer_70 rfl (lv_at hl 1 rfl) ?_
      refine w_cVi (rest := [.int (nI ((v 16) j_5))]) hx hb hml hown hts (k_weightOf l D a cI cJ cZ A v c j_5  (by first | assumption | omega) (by first | assumption | omega)) 1 gX6_ofDancer_X5_weightOf rfl hdX5_weightOf ⟨Nat.le_of_ble_eq_true rfl, Nat.le_of_ble_eq_true rfl⟩ hK hN hP hD hS hA 15 5 rfl rfl rfl rfl hl.1 rfl (Nat.le_of_ble_eq_true rfl) dX6_ofDancer_71 ⟨Nat.le_of_ble_eq_true rfl, Nat.le_of_ble_eq_true rfl⟩ (fun r u H locs hq hP hD hS => ?_)
      obtain rfl := hq
      have hP : va_P D vwCl (xW a cI cJ cZ v c) H := hP
      have hD : va_D A (xW a cI cJ cZ v c) := hD
      have hkd := hdk j_5 h_5
      refine w_cSi (rest := []) hx hb hml hown hts (k_pull l D a cI cJ cZ A v c ((v 16) j_5) ((v 17) j_5)  (by first | assumption | omega) (by first | assumption | omega)) 2 gX6_ofDancer_X5_pull rfl hdX5_pull ⟨Nat.le_of_ble_eq_true rfl, Nat.le_of_ble_eq_true rfl⟩ hK hN hP hD hS hA rfl hl.1 rfl (Nat.le_of_ble_eq_true rfl) dX6_ofDancer_74 ⟨Nat.le_of_ble_eq_true rfl, Nat.le_of_ble_eq_true rfl⟩ (fun r u H locs hq hP hD hS => ?_)
      obtain rfl := hq
      have hP : va_P D vwCl (xW a cI cJ cZ v c) H := hP
      have hD : va_D A (xW a cI cJ cZ v c) := hD
      exact hret (nI (if ((v 16) j_5) = 2 then ((v 17) j_5) / 2 else ((v 17) j_5))) () _ _ 77 _ dX6_ofDancer_77 rfl (by exact Or.inl ⟨j_5, h_5, rfl, Or.inr (Or.inr (Or.inl ⟨rfl, rfl⟩))⟩) hP hD hS
    · skip
      refine lv_tableOut (tgt := 78) hx hb dX6_ofDancer_14 (by have h9 := nR_lt (by decide) hno; omega) (by decide) ?_
      refine lv_bipush (v := -2) hx hb dX6_ofDancer_78 (by decide) ?_
      exact hret ((-2)) () _ _ 80 _ dX6_ofDancer_80 rfl (by exact Or.inl ⟨j_5, h_5, rfl, Or.inr (Or.inr (Or.inr ⟨hno, rfl⟩))⟩) hP hD hS
  · skip
    have hP : va_P D vwCl (xW a cI cJ cZ v c) H := hP
    have hD : va_D A (xW a cI cJ cZ v c) := hD
    refine w_if_ne (x := 0) hx hb dX6_ofDancer_8 (tgt := 13) (by decide) (by decide) (fun h => absurd h (by decide)) (fun _ => ?_)
    refine lv_iconst (v := -1) hx hb dX6_ofDancer_11 (by decide) ?_
    exact hret ((-1)) () _ _ 12 _ dX6_ofDancer_12 rfl (by exact Or.inr ⟨nR_of (by omega) h_5, rfl⟩) hP hD hS

set_option maxHeartbeats 4000000 in
set_option maxRecDepth 100000 in
theorem t_many (l : Launch) (D : va_G) (a : Nat → Nat) (cI cJ cZ : ClassId) (A : Nat → Prop) (v : Nat → Nat → Nat) (c : Nat → Nat → Int32) (x : Int32) (hI : XI v) :
    mI l yX6_many wsX6_many 0 0 [.ref (a 0), .int x] D (xT cI cJ cZ) A (xW a cI cJ cZ v c) (fun _ : Unit => xW a cI cJ cZ v c)
    (fun (r : Int32) (u : Unit) => sp_many (v 11 0) (v 11 1) (v 15 0) (v 23 0) x r) := by
  refine w_bI cX6_many 2 .int (by decide) rfl (Nat.le_of_ble_eq_true rfl) (Or.inl rfl) ?_
  intro p e s m args below meth c0 ls Q hx hb hml hts hown hK hN hA hret hP hD hS hl
  have hl : lv_has ls 2 [(0, .ref (a 0)), (1, .int x)] := hl
  have hinX1 : ∀ w ∈ wsX10, w ∈ wsX6_many := fun w h => List.mem_cons_of_mem _ (List.mem_append_right _ h)
  have hinX2 : ∀ w ∈ wsX20, w ∈ wsX6_many := fun w h => List.mem_cons_of_mem _ (List.mem_append_left _ (List.mem_append_left _ (List.mem_append_right _ h)))
  have hinX5 : ∀ w ∈ wsX50, w ∈ wsX6_many := fun w h => List.mem_cons_of_mem _ (List.mem_append_left _ (List.mem_append_right _ h))
  have hinX6 : ∀ w ∈ wsX60, w ∈ wsX6_many := fun w h => List.mem_cons_of_mem _ (List.mem_append_left _ (List.mem_append_left _ (List.mem_append_left _ (List.mem_append_right _ h))))
  obtain ⟨hnb, hnd, hbt, hfg, hne, hnc, hdk, hnf, hkn, hln, hst, hdc, hsp⟩ := id hI
  refine lv_iload_n hx hb dX6_many_0 rfl (lv_at hl 1 rfl) ?_
  rcases n4_cases x with rfl | rfl | rfl | rfl | hno
  · skip
    refine lv_tableIn (tgt := 32) hx hb dX6_many_1 (by decide) (by decide) (off := 31) (by decide) (by decide) ?_
    refine lv_aload_n hx hb dX6_many_32 rfl (lv_at hl 0 rfl) ?_
    refine va_get (D := D) (ci := 6) (v := .ref (a 11)) (C := RX6) (T := TX6) (N := 9) hx hb hts hinX6 hown hK hP 0 rfl rfl 3 (by decide) (hts (.fieldLink RX6 36 "DancedLock" "floor" "LDancedLock$Floor;") (List.mem_of_getElem? (i := 1) rfl)) (fun _ h9 => h9) rfl dX6_many_33 ?_
    refine va_getN (D := D) (ci := 2) (v := .int (nI (v 11 0))) (C := RX2) (T := TX2) (N := 5) hx hb hts hinX2 hown hK hP 11 rfl rfl 0 (by decide) (va_Nw.use rfl (hN (.fieldLinkNest RX6 268 "DancedLock$Floor" "boards" "I" "DancedLock") (List.mem_of_getElem? (i := 1) rfl))) (fun _ h9 => h9) rfl dX6_many_36 ?_
    exact hret (nI (v 11 0)) () _ _ 39 _ dX6_many_39 rfl (by exact Or.inl ⟨rfl, rfl⟩) hP hD hS
  · skip
    refine lv_tableIn (tgt := 40) hx hb dX6_many_1 (by decide) (by decide) (off := 39) (by decide) (by decide) ?_
    refine lv_aload_n hx hb dX6_many_40 rfl (lv_at hl 0 rfl) ?_
    refine va_get (D := D) (ci := 6) (v := .ref (a 11)) (C := RX6) (T := TX6) (N := 9) hx hb hts hinX6 hown hK hP 0 rfl rfl 3 (by decide) (hts (.fieldLink RX6 36 "DancedLock" "floor" "LDancedLock$Floor;") (List.mem_of_getElem? (i := 1) rfl)) (fun _ h9 => h9) rfl dX6_many_41 ?_
    refine va_getN (D := D) (ci := 2) (v := .int (nI (v 11 1))) (C := RX2) (T := TX2) (N := 5) hx hb hts hinX2 hown hK hP 11 rfl rfl 1 (by decide) (va_Nw.use rfl (hN (.fieldLinkNest RX6 77 "DancedLock$Floor" "doors" "I" "DancedLock") (List.mem_of_getElem? (i := 2) rfl))) (fun _ h9 => h9) rfl dX6_many_44 ?_
    exact hret (nI (v 11 1)) () _ _ 47 _ dX6_many_47 rfl (by exact Or.inr (Or.inl ⟨rfl, rfl⟩)) hP hD hS
  · skip
    refine lv_tableIn (tgt := 48) hx hb dX6_many_1 (by decide) (by decide) (off := 47) (by decide) (by decide) ?_
    refine lv_aload_n hx hb dX6_many_48 rfl (lv_at hl 0 rfl) ?_
    refine va_get (D := D) (ci := 6) (v := .ref (a 15)) (C := RX6) (T := TX6) (N := 9) hx hb hts hinX6 hown hK hP 0 rfl rfl 4 (by decide) (hts (.fieldLink RX6 41 "DancedLock" "troupe" "LDancedLock$Troupe;") (List.mem_of_getElem? (i := 2) rfl)) (fun _ h9 => h9) rfl dX6_many_49 ?_
    refine va_getN (D := D) (ci := 5) (v := .int (nI (v 15 0))) (C := RX5) (T := TX5) (N := 3) hx hb hts hinX5 hown hK hP 15 rfl rfl 0 (by decide) (va_Nw.use rfl (hN (.fieldLinkNest RX6 70 "DancedLock$Troupe" "count" "I" "DancedLock") (List.mem_of_getElem? (i := 9) rfl))) (fun _ h9 => h9) rfl dX6_many_52 ?_
    exact hret (nI (v 15 0)) () _ _ 55 _ dX6_many_55 rfl (by exact Or.inr (Or.inr (Or.inl ⟨rfl, rfl⟩))) hP hD hS
  · skip
    refine lv_tableIn (tgt := 56) hx hb dX6_many_1 (by decide) (by decide) (off := 55) (by decide) (by decide) ?_
    refine lv_aload_n hx hb dX6_many_56 rfl (lv_at hl 0 rfl) ?_
    refine va_get (D := D) (ci := 6) (v := .ref (a 23)) (C := RX6) (T := TX6) (N := 9) hx hb hts hinX6 hown hK hP 0 rfl rfl 5 (by decide) (hts (.fieldLink RX6 45 "DancedLock" "families" "LDancedLock$Families;") (List.mem_of_getElem? (i := 3) rfl)) (fun _ h9 => h9) rfl dX6_many_57 ?_
    refine va_getN (D := D) (ci := 1) (v := .int (nI (v 23 0))) (C := RX1) (T := TX1) (N := 2) hx hb hts hinX1 hown hK hP 23 rfl rfl 0 (by decide) (va_Nw.use rfl (hN (.fieldLinkNest RX6 76 "DancedLock$Families" "count" "I" "DancedLock") (List.mem_of_getElem? (i := 12) rfl))) (fun _ h9 => h9) rfl dX6_many_60 ?_
    exact hret (nI (v 23 0)) () _ _ 63 _ dX6_many_63 rfl (by exact Or.inr (Or.inr (Or.inr (Or.inl ⟨rfl, rfl⟩)))) hP hD hS
  · skip
    refine lv_tableOut (tgt := 64) hx hb dX6_many_1 (by have h9 := nR_lt (by decide) hno; omega) (by decide) ?_
    refine lv_bipush (v := -2) hx hb dX6_many_64 (by decide) ?_
    exact hret ((-2)) () _ _ 66 _ dX6_many_66 rfl (by exact Or.inr (Or.inr (Or.inr (Or.inr ⟨hno, rfl⟩)))) hP hD hS

set_option maxHeartbeats 4000000 in
set_option maxRecDepth 100000 in
theorem t_knows (l : Launch) (D : va_G) (a : Nat → Nat) (cI cJ cZ : ClassId) (A : Nat → Prop) (v : Nat → Nat → Nat) (c : Nat → Nat → Int32) (x : Int32) (hI : XI v) :
    mI l yX6_knows wsX6_knows 2 42 [.ref (a 0), .int x] D (xT cI cJ cZ) A (xW a cI cJ cZ v c) (fun _ : Unit => xW a cI cJ cZ v c)
    (fun (r : Int32) (u : Unit) => sp_board (v 23 0) (v 24) x r) := by
  refine w_bI cX6_knows 2 .int (by decide) rfl (Nat.le_of_ble_eq_true rfl) (Or.inl rfl) ?_
  intro p e s m args below meth c0 ls Q hx hb hml hts hown hK hN hA hret hP hD hS hl
  have hl : lv_has ls 2 [(0, .ref (a 0)), (1, .int x)] := hl
  have hinX6 : ∀ w ∈ wsX60, w ∈ wsX6_knows := fun w h => List.mem_cons_of_mem _ (List.mem_append_left _ (List.mem_append_right _ h))
  obtain ⟨hnb, hnd, hbt, hfg, hne, hnc, hdk, hnf, hkn, hln, hst, hdc, hsp⟩ := id hI
  refine lv_aload_n hx hb dX6_knows_0 rfl (lv_at hl 0 rfl) ?_
  refine va_get (D := D) (ci := 6) (v := .ref (a 23)) (C := RX6) (T := TX6) (N := 9) hx hb hts hinX6 hown hK hP 0 rfl rfl 5 (by decide) (hts (.fieldLink RX6 45 "DancedLock" "families" "LDancedLock$Families;") (List.mem_of_getElem? (i := 1) rfl)) (fun _ h9 => h9) rfl dX6_knows_1 ?_
  refine lv_iload_n hx hb dX6_knows_4 rfl (lv_at hl 1 rfl) ?_
  refine w_cVi (rest := []) hx hb hml hown hts (k_fincl_R l D a cI cJ cZ A v c x  (by first | assumption | omega)) 1 gX6_knows_X1_includes rfl hdX1_includes ⟨Nat.le_of_ble_eq_true rfl, Nat.le_of_ble_eq_true rfl⟩ hK hN hP hD hS hA 23 1 rfl rfl rfl rfl hl.1 rfl (Nat.le_of_ble_eq_true rfl) dX6_knows_5 ⟨Nat.le_of_ble_eq_true rfl, Nat.le_of_ble_eq_true rfl⟩ (fun r u H locs hq hP hD hS => ?_)
  rcases hq with ⟨j_5, rfl, h_5, hs_x_5⟩ | ⟨rfl, h_5⟩
  · skip
    have hP : va_P D vwCl (xW a cI cJ cZ v c) H := hP
    have hD : va_D A (xW a cI cJ cZ v c) := hD
    subst hs_x_5
    have j_5T := n_tI (k := j_5) (by omega)
    refine w_if_eq (x := 1) hx hb dX6_knows_8 (tgt := 22) (by decide) (by decide) (fun h => absurd h (by decide)) (fun _ => ?_)
    refine lv_aload_n hx hb dX6_knows_11 rfl (lv_at hl 0 rfl) ?_
    refine va_get (D := D) (ci := 6) (v := .ref (a 23)) (C := RX6) (T := TX6) (N := 9) hx hb hts hinX6 hown hK hP 0 rfl rfl 5 (by decide) (hts (.fieldLink RX6 45 "DancedLock" "families" "LDancedLock$Families;") (List.mem_of_getElem? (i := 1) rfl)) (fun _ h9 => h9) rfl dX6_knows_12 ?_
    refine lv_iload_n hx hb dX6_knows_15 rfl (lv_at hl 1 rfl) ?_
    refine w_cVi (rest := []) hx hb hml hown hts (k_fbars l D a cI cJ cZ A v c j_5  (by first | assumption | omega) (by first | assumption | omega)) 1 gX6_knows_X1_barsOf rfl hdX1_barsOf ⟨Nat.le_of_ble_eq_true rfl, Nat.le_of_ble_eq_true rfl⟩ hK hN hP hD hS hA 23 1 rfl rfl rfl rfl hl.1 rfl (Nat.le_of_ble_eq_true rfl) dX6_knows_16 ⟨Nat.le_of_ble_eq_true rfl, Nat.le_of_ble_eq_true rfl⟩ (fun r u H locs hq hP hD hS => ?_)
    obtain rfl := hq
    have hP : va_P D vwCl (xW a cI cJ cZ v c) H := hP
    have hD : va_D A (xW a cI cJ cZ v c) := hD
    refine lv_goto (tgt := 23) hx hb dX6_knows_19 (by decide) ?_
    exact hret (nI ((v 24) j_5)) () _ _ 23 _ dX6_knows_23 rfl (by exact Or.inl ⟨j_5, h_5, rfl, rfl⟩) hP hD hS
  · skip
    have hP : va_P D vwCl (xW a cI cJ cZ v c) H := hP
    have hD : va_D A (xW a cI cJ cZ v c) := hD
    refine w_if_eq (x := 0) hx hb dX6_knows_8 (tgt := 22) (by decide) (by decide) (fun _ => ?_) (fun h => absurd h (by decide))
    refine lv_iconst (v := -1) hx hb dX6_knows_22 (by decide) ?_
    exact hret ((-1)) () _ _ 23 _ dX6_knows_23 rfl (by exact Or.inr ⟨nR_of (by omega) h_5, rfl⟩) hP hD hS

set_option maxHeartbeats 4000000 in
set_option maxRecDepth 100000 in
theorem t_fewest (l : Launch) (D : va_G) (a : Nat → Nat) (cI cJ cZ : ClassId) (A : Nat → Prop) (v : Nat → Nat → Nat) (c : Nat → Nat → Int32) (x : Int32) (hI : XI v) :
    mI l yX6_fewest wsX6_fewest 4 90 [.ref (a 0), .int x] D (xT cI cJ cZ) A (xW a cI cJ cZ v c) (fun _ : Unit => xW a cI cJ cZ v c)
    (fun (r : Int32) (u : Unit) => sp_door (v 11 1) (fun d => fwr (fw (v 24) (v 23 0) ((2 ^ v 13 d - 1) * 2 ^ (d * 6)) (2 ^ v 23 0))) x r) := by
  refine w_bI cX6_fewest 2 .int (by decide) rfl (Nat.le_of_ble_eq_true rfl) (Or.inl rfl) ?_
  intro p e s m args below meth c0 ls Q hx hb hml hts hown hK hN hA hret hP hD hS hl
  have hl : lv_has ls 2 [(0, .ref (a 0)), (1, .int x)] := hl
  have hinX6 : ∀ w ∈ wsX60, w ∈ wsX6_fewest := fun w h => List.mem_cons_of_mem _ (List.mem_append_left _ (List.mem_append_left _ (List.mem_append_right _ h)))
  obtain ⟨hnb, hnd, hbt, hfg, hne, hnc, hdk, hnf, hkn, hln, hst, hdc, hsp⟩ := id hI
  refine lv_aload_n hx hb dX6_fewest_0 rfl (lv_at hl 0 rfl) ?_
  refine va_get (D := D) (ci := 6) (v := .ref (a 11)) (C := RX6) (T := TX6) (N := 9) hx hb hts hinX6 hown hK hP 0 rfl rfl 3 (by decide) (hts (.fieldLink RX6 36 "DancedLock" "floor" "LDancedLock$Floor;") (List.mem_of_getElem? (i := 1) rfl)) (fun _ h9 => h9) rfl dX6_fewest_1 ?_
  refine lv_iload_n hx hb dX6_fewest_4 rfl (lv_at hl 1 rfl) ?_
  refine w_cVi (rest := []) hx hb hml hown hts (k_hasDoor_R l D a cI cJ cZ A v c x  (by first | assumption | omega)) 1 gX6_fewest_X2_hasDoor rfl hdX2_hasDoor ⟨Nat.le_of_ble_eq_true rfl, Nat.le_of_ble_eq_true rfl⟩ hK hN hP hD hS hA 11 2 rfl rfl rfl rfl hl.1 rfl (Nat.le_of_ble_eq_true rfl) dX6_fewest_5 ⟨Nat.le_of_ble_eq_true rfl, Nat.le_of_ble_eq_true rfl⟩ (fun r u H locs hq hP hD hS => ?_)
  rcases hq with ⟨j_5, rfl, h_5, hs_x_5⟩ | ⟨rfl, h_5⟩
  · skip
    have hP : va_P D vwCl (xW a cI cJ cZ v c) H := hP
    have hD : va_D A (xW a cI cJ cZ v c) := hD
    subst hs_x_5
    have j_5T := n_tI (k := j_5) (by omega)
    refine w_if_eq (x := 1) hx hb dX6_fewest_8 (tgt := 29) (by decide) (by decide) (fun h => absurd h (by decide)) (fun _ => ?_)
    have hw := win_bars (d := j_5) (hbt j_5 h_5).2
    have hwl := win_lt hw (by omega)
    refine lv_aload_n hx hb dX6_fewest_11 rfl (lv_at hl 0 rfl) ?_
    refine va_get (D := D) (ci := 6) (v := .ref (a 23)) (C := RX6) (T := TX6) (N := 9) hx hb hts hinX6 hown hK hP 0 rfl rfl 5 (by decide) (hts (.fieldLink RX6 45 "DancedLock" "families" "LDancedLock$Families;") (List.mem_of_getElem? (i := 2) rfl)) (fun _ h9 => h9) rfl dX6_fewest_12 ?_
    refine lv_aload_n hx hb dX6_fewest_15 rfl (lv_at hl 0 rfl) ?_
    refine va_get (D := D) (ci := 6) (v := .ref (a 11)) (C := RX6) (T := TX6) (N := 9) hx hb hts hinX6 hown hK hP 0 rfl rfl 3 (by decide) (hts (.fieldLink RX6 36 "DancedLock" "floor" "LDancedLock$Floor;") (List.mem_of_getElem? (i := 1) rfl)) (fun _ h9 => h9) rfl dX6_fewest_16 ?_
    refine lv_iload_n hx hb dX6_fewest_19 rfl (lv_at hl 1 rfl) ?_
    refine w_cVi (rest := [.ref (a 23)]) hx hb hml hown hts (k_barsOfDoor l D a cI cJ cZ A v c j_5  (by first | assumption | omega) (by first | assumption | omega) (by first | assumption | omega)) 1 gX6_fewest_X2_barsOfDoor rfl hdX2_barsOfDoor ⟨Nat.le_of_ble_eq_true rfl, Nat.le_of_ble_eq_true rfl⟩ hK hN hP hD hS hA 11 2 rfl rfl rfl rfl hl.1 rfl (Nat.le_of_ble_eq_true rfl) dX6_fewest_20 ⟨Nat.le_of_ble_eq_true rfl, Nat.le_of_ble_eq_true rfl⟩ (fun r u H locs hq hP hD hS => ?_)
    obtain rfl := hq
    have hP : va_P D vwCl (xW a cI cJ cZ v c) H := hP
    have hD : va_D A (xW a cI cJ cZ v c) := hD
    refine w_cVi (rest := []) hx hb hml hown hts (k_least l D a cI cJ cZ A v c ((2 ^ (v 13) j_5 - 1) * 2 ^ (j_5 * 6))  (by first | assumption | omega) (by first | assumption | omega)) 1 gX6_fewest_X1_leastSetThatKnows rfl hdX1_leastSetThatKnows ⟨Nat.le_of_ble_eq_true rfl, Nat.le_of_ble_eq_true rfl⟩ hK hN hP hD hS hA 23 1 rfl rfl rfl rfl hl.1 rfl (Nat.le_of_ble_eq_true rfl) dX6_fewest_23 ⟨Nat.le_of_ble_eq_true rfl, Nat.le_of_ble_eq_true rfl⟩ (fun r u H locs hq hP hD hS => ?_)
    obtain rfl := hq
    have hP : va_P D vwCl (xW a cI cJ cZ v c) H := hP
    have hD : va_D A (xW a cI cJ cZ v c) := hD
    refine lv_goto (tgt := 30) hx hb dX6_fewest_26 (by decide) ?_
    exact hret (fwr (fw ((v 24)) ((v 23 0)) ((2 ^ (v 13) j_5 - 1) * 2 ^ (j_5 * 6)) (2 ^ (v 23 0)))) () _ _ 30 _ dX6_fewest_30 rfl (by exact Or.inl ⟨j_5, h_5, rfl, rfl⟩) hP hD hS
  · skip
    have hP : va_P D vwCl (xW a cI cJ cZ v c) H := hP
    have hD : va_D A (xW a cI cJ cZ v c) := hD
    refine w_if_eq (x := 0) hx hb dX6_fewest_8 (tgt := 29) (by decide) (by decide) (fun _ => ?_) (fun h => absurd h (by decide))
    refine lv_iconst (v := -1) hx hb dX6_fewest_29 (by decide) ?_
    exact hret ((-1)) () _ _ 30 _ dX6_fewest_30 rfl (by exact Or.inr ⟨nR_of (by omega) h_5, rfl⟩) hP hD hS

set_option maxHeartbeats 4000000 in
set_option maxRecDepth 100000 in
theorem t_any (l : Launch) (D : va_G) (a : Nat → Nat) (cI cJ cZ : ClassId) (A : Nat → Prop) (v : Nat → Nat → Nat) (c : Nat → Nat → Int32) (x : Int32) (hI : XI v) :
    mI l yX6_any wsX6_any 4 88 [.ref (a 0), .int x] D (xT cI cJ cZ) A (xW a cI cJ cZ v c) (fun _ : Unit => xW a cI cJ cZ v c)
    (fun (r : Int32) (u : Unit) => sp_door (v 11 1) (fun d => if mst (v 24) (v 23 0) ((2 ^ v 13 d - 1) * 2 ^ (d * 6)) 24 < v 23 0 then nI (mst (v 24) (v 23 0) ((2 ^ v 13 d - 1) * 2 ^ (d * 6)) 24 + 1) else -9) x r) := by
  refine w_bI cX6_any 2 .int (by decide) rfl (Nat.le_of_ble_eq_true rfl) (Or.inl rfl) ?_
  intro p e s m args below meth c0 ls Q hx hb hml hts hown hK hN hA hret hP hD hS hl
  have hl : lv_has ls 2 [(0, .ref (a 0)), (1, .int x)] := hl
  have hinX6 : ∀ w ∈ wsX60, w ∈ wsX6_any := fun w h => List.mem_cons_of_mem _ (List.mem_append_left _ (List.mem_append_left _ (List.mem_append_right _ h)))
  obtain ⟨hnb, hnd, hbt, hfg, hne, hnc, hdk, hnf, hkn, hln, hst, hdc, hsp⟩ := id hI
  refine lv_aload_n hx hb dX6_any_0 rfl (lv_at hl 0 rfl) ?_
  refine va_get (D := D) (ci := 6) (v := .ref (a 11)) (C := RX6) (T := TX6) (N := 9) hx hb hts hinX6 hown hK hP 0 rfl rfl 3 (by decide) (hts (.fieldLink RX6 36 "DancedLock" "floor" "LDancedLock$Floor;") (List.mem_of_getElem? (i := 1) rfl)) (fun _ h9 => h9) rfl dX6_any_1 ?_
  refine lv_iload_n hx hb dX6_any_4 rfl (lv_at hl 1 rfl) ?_
  refine w_cVi (rest := []) hx hb hml hown hts (k_hasDoor_R l D a cI cJ cZ A v c x  (by first | assumption | omega)) 1 gX6_any_X2_hasDoor rfl hdX2_hasDoor ⟨Nat.le_of_ble_eq_true rfl, Nat.le_of_ble_eq_true rfl⟩ hK hN hP hD hS hA 11 2 rfl rfl rfl rfl hl.1 rfl (Nat.le_of_ble_eq_true rfl) dX6_any_5 ⟨Nat.le_of_ble_eq_true rfl, Nat.le_of_ble_eq_true rfl⟩ (fun r u H locs hq hP hD hS => ?_)
  rcases hq with ⟨j_5, rfl, h_5, hs_x_5⟩ | ⟨rfl, h_5⟩
  · skip
    have hP : va_P D vwCl (xW a cI cJ cZ v c) H := hP
    have hD : va_D A (xW a cI cJ cZ v c) := hD
    subst hs_x_5
    have j_5T := n_tI (k := j_5) (by omega)
    refine w_if_eq (x := 1) hx hb dX6_any_8 (tgt := 29) (by decide) (by decide) (fun h => absurd h (by decide)) (fun _ => ?_)
    have hw := win_bars (d := j_5) (hbt j_5 h_5).2
    have hwl := win_lt hw (by omega)
    refine lv_aload_n hx hb dX6_any_11 rfl (lv_at hl 0 rfl) ?_
    refine va_get (D := D) (ci := 6) (v := .ref (a 23)) (C := RX6) (T := TX6) (N := 9) hx hb hts hinX6 hown hK hP 0 rfl rfl 5 (by decide) (hts (.fieldLink RX6 45 "DancedLock" "families" "LDancedLock$Families;") (List.mem_of_getElem? (i := 2) rfl)) (fun _ h9 => h9) rfl dX6_any_12 ?_
    refine lv_aload_n hx hb dX6_any_15 rfl (lv_at hl 0 rfl) ?_
    refine va_get (D := D) (ci := 6) (v := .ref (a 11)) (C := RX6) (T := TX6) (N := 9) hx hb hts hinX6 hown hK hP 0 rfl rfl 3 (by decide) (hts (.fieldLink RX6 36 "DancedLock" "floor" "LDancedLock$Floor;") (List.mem_of_getElem? (i := 1) rfl)) (fun _ h9 => h9) rfl dX6_any_16 ?_
    refine lv_iload_n hx hb dX6_any_19 rfl (lv_at hl 1 rfl) ?_
    refine w_cVi (rest := [.ref (a 23)]) hx hb hml hown hts (k_barsOfDoor l D a cI cJ cZ A v c j_5  (by first | assumption | omega) (by first | assumption | omega) (by first | assumption | omega)) 1 gX6_any_X2_barsOfDoor rfl hdX2_barsOfDoor ⟨Nat.le_of_ble_eq_true rfl, Nat.le_of_ble_eq_true rfl⟩ hK hN hP hD hS hA 11 2 rfl rfl rfl rfl hl.1 rfl (Nat.le_of_ble_eq_true rfl) dX6_any_20 ⟨Nat.le_of_ble_eq_true rfl, Nat.le_of_ble_eq_true rfl⟩ (fun r u H locs hq hP hD hS => ?_)
    obtain rfl := hq
    have hP : va_P D vwCl (xW a cI cJ cZ v c) H := hP
    have hD : va_D A (xW a cI cJ cZ v c) := hD
    refine w_cVi (rest := []) hx hb hml hown hts (k_must l D a cI cJ cZ A v c ((2 ^ (v 13) j_5 - 1) * 2 ^ (j_5 * 6))  (by first | assumption | omega) (by first | assumption | omega) (by first | assumption | omega)) 1 gX6_any_X1_numberThatMustKnow rfl hdX1_numberThatMustKnow ⟨Nat.le_of_ble_eq_true rfl, Nat.le_of_ble_eq_true rfl⟩ hK hN hP hD hS hA 23 1 rfl rfl rfl rfl hl.1 rfl (Nat.le_of_ble_eq_true rfl) dX6_any_23 ⟨Nat.le_of_ble_eq_true rfl, Nat.le_of_ble_eq_true rfl⟩ (fun r u H locs hq hP hD hS => ?_)
    obtain rfl := hq
    have hP : va_P D vwCl (xW a cI cJ cZ v c) H := hP
    have hD : va_D A (xW a cI cJ cZ v c) := hD
    refine lv_goto (tgt := 30) hx hb dX6_any_26 (by decide) ?_
    exact hret (if mst ((v 24)) ((v 23 0)) ((2 ^ (v 13) j_5 - 1) * 2 ^ (j_5 * 6)) 24 < (v 23 0) then nI (mst ((v 24)) ((v 23 0)) ((2 ^ (v 13) j_5 - 1) * 2 ^ (j_5 * 6)) 24 + 1) else -9) () _ _ 30 _ dX6_any_30 rfl (by exact Or.inl ⟨j_5, h_5, rfl, rfl⟩) hP hD hS
  · skip
    have hP : va_P D vwCl (xW a cI cJ cZ v c) H := hP
    have hD : va_D A (xW a cI cJ cZ v c) := hD
    refine w_if_eq (x := 0) hx hb dX6_any_8 (tgt := 29) (by decide) (by decide) (fun _ => ?_) (fun h => absurd h (by decide))
    refine lv_iconst (v := -1) hx hb dX6_any_29 (by decide) ?_
    exact hret ((-1)) () _ _ 30 _ dX6_any_30 rfl (by exact Or.inr ⟨nR_of (by omega) h_5, rfl⟩) hP hD hS

set_option maxHeartbeats 4000000 in
set_option maxRecDepth 100000 in
theorem t_evenings (l : Launch) (D : va_G) (a : Nat → Nat) (cI cJ cZ : ClassId) (A : Nat → Prop) (v : Nat → Nat → Nat) (c : Nat → Nat → Int32) (x : Int32) (hI : XI v) :
    mI l yX6_evenings wsX6_evenings 4 89 [.ref (a 0), .int x] D (xT cI cJ cZ) A (xW a cI cJ cZ v c) (fun _ : Unit => xW a cI cJ cZ v c)
    (fun (r : Int32) (u : Unit) => sp_door (v 11 1) (fun d => nI (lrn (v 24) (kn (v 24) (2 ^ v 23 0 - 1) (v 23 0) &&& ((2 ^ v 13 d - 1) * 2 ^ (d * 6))) (v 23 0))) x r) := by
  refine w_bI cX6_evenings 2 .int (by decide) rfl (Nat.le_of_ble_eq_true rfl) (Or.inl rfl) ?_
  intro p e s m args below meth c0 ls Q hx hb hml hts hown hK hN hA hret hP hD hS hl
  have hl : lv_has ls 2 [(0, .ref (a 0)), (1, .int x)] := hl
  have hinX6 : ∀ w ∈ wsX60, w ∈ wsX6_evenings := fun w h => List.mem_cons_of_mem _ (List.mem_append_left _ (List.mem_append_left _ (List.mem_append_right _ h)))
  obtain ⟨hnb, hnd, hbt, hfg, hne, hnc, hdk, hnf, hkn, hln, hst, hdc, hsp⟩ := id hI
  refine lv_aload_n hx hb dX6_evenings_0 rfl (lv_at hl 0 rfl) ?_
  refine va_get (D := D) (ci := 6) (v := .ref (a 11)) (C := RX6) (T := TX6) (N := 9) hx hb hts hinX6 hown hK hP 0 rfl rfl 3 (by decide) (hts (.fieldLink RX6 36 "DancedLock" "floor" "LDancedLock$Floor;") (List.mem_of_getElem? (i := 1) rfl)) (fun _ h9 => h9) rfl dX6_evenings_1 ?_
  refine lv_iload_n hx hb dX6_evenings_4 rfl (lv_at hl 1 rfl) ?_
  refine w_cVi (rest := []) hx hb hml hown hts (k_hasDoor_R l D a cI cJ cZ A v c x  (by first | assumption | omega)) 1 gX6_evenings_X2_hasDoor rfl hdX2_hasDoor ⟨Nat.le_of_ble_eq_true rfl, Nat.le_of_ble_eq_true rfl⟩ hK hN hP hD hS hA 11 2 rfl rfl rfl rfl hl.1 rfl (Nat.le_of_ble_eq_true rfl) dX6_evenings_5 ⟨Nat.le_of_ble_eq_true rfl, Nat.le_of_ble_eq_true rfl⟩ (fun r u H locs hq hP hD hS => ?_)
  rcases hq with ⟨j_5, rfl, h_5, hs_x_5⟩ | ⟨rfl, h_5⟩
  · skip
    have hP : va_P D vwCl (xW a cI cJ cZ v c) H := hP
    have hD : va_D A (xW a cI cJ cZ v c) := hD
    subst hs_x_5
    have j_5T := n_tI (k := j_5) (by omega)
    refine w_if_eq (x := 1) hx hb dX6_evenings_8 (tgt := 29) (by decide) (by decide) (fun h => absurd h (by decide)) (fun _ => ?_)
    have hw := win_bars (d := j_5) (hbt j_5 h_5).2
    have hwl := win_lt hw (by omega)
    refine lv_aload_n hx hb dX6_evenings_11 rfl (lv_at hl 0 rfl) ?_
    refine va_get (D := D) (ci := 6) (v := .ref (a 23)) (C := RX6) (T := TX6) (N := 9) hx hb hts hinX6 hown hK hP 0 rfl rfl 5 (by decide) (hts (.fieldLink RX6 45 "DancedLock" "families" "LDancedLock$Families;") (List.mem_of_getElem? (i := 2) rfl)) (fun _ h9 => h9) rfl dX6_evenings_12 ?_
    refine lv_aload_n hx hb dX6_evenings_15 rfl (lv_at hl 0 rfl) ?_
    refine va_get (D := D) (ci := 6) (v := .ref (a 11)) (C := RX6) (T := TX6) (N := 9) hx hb hts hinX6 hown hK hP 0 rfl rfl 3 (by decide) (hts (.fieldLink RX6 36 "DancedLock" "floor" "LDancedLock$Floor;") (List.mem_of_getElem? (i := 1) rfl)) (fun _ h9 => h9) rfl dX6_evenings_16 ?_
    refine lv_iload_n hx hb dX6_evenings_19 rfl (lv_at hl 1 rfl) ?_
    refine w_cVi (rest := [.ref (a 23)]) hx hb hml hown hts (k_barsOfDoor l D a cI cJ cZ A v c j_5  (by first | assumption | omega) (by first | assumption | omega) (by first | assumption | omega)) 1 gX6_evenings_X2_barsOfDoor rfl hdX2_barsOfDoor ⟨Nat.le_of_ble_eq_true rfl, Nat.le_of_ble_eq_true rfl⟩ hK hN hP hD hS hA 11 2 rfl rfl rfl rfl hl.1 rfl (Nat.le_of_ble_eq_true rfl) dX6_evenings_20 ⟨Nat.le_of_ble_eq_true rfl, Nat.le_of_ble_eq_true rfl⟩ (fun r u H locs hq hP hD hS => ?_)
    obtain rfl := hq
    have hP : va_P D vwCl (xW a cI cJ cZ v c) H := hP
    have hD : va_D A (xW a cI cJ cZ v c) := hD
    refine w_cVi (rest := []) hx hb hml hown hts (k_learnt l D a cI cJ cZ A v c ((2 ^ (v 13) j_5 - 1) * 2 ^ (j_5 * 6)) j_5 (by first | assumption | omega) (by first | assumption | omega) (by exact hw) (by omega)) 1 gX6_evenings_X1_mostToLearn rfl hdX1_mostToLearn ⟨Nat.le_of_ble_eq_true rfl, Nat.le_of_ble_eq_true rfl⟩ hK hN hP hD hS hA 23 1 rfl rfl rfl rfl hl.1 rfl (Nat.le_of_ble_eq_true rfl) dX6_evenings_23 ⟨Nat.le_of_ble_eq_true rfl, Nat.le_of_ble_eq_true rfl⟩ (fun r u H locs hq hP hD hS => ?_)
    obtain rfl := hq
    have hP : va_P D vwCl (xW a cI cJ cZ v c) H := hP
    have hD : va_D A (xW a cI cJ cZ v c) := hD
    refine lv_goto (tgt := 30) hx hb dX6_evenings_26 (by decide) ?_
    exact hret (nI (lrn ((v 24)) (kn ((v 24)) (2 ^ (v 23 0) - 1) ((v 23 0)) &&& ((2 ^ (v 13) j_5 - 1) * 2 ^ (j_5 * 6))) ((v 23 0)))) () _ _ 30 _ dX6_evenings_30 rfl (by exact Or.inl ⟨j_5, h_5, rfl, rfl⟩) hP hD hS
  · skip
    have hP : va_P D vwCl (xW a cI cJ cZ v c) H := hP
    have hD : va_D A (xW a cI cJ cZ v c) := hD
    refine w_if_eq (x := 0) hx hb dX6_evenings_8 (tgt := 29) (by decide) (by decide) (fun _ => ?_) (fun h => absurd h (by decide))
    refine lv_iconst (v := -1) hx hb dX6_evenings_29 (by decide) ?_
    exact hret ((-1)) () _ _ 30 _ dX6_evenings_30 rfl (by exact Or.inr ⟨nR_of (by omega) h_5, rfl⟩) hP hD hS

set_option maxHeartbeats 4000000 in
set_option maxRecDepth 100000 in
theorem t_nearest (l : Launch) (D : va_G) (a : Nat → Nat) (cI cJ cZ : ClassId) (A : Nat → Prop) (v : Nat → Nat → Nat) (c : Nat → Nat → Int32) (x : Int32) (hI : XI v) :
    mI l yX6_nearest wsX6_nearest 5 113 [.ref (a 0), .int x] D (xT cI cJ cZ) A (xW a cI cJ cZ v c) (fun _ : Unit => xW a cI cJ cZ v c)
    (fun (r : Int32) (u : Unit) => sp_door (v 11 1) (fun d => fwr (lu (fun o => ulN (v 13 d) (v 13 o) (fun k => v 14 (d * 6 + k)) (fun k => v 14 (o * 6 + k)) 6) d (v 11 1))) x r) := by
  refine w_bI cX6_nearest 2 .int (by decide) rfl (Nat.le_of_ble_eq_true rfl) (Or.inl rfl) ?_
  intro p e s m args below meth c0 ls Q hx hb hml hts hown hK hN hA hret hP hD hS hl
  have hl : lv_has ls 2 [(0, .ref (a 0)), (1, .int x)] := hl
  have hinX6 : ∀ w ∈ wsX60, w ∈ wsX6_nearest := fun w h => List.mem_cons_of_mem _ (List.mem_append_left _ (List.mem_append_right _ h))
  obtain ⟨hnb, hnd, hbt, hfg, hne, hnc, hdk, hnf, hkn, hln, hst, hdc, hsp⟩ := id hI
  refine lv_aload_n hx hb dX6_nearest_0 rfl (lv_at hl 0 rfl) ?_
  refine va_get (D := D) (ci := 6) (v := .ref (a 11)) (C := RX6) (T := TX6) (N := 9) hx hb hts hinX6 hown hK hP 0 rfl rfl 3 (by decide) (hts (.fieldLink RX6 36 "DancedLock" "floor" "LDancedLock$Floor;") (List.mem_of_getElem? (i := 1) rfl)) (fun _ h9 => h9) rfl dX6_nearest_1 ?_
  refine lv_iload_n hx hb dX6_nearest_4 rfl (lv_at hl 1 rfl) ?_
  refine w_cVi (rest := []) hx hb hml hown hts (k_hasDoor_R l D a cI cJ cZ A v c x  (by first | assumption | omega)) 1 gX6_nearest_X2_hasDoor rfl hdX2_hasDoor ⟨Nat.le_of_ble_eq_true rfl, Nat.le_of_ble_eq_true rfl⟩ hK hN hP hD hS hA 11 2 rfl rfl rfl rfl hl.1 rfl (Nat.le_of_ble_eq_true rfl) dX6_nearest_5 ⟨Nat.le_of_ble_eq_true rfl, Nat.le_of_ble_eq_true rfl⟩ (fun r u H locs hq hP hD hS => ?_)
  rcases hq with ⟨j_5, rfl, h_5, hs_x_5⟩ | ⟨rfl, h_5⟩
  · skip
    have hP : va_P D vwCl (xW a cI cJ cZ v c) H := hP
    have hD : va_D A (xW a cI cJ cZ v c) := hD
    subst hs_x_5
    have j_5T := n_tI (k := j_5) (by omega)
    refine w_if_eq (x := 1) hx hb dX6_nearest_8 (tgt := 22) (by decide) (by decide) (fun h => absurd h (by decide)) (fun _ => ?_)
    refine lv_aload_n hx hb dX6_nearest_11 rfl (lv_at hl 0 rfl) ?_
    refine va_get (D := D) (ci := 6) (v := .ref (a 11)) (C := RX6) (T := TX6) (N := 9) hx hb hts hinX6 hown hK hP 0 rfl rfl 3 (by decide) (hts (.fieldLink RX6 36 "DancedLock" "floor" "LDancedLock$Floor;") (List.mem_of_getElem? (i := 1) rfl)) (fun _ h9 => h9) rfl dX6_nearest_12 ?_
    refine lv_iload_n hx hb dX6_nearest_15 rfl (lv_at hl 1 rfl) ?_
    refine w_cVi (rest := []) hx hb hml hown hts (k_nearest l D a cI cJ cZ A v c j_5  (by first | assumption | omega) (by first | assumption | omega)) 1 gX6_nearest_X2_leastUnlike rfl hdX2_leastUnlike ⟨Nat.le_of_ble_eq_true rfl, Nat.le_of_ble_eq_true rfl⟩ hK hN hP hD hS hA 11 2 rfl rfl rfl rfl hl.1 rfl (Nat.le_of_ble_eq_true rfl) dX6_nearest_16 ⟨Nat.le_of_ble_eq_true rfl, Nat.le_of_ble_eq_true rfl⟩ (fun r u H locs hq hP hD hS => ?_)
    obtain rfl := hq
    have hP : va_P D vwCl (xW a cI cJ cZ v c) H := hP
    have hD : va_D A (xW a cI cJ cZ v c) := hD
    refine lv_goto (tgt := 23) hx hb dX6_nearest_19 (by decide) ?_
    exact hret (fwr (lu (fun o => ulN ((v 13) j_5) ((v 13) o) (fun k => (v 14) (j_5 * 6 + k)) (fun k => (v 14) (o * 6 + k)) 6) j_5 ((v 11 1)))) () _ _ 23 _ dX6_nearest_23 rfl (by exact Or.inl ⟨j_5, h_5, rfl, rfl⟩) hP hD hS
  · skip
    have hP : va_P D vwCl (xW a cI cJ cZ v c) H := hP
    have hD : va_D A (xW a cI cJ cZ v c) := hD
    refine w_if_eq (x := 0) hx hb dX6_nearest_8 (tgt := 22) (by decide) (by decide) (fun _ => ?_) (fun h => absurd h (by decide))
    refine lv_iconst (v := -1) hx hb dX6_nearest_22 (by decide) ?_
    exact hret ((-1)) () _ _ 23 _ dX6_nearest_23 rfl (by exact Or.inr ⟨nR_of (by omega) h_5, rfl⟩) hP hD hS

set_option maxHeartbeats 4000000 in
set_option maxRecDepth 100000 in
theorem t_gone (l : Launch) (D : va_G) (a : Nat → Nat) (cI cJ cZ : ClassId) (A : Nat → Prop) (v : Nat → Nat → Nat) (c : Nat → Nat → Int32) (x : Int32) (y : Int32) (hI : XI v) :
    mI l yX6_gone wsX6_gone 4 85 [.ref (a 0), .int x, .int y] D (xT cI cJ cZ) A (xW a cI cJ cZ v c) (fun _ : Unit => xW a cI cJ cZ v c)
    (fun (r : Int32) (u : Unit) => sp_gone (v 11 1) (v 13) (v 23 0) (v 24) x y r) := by
  refine w_bI cX6_gone 4 .int (by decide) rfl (Nat.le_of_ble_eq_true rfl) (Or.inl rfl) ?_
  intro p e s m args below meth c0 ls Q hx hb hml hts hown hK hN hA hret hP hD hS hl
  have hl : lv_has ls 4 [(0, .ref (a 0)), (1, .int x), (2, .int y)] := hl
  have hinX6 : ∀ w ∈ wsX60, w ∈ wsX6_gone := fun w h => List.mem_cons_of_mem _ (List.mem_append_left _ (List.mem_append_left _ (List.mem_append_right _ h)))
  obtain ⟨hnb, hnd, hbt, hfg, hne, hnc, hdk, hnf, hkn, hln, hst, hdc, hsp⟩ := id hI
  refine lv_aload_n hx hb dX6_gone_0 rfl (lv_at hl 0 rfl) ?_
  refine va_get (D := D) (ci := 6) (v := .ref (a 11)) (C := RX6) (T := TX6) (N := 9) hx hb hts hinX6 hown hK hP 0 rfl rfl 3 (by decide) (hts (.fieldLink RX6 36 "DancedLock" "floor" "LDancedLock$Floor;") (List.mem_of_getElem? (i := 1) rfl)) (fun _ h9 => h9) rfl dX6_gone_1 ?_
  refine lv_iload_n hx hb dX6_gone_4 rfl (lv_at hl 1 rfl) ?_
  refine w_cVi (rest := []) hx hb hml hown hts (k_hasDoor_R l D a cI cJ cZ A v c x  (by first | assumption | omega)) 1 gX6_gone_X2_hasDoor rfl hdX2_hasDoor ⟨Nat.le_of_ble_eq_true rfl, Nat.le_of_ble_eq_true rfl⟩ hK hN hP hD hS hA 11 2 rfl rfl rfl rfl hl.1 rfl (Nat.le_of_ble_eq_true rfl) dX6_gone_5 ⟨Nat.le_of_ble_eq_true rfl, Nat.le_of_ble_eq_true rfl⟩ (fun r u H locs hq hP hD hS => ?_)
  rcases hq with ⟨j_5, rfl, h_5, hs_x_5⟩ | ⟨rfl, h_5⟩
  · skip
    have hP : va_P D vwCl (xW a cI cJ cZ v c) H := hP
    have hD : va_D A (xW a cI cJ cZ v c) := hD
    subst hs_x_5
    have j_5T := n_tI (k := j_5) (by omega)
    refine w_if_ne (x := 1) hx hb dX6_gone_8 (tgt := 13) (by decide) (by decide) (fun _ => ?_) (fun h => absurd h (by decide))
    refine lv_iload_n hx hb dX6_gone_13 rfl (lv_at hl 2 rfl) ?_
    refine lv_aload_n hx hb dX6_gone_14 rfl (lv_at hl 0 rfl) ?_
    refine va_get (D := D) (ci := 6) (v := .ref (a 23)) (C := RX6) (T := TX6) (N := 9) hx hb hts hinX6 hown hK hP 0 rfl rfl 5 (by decide) (hts (.fieldLink RX6 45 "DancedLock" "families" "LDancedLock$Families;") (List.mem_of_getElem? (i := 2) rfl)) (fun _ h9 => h9) rfl dX6_gone_15 ?_
    refine w_cVi (rest := [.int y]) hx hb hml hown hts (k_fall l D a cI cJ cZ A v c   (by first | assumption | omega)) 0 gX6_gone_X1_all rfl hdX1_all ⟨Nat.le_of_ble_eq_true rfl, Nat.le_of_ble_eq_true rfl⟩ hK hN hP hD hS hA 23 1 rfl rfl rfl rfl hl.1 rfl (Nat.le_of_ble_eq_true rfl) dX6_gone_18 ⟨Nat.le_of_ble_eq_true rfl, Nat.le_of_ble_eq_true rfl⟩ (fun r u H locs hq hP hD hS => ?_)
    obtain rfl := hq
    have hP : va_P D vwCl (xW a cI cJ cZ v c) H := hP
    have hD : va_D A (xW a cI cJ cZ v c) := hD
    refine lv_iconst (v := -1) hx hb dX6_gone_21 (by decide) ?_
    refine lv_ixor hx hb dX6_gone_22 ?_
    refine lv_iand hx hb dX6_gone_23 ?_
    refine lv_if_eq hx hb dX6_gone_24 (tgt := 30) (by decide) (fun c24 => ?_) (fun c24 => ?_)
    · skip
      obtain ⟨zz, hzz, rfl⟩ := (mask_iff (by omega)).mp c24
      have hp7 := pow_le_128 (show v 23 0 ≤ 7 by omega)
      refine lv_aload_n hx hb dX6_gone_30 rfl (lv_at hl 0 rfl) ?_
      refine va_get (D := D) (ci := 6) (v := .ref (a 23)) (C := RX6) (T := TX6) (N := 9) hx hb hts hinX6 hown hK hP 0 rfl rfl 5 (by decide) (hts (.fieldLink RX6 45 "DancedLock" "families" "LDancedLock$Families;") (List.mem_of_getElem? (i := 2) rfl)) (fun _ h9 => h9) rfl dX6_gone_31 ?_
      refine lv_aload_n hx hb dX6_gone_34 rfl (lv_at hl 0 rfl) ?_
      refine va_get (D := D) (ci := 6) (v := .ref (a 23)) (C := RX6) (T := TX6) (N := 9) hx hb hts hinX6 hown hK hP 0 rfl rfl 5 (by decide) (hts (.fieldLink RX6 45 "DancedLock" "families" "LDancedLock$Families;") (List.mem_of_getElem? (i := 2) rfl)) (fun _ h9 => h9) rfl dX6_gone_35 ?_
      refine w_cVi (rest := [.ref (a 23)]) hx hb hml hown hts (k_fall l D a cI cJ cZ A v c   (by first | assumption | omega)) 0 gX6_gone_X1_all rfl hdX1_all ⟨Nat.le_of_ble_eq_true rfl, Nat.le_of_ble_eq_true rfl⟩ hK hN hP hD hS hA 23 1 rfl rfl rfl rfl hl.1 rfl (Nat.le_of_ble_eq_true rfl) dX6_gone_38 ⟨Nat.le_of_ble_eq_true rfl, Nat.le_of_ble_eq_true rfl⟩ (fun r u H locs hq hP hD hS => ?_)
      obtain rfl := hq
      have hP : va_P D vwCl (xW a cI cJ cZ v c) H := hP
      have hD : va_D A (xW a cI cJ cZ v c) := hD
      refine lv_iload_n hx hb dX6_gone_41 rfl (lv_at hl 2 rfl) ?_
      refine lv_iconst (v := -1) hx hb dX6_gone_42 (by decide) ?_
      refine lv_ixor hx hb dX6_gone_43 ?_
      refine lv_iand hx hb dX6_gone_44 ?_
      rw [show ((nI (2 ^ (v 23 0) - 1)) &&& ((nI (zz)) ^^^ (-1))) = (nI (2 ^ v 23 0 - 1 - zz)) from by rw [n_andn, Nat.and_comm, and_mask.mpr hzz]]
      refine w_cVi (rest := []) hx hb hml hown hts (k_known l D a cI cJ cZ A v c (2 ^ v 23 0 - 1 - zz)  (by first | assumption | omega) (by first | assumption | omega)) 1 gX6_gone_X1_knownTogether rfl hdX1_knownTogether ⟨Nat.le_of_ble_eq_true rfl, Nat.le_of_ble_eq_true rfl⟩ hK hN hP hD hS hA 23 1 rfl rfl rfl rfl hl.1 rfl (Nat.le_of_ble_eq_true rfl) dX6_gone_45 ⟨Nat.le_of_ble_eq_true rfl, Nat.le_of_ble_eq_true rfl⟩ (fun r u H locs hq hP hD hS => ?_)
      obtain rfl := hq
      have hP : va_P D vwCl (xW a cI cJ cZ v c) H := hP
      have hD : va_D A (xW a cI cJ cZ v c) := hD
      refine lv_istore_n (lv' := [(3, .int (nI (kn ((v 24)) (2 ^ v 23 0 - 1 - zz) ((v 23 0))))), (0, .ref (a 0)), (1, .int (nI (j_5))), (2, .int (nI (zz)))]) hx hb dX6_gone_48 rfl hl (by decide) rfl (fun ls hl => ?_)
      refine lv_aload_n hx hb dX6_gone_49 rfl (lv_at hl 1 rfl) ?_
      refine va_get (D := D) (ci := 6) (v := .ref (a 11)) (C := RX6) (T := TX6) (N := 9) hx hb hts hinX6 hown hK hP 0 rfl rfl 3 (by decide) (hts (.fieldLink RX6 36 "DancedLock" "floor" "LDancedLock$Floor;") (List.mem_of_getElem? (i := 1) rfl)) (fun _ h9 => h9) rfl dX6_gone_50 ?_
      refine lv_iload_n hx hb dX6_gone_53 rfl (lv_at hl 2 rfl) ?_
      refine lv_iload_n hx hb dX6_gone_54 rfl (lv_at hl 0 rfl) ?_
      refine lv_iconst (v := -1) hx hb dX6_gone_55 (by decide) ?_
      refine lv_ixor hx hb dX6_gone_56 ?_
      refine w_cVi (rest := []) hx hb hml hown hts (k_beatsOfBars_R l D a cI cJ cZ A v c j_5 ((nI (kn ((v 24)) (2 ^ v 23 0 - 1 - zz) ((v 23 0)))) ^^^ (-1)) (kn (v 24) (2 ^ v 23 0 - 1 - zz) (v 23 0)) (by first | assumption | omega) (by first | assumption | omega) (by first | assumption | omega) (by rfl)) 2 gX6_gone_X2_beatsOfBars rfl hdX2_beatsOfBars ⟨Nat.le_of_ble_eq_true rfl, Nat.le_of_ble_eq_true rfl⟩ hK hN hP hD hS hA 11 2 rfl rfl rfl rfl hl.1 rfl (Nat.le_of_ble_eq_true rfl) dX6_gone_57 ⟨Nat.le_of_ble_eq_true rfl, Nat.le_of_ble_eq_true rfl⟩ (fun r u H locs hq hP hD hS => ?_)
      obtain rfl := hq
      have hP : va_P D vwCl (xW a cI cJ cZ v c) H := hP
      have hD : va_D A (xW a cI cJ cZ v c) := hD
      exact hret (nI (((2 ^ (v 13) j_5 - 1) * 2 ^ (j_5 * 6) - ((2 ^ (v 13) j_5 - 1) * 2 ^ (j_5 * 6) &&& (kn (v 24) (2 ^ v 23 0 - 1 - zz) (v 23 0)))) / 2 ^ (j_5 * 6))) () _ _ 60 _ dX6_gone_60 rfl (by exact Or.inl ⟨j_5, h_5, rfl, Or.inl ⟨zz, hzz, rfl, rfl⟩⟩) hP hD hS
    · skip
      refine lv_bipush (v := -2) hx hb dX6_gone_27 (by decide) ?_
      exact hret ((-2)) () _ _ 29 _ dX6_gone_29 rfl (by exact Or.inl ⟨j_5, h_5, rfl, Or.inr ⟨fun z9 => c24 ((mask_iff (by omega)).mpr z9), rfl⟩⟩) hP hD hS
  · skip
    have hP : va_P D vwCl (xW a cI cJ cZ v c) H := hP
    have hD : va_D A (xW a cI cJ cZ v c) := hD
    refine w_if_ne (x := 0) hx hb dX6_gone_8 (tgt := 13) (by decide) (by decide) (fun h => absurd h (by decide)) (fun _ => ?_)
    refine lv_iconst (v := -1) hx hb dX6_gone_11 (by decide) ?_
    exact hret ((-1)) () _ _ 12 _ dX6_gone_12 rfl (by exact Or.inr ⟨nR_of (by omega) h_5, rfl⟩) hP hD hS

set_option maxHeartbeats 4000000 in
set_option maxRecDepth 100000 in
theorem t_apart (l : Launch) (D : va_G) (a : Nat → Nat) (cI cJ cZ : ClassId) (A : Nat → Prop) (v : Nat → Nat → Nat) (c : Nat → Nat → Int32) (x : Int32) (y : Int32) (hI : XI v) :
    mI l yX6_apart wsX6_apart 4 89 [.ref (a 0), .int x, .int y] D (xT cI cJ cZ) A (xW a cI cJ cZ v c) (fun _ : Unit => xW a cI cJ cZ v c)
    (fun (r : Int32) (u : Unit) => sp_apart (v 11 1) (v 13) (xFig v) x y r) := by
  refine w_bI cX6_apart 3 .int (by decide) rfl (Nat.le_of_ble_eq_true rfl) (Or.inl rfl) ?_
  intro p e s m args below meth c0 ls Q hx hb hml hts hown hK hN hA hret hP hD hS hl
  have hl : lv_has ls 3 [(0, .ref (a 0)), (1, .int x), (2, .int y)] := hl
  have hinX6 : ∀ w ∈ wsX60, w ∈ wsX6_apart := fun w h => List.mem_cons_of_mem _ (List.mem_append_left _ (List.mem_append_right _ h))
  obtain ⟨hnb, hnd, hbt, hfg, hne, hnc, hdk, hnf, hkn, hln, hst, hdc, hsp⟩ := id hI
  refine lv_aload_n hx hb dX6_apart_0 rfl (lv_at hl 0 rfl) ?_
  refine va_get (D := D) (ci := 6) (v := .ref (a 11)) (C := RX6) (T := TX6) (N := 9) hx hb hts hinX6 hown hK hP 0 rfl rfl 3 (by decide) (hts (.fieldLink RX6 36 "DancedLock" "floor" "LDancedLock$Floor;") (List.mem_of_getElem? (i := 1) rfl)) (fun _ h9 => h9) rfl dX6_apart_1 ?_
  refine lv_iload_n hx hb dX6_apart_4 rfl (lv_at hl 1 rfl) ?_
  refine w_cVi (rest := []) hx hb hml hown hts (k_hasDoor_R l D a cI cJ cZ A v c x  (by first | assumption | omega)) 1 gX6_apart_X2_hasDoor rfl hdX2_hasDoor ⟨Nat.le_of_ble_eq_true rfl, Nat.le_of_ble_eq_true rfl⟩ hK hN hP hD hS hA 11 2 rfl rfl rfl rfl hl.1 rfl (Nat.le_of_ble_eq_true rfl) dX6_apart_5 ⟨Nat.le_of_ble_eq_true rfl, Nat.le_of_ble_eq_true rfl⟩ (fun r u H locs hq hP hD hS => ?_)
  rcases hq with ⟨j_5, rfl, h_5, hs_x_5⟩ | ⟨rfl, h_5⟩
  · skip
    have hP : va_P D vwCl (xW a cI cJ cZ v c) H := hP
    have hD : va_D A (xW a cI cJ cZ v c) := hD
    subst hs_x_5
    have j_5T := n_tI (k := j_5) (by omega)
    refine w_if_eq (x := 1) hx hb dX6_apart_8 (tgt := 22) (by decide) (by decide) (fun h => absurd h (by decide)) (fun _ => ?_)
    refine lv_aload_n hx hb dX6_apart_11 rfl (lv_at hl 0 rfl) ?_
    refine va_get (D := D) (ci := 6) (v := .ref (a 11)) (C := RX6) (T := TX6) (N := 9) hx hb hts hinX6 hown hK hP 0 rfl rfl 3 (by decide) (hts (.fieldLink RX6 36 "DancedLock" "floor" "LDancedLock$Floor;") (List.mem_of_getElem? (i := 1) rfl)) (fun _ h9 => h9) rfl dX6_apart_12 ?_
    refine lv_iload_n hx hb dX6_apart_15 rfl (lv_at hl 2 rfl) ?_
    refine w_cVi (rest := []) hx hb hml hown hts (k_hasDoor_R l D a cI cJ cZ A v c y  (by first | assumption | omega)) 1 gX6_apart_X2_hasDoor rfl hdX2_hasDoor ⟨Nat.le_of_ble_eq_true rfl, Nat.le_of_ble_eq_true rfl⟩ hK hN hP hD hS hA 11 2 rfl rfl rfl rfl hl.1 rfl (Nat.le_of_ble_eq_true rfl) dX6_apart_16 ⟨Nat.le_of_ble_eq_true rfl, Nat.le_of_ble_eq_true rfl⟩ (fun r u H locs hq hP hD hS => ?_)
    rcases hq with ⟨j_16, rfl, h_16, hs_x_16⟩ | ⟨rfl, h_16⟩
    · skip
      have hP : va_P D vwCl (xW a cI cJ cZ v c) H := hP
      have hD : va_D A (xW a cI cJ cZ v c) := hD
      subst hs_x_16
      have j_16T := n_tI (k := j_16) (by omega)
      refine w_if_ne (x := 1) hx hb dX6_apart_19 (tgt := 24) (by decide) (by decide) (fun _ => ?_) (fun h => absurd h (by decide))
      refine lv_aload_n hx hb dX6_apart_24 rfl (lv_at hl 0 rfl) ?_
      refine va_get (D := D) (ci := 6) (v := .ref (a 11)) (C := RX6) (T := TX6) (N := 9) hx hb hts hinX6 hown hK hP 0 rfl rfl 3 (by decide) (hts (.fieldLink RX6 36 "DancedLock" "floor" "LDancedLock$Floor;") (List.mem_of_getElem? (i := 1) rfl)) (fun _ h9 => h9) rfl dX6_apart_25 ?_
      refine lv_iload_n hx hb dX6_apart_28 rfl (lv_at hl 1 rfl) ?_
      refine lv_iload_n hx hb dX6_apart_29 rfl (lv_at hl 2 rfl) ?_
      refine w_cVi (rest := []) hx hb hml hown hts (k_unlike l D a cI cJ cZ A v c j_5 j_16  (by first | assumption | omega) (by first | assumption | omega) (by first | assumption | omega)) 2 gX6_apart_X2_beatsUnlike rfl hdX2_beatsUnlike ⟨Nat.le_of_ble_eq_true rfl, Nat.le_of_ble_eq_true rfl⟩ hK hN hP hD hS hA 11 2 rfl rfl rfl rfl hl.1 rfl (Nat.le_of_ble_eq_true rfl) dX6_apart_30 ⟨Nat.le_of_ble_eq_true rfl, Nat.le_of_ble_eq_true rfl⟩ (fun r u H locs hq hP hD hS => ?_)
      obtain rfl := hq
      have hP : va_P D vwCl (xW a cI cJ cZ v c) H := hP
      have hD : va_D A (xW a cI cJ cZ v c) := hD
      exact hret (nI (ulN ((v 13) j_5) ((v 13) j_16) (fun k => (v 14) (j_5 * 6 + k)) (fun k => (v 14) (j_16 * 6 + k)) 6)) () _ _ 33 _ dX6_apart_33 rfl (by exact Or.inl ⟨j_5, j_16, h_5, h_16, rfl, rfl, rfl⟩) hP hD hS
    · skip
      have hP : va_P D vwCl (xW a cI cJ cZ v c) H := hP
      have hD : va_D A (xW a cI cJ cZ v c) := hD
      refine w_if_ne (x := 0) hx hb dX6_apart_19 (tgt := 24) (by decide) (by decide) (fun h => absurd h (by decide)) (fun _ => ?_)
      refine lv_iconst (v := -1) hx hb dX6_apart_22 (by decide) ?_
      exact hret ((-1)) () _ _ 23 _ dX6_apart_23 rfl (by first | exact Or.inr ⟨Or.inl (nR_of (by omega) h_5), rfl⟩ | exact Or.inr ⟨Or.inr (nR_of (by omega) h_16), rfl⟩) hP hD hS
  · skip
    have hP : va_P D vwCl (xW a cI cJ cZ v c) H := hP
    have hD : va_D A (xW a cI cJ cZ v c) := hD
    refine w_if_eq (x := 0) hx hb dX6_apart_8 (tgt := 22) (by decide) (by decide) (fun _ => ?_) (fun h => absurd h (by decide))
    refine lv_iconst (v := -1) hx hb dX6_apart_22 (by decide) ?_
    exact hret ((-1)) () _ _ 23 _ dX6_apart_23 rfl (by first | exact Or.inr ⟨Or.inl (nR_of (by omega) h_5), rfl⟩ | exact Or.inr ⟨Or.inr (nR_of (by omega) h_16), rfl⟩) hP hD hS

set_option maxHeartbeats 4000000 in
set_option maxRecDepth 100000 in
theorem t_safe (l : Launch) (D : va_G) (a : Nat → Nat) (cI cJ cZ : ClassId) (A : Nat → Prop) (v : Nat → Nat → Nat) (c : Nat → Nat → Int32) (hI : XI v) :
    mI l yX6_safe wsX6_safe 6 133 [.ref (a 0)] D (xT cI cJ cZ) A (xW a cI cJ cZ v c) (fun _ : Unit => xW a cI cJ cZ v c)
    (fun (r : Int32) (u : Unit) => sp_safe (v 11 1) (v 13) (xFig v) r) := by
  refine w_bI cX6_safe 1 .int (by decide) rfl (Nat.le_of_ble_eq_true rfl) (Or.inl rfl) ?_
  intro p e s m args below meth c0 ls Q hx hb hml hts hown hK hN hA hret hP hD hS hl
  have hl : lv_has ls 1 [(0, .ref (a 0))] := hl
  have hinX6 : ∀ w ∈ wsX60, w ∈ wsX6_safe := fun w h => List.mem_cons_of_mem _ (List.mem_append_left _ (List.mem_append_right _ h))
  obtain ⟨hnb, hnd, hbt, hfg, hne, hnc, hdk, hnf, hkn, hln, hst, hdc, hsp⟩ := id hI
  refine lv_aload_n hx hb dX6_safe_0 rfl (lv_at hl 0 rfl) ?_
  refine va_get (D := D) (ci := 6) (v := .ref (a 11)) (C := RX6) (T := TX6) (N := 9) hx hb hts hinX6 hown hK hP 0 rfl rfl 3 (by decide) (hts (.fieldLink RX6 36 "DancedLock" "floor" "LDancedLock$Floor;") (List.mem_of_getElem? (i := 1) rfl)) (fun _ h9 => h9) rfl dX6_safe_1 ?_
  refine w_cVi (rest := []) hx hb hml hown hts (k_stands l D a cI cJ cZ A v c   (by first | assumption | omega)) 0 gX6_safe_X2_stands rfl hdX2_stands ⟨Nat.le_of_ble_eq_true rfl, Nat.le_of_ble_eq_true rfl⟩ hK hN hP hD hS hA 11 2 rfl rfl rfl rfl hl.1 rfl (Nat.le_of_ble_eq_true rfl) dX6_safe_4 ⟨Nat.le_of_ble_eq_true rfl, Nat.le_of_ble_eq_true rfl⟩ (fun r u H locs hq hP hD hS => ?_)
  rcases hq with ⟨rfl, h_4⟩ | ⟨rfl, h_4⟩
  · skip
    have hP : va_P D vwCl (xW a cI cJ cZ v c) H := hP
    have hD : va_D A (xW a cI cJ cZ v c) := hD
    refine w_if_ne (x := 1) hx hb dX6_safe_7 (tgt := 13) (by decide) (by decide) (fun _ => ?_) (fun h => absurd h (by decide))
    refine lv_aload_n hx hb dX6_safe_13 rfl (lv_at hl 0 rfl) ?_
    refine va_get (D := D) (ci := 6) (v := .ref (a 11)) (C := RX6) (T := TX6) (N := 9) hx hb hts hinX6 hown hK hP 0 rfl rfl 3 (by decide) (hts (.fieldLink RX6 36 "DancedLock" "floor" "LDancedLock$Floor;") (List.mem_of_getElem? (i := 1) rfl)) (fun _ h9 => h9) rfl dX6_safe_14 ?_
    refine w_cVi (rest := []) hx hb hml hown hts (k_someBegins l D a cI cJ cZ A v c   (by first | assumption | omega)) 0 gX6_safe_X2_someDoorBeginsAnother rfl hdX2_someDoorBeginsAnother ⟨Nat.le_of_ble_eq_true rfl, Nat.le_of_ble_eq_true rfl⟩ hK hN hP hD hS hA 11 2 rfl rfl rfl rfl hl.1 rfl (Nat.le_of_ble_eq_true rfl) dX6_safe_17 ⟨Nat.le_of_ble_eq_true rfl, Nat.le_of_ble_eq_true rfl⟩ (fun r u H locs hq hP hD hS => ?_)
    rcases hq with ⟨rfl, h_17⟩ | ⟨rfl, h_17⟩
    · skip
      have hP : va_P D vwCl (xW a cI cJ cZ v c) H := hP
      have hD : va_D A (xW a cI cJ cZ v c) := hD
      refine w_if_eq (x := 1) hx hb dX6_safe_20 (tgt := 27) (by decide) (by decide) (fun h => absurd h (by decide)) (fun _ => ?_)
      refine lv_iconst (v := nI (0)) hx hb dX6_safe_23 (by decide) ?_
      refine lv_goto (tgt := 28) hx hb dX6_safe_24 (by decide) ?_
      exact hret (nI (0)) () _ _ 28 _ dX6_safe_28 rfl (by exact Or.inr (Or.inl ⟨h_4, h_17, rfl⟩)) hP hD hS
    · skip
      have hP : va_P D vwCl (xW a cI cJ cZ v c) H := hP
      have hD : va_D A (xW a cI cJ cZ v c) := hD
      refine w_if_eq (x := 0) hx hb dX6_safe_20 (tgt := 27) (by decide) (by decide) (fun _ => ?_) (fun h => absurd h (by decide))
      refine lv_iconst (v := nI (1)) hx hb dX6_safe_27 (by decide) ?_
      exact hret (nI (1)) () _ _ 28 _ dX6_safe_28 rfl (by exact Or.inr (Or.inr ⟨h_4, h_17, rfl⟩)) hP hD hS
  · skip
    have hP : va_P D vwCl (xW a cI cJ cZ v c) H := hP
    have hD : va_D A (xW a cI cJ cZ v c) := hD
    refine w_if_ne (x := 0) hx hb dX6_safe_7 (tgt := 13) (by decide) (by decide) (fun h => absurd h (by decide)) (fun _ => ?_)
    refine lv_bipush (v := -3) hx hb dX6_safe_10 (by decide) ?_
    exact hret ((-3)) () _ _ 12 _ dX6_safe_12 rfl (by exact Or.inl ⟨h_4, rfl⟩) hP hD hS

set_option maxHeartbeats 4000000 in
set_option maxRecDepth 100000 in
theorem t_trace (l : Launch) (D : va_G) (a : Nat → Nat) (cI cJ cZ : ClassId) (A : Nat → Prop) (v : Nat → Nat → Nat) (c : Nat → Nat → Int32) (hI : XI v) :
    mI l yX6_trace wsX6_trace 0 0 [.ref (a 0)] D (xT cI cJ cZ) A (xW a cI cJ cZ v c) (fun _ : Unit => xW a cI cJ cZ v c)
    (fun (r : Int32) (u : Unit) => r = c 0 7) := by
  refine w_bI cX6_trace 1 .int (by decide) rfl (Nat.le_of_ble_eq_true rfl) (Or.inl rfl) ?_
  intro p e s m args below meth c0 ls Q hx hb hml hts hown hK hN hA hret hP hD hS hl
  have hl : lv_has ls 1 [(0, .ref (a 0))] := hl
  have hinX6 : ∀ w ∈ wsX60, w ∈ wsX6_trace := fun w h => List.mem_cons_of_mem _ (List.mem_append_right _ h)
  obtain ⟨hnb, hnd, hbt, hfg, hne, hnc, hdk, hnf, hkn, hln, hst, hdc, hsp⟩ := id hI
  refine lv_aload_n hx hb dX6_trace_0 rfl (lv_at hl 0 rfl) ?_
  refine va_get (D := D) (ci := 6) (v := .int (c 0 7)) (C := RX6) (T := TX6) (N := 9) hx hb hts hinX6 hown hK hP 0 rfl rfl 7 (by decide) (hts (.fieldLink RX6 265 "DancedLock" "traced" "I") (List.mem_of_getElem? (i := 1) rfl)) (fun _ h9 => h9) rfl dX6_trace_1 ?_
  exact hret (c 0 7) () _ _ 4 _ dX6_trace_4 rfl (by rfl) hP hD hS

set_option maxHeartbeats 4000000 in
set_option maxRecDepth 100000 in
theorem t_fault (l : Launch) (D : va_G) (a : Nat → Nat) (cI cJ cZ : ClassId) (A : Nat → Prop) (v : Nat → Nat → Nat) (c : Nat → Nat → Int32) (hI : XI v) :
    mI l yX6_fault wsX6_fault 0 0 [.ref (a 0)] D (xT cI cJ cZ) A (xW a cI cJ cZ v c) (fun _ : Unit => xW a cI cJ cZ v c)
    (fun (r : Int32) (u : Unit) => r = nI (v 0 8)) := by
  refine w_bI cX6_fault 1 .int (by decide) rfl (Nat.le_of_ble_eq_true rfl) (Or.inl rfl) ?_
  intro p e s m args below meth c0 ls Q hx hb hml hts hown hK hN hA hret hP hD hS hl
  have hl : lv_has ls 1 [(0, .ref (a 0))] := hl
  have hinX6 : ∀ w ∈ wsX60, w ∈ wsX6_fault := fun w h => List.mem_cons_of_mem _ (List.mem_append_right _ h)
  obtain ⟨hnb, hnd, hbt, hfg, hne, hnc, hdk, hnf, hkn, hln, hst, hdc, hsp⟩ := id hI
  refine lv_aload_n hx hb dX6_fault_0 rfl (lv_at hl 0 rfl) ?_
  refine va_get (D := D) (ci := 6) (v := .int (nI (v 0 8))) (C := RX6) (T := TX6) (N := 9) hx hb hts hinX6 hown hK hP 0 rfl rfl 8 (by decide) (hts (.fieldLink RX6 147 "DancedLock" "latestFault" "I") (List.mem_of_getElem? (i := 1) rfl)) (fun _ h9 => h9) rfl dX6_fault_1 ?_
  exact hret (nI (v 0 8)) () _ _ 4 _ dX6_fault_4 rfl (by rfl) hP hD hS
