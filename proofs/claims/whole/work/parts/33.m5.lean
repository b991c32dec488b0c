/-! ===== the model: sheets, any ===== -/
theorem bars_ne {b d : Nat} (h : 1 ≤ b) : (2 ^ b - 1) * 2 ^ (d * 6) ≠ 0 := by
  have h1 : 2 ^ 1 ≤ 2 ^ b := Nat.pow_le_pow_right (by decide) h
  exact Nat.ne_of_gt (Nat.mul_pos (by omega) (Nat.two_pow_pos _))
theorem cutf_0 {z x : Int32} (h : x = 0) : cutf z x = z.toInt8.toInt32 := if_pos h
theorem cutf_1 {z x : Int32} (h : x = nI 1) : cutf z x = z.toInt16.toInt32 := by subst h; rfl
theorem cutf_2 {z x : Int32} (h : ¬ x = 0) (h1 : ¬ x = nI 1) : cutf z x = z := by
  show (if _ then _ else _) = _
  rw [if_neg h, if_neg (show ¬ x = 1 from h1)]
def sq_sheet (v : Nat → Nat → Nat) (c : Nat → Nat → Int32) (u : (Nat → Nat → Nat) × (Nat → Nat → Int32)) (x y z r : Int32) : Prop :=
  (nR x 4 ∧ r = -1 ∧ u.1 0 8 = 0 ∧ u.1 3 = v 3 ∧ u.1 11 = v 11 ∧ u.1 12 = v 12 ∧ u.1 13 = v 13 ∧ u.1 14 = v 14 ∧ u.1 15 = v 15 ∧ u.1 16 = v 16 ∧ u.1 17 = v 17 ∧ u.1 23 = v 23 ∧ u.1 24 = v 24 ∧ u.2 2 = c 2 ∧ u.2 4 = c 4 ∧ u.2 0 7 = c 0 7) ∨ ∃ k, k < 4 ∧ x = nI k ∧ (((nR y 3 ∨ 80 < z.toInt) ∧ r = -2 ∧ u.1 0 8 = 0 ∧ u.1 3 = v 3 ∧ u.1 11 = v 11 ∧ u.1 12 = v 12 ∧ u.1 13 = v 13 ∧ u.1 14 = v 14 ∧ u.1 15 = v 15 ∧ u.1 16 = v 16 ∧ u.1 17 = v 17 ∧ u.1 23 = v 23 ∧ u.1 24 = v 24 ∧ u.2 2 = c 2 ∧ u.2 4 = c 4 ∧ u.2 0 7 = c 0 7) ∨ ∃ s1, s1 < 3 ∧ y = nI s1 ∧ ((z.toInt < 0 ∧ r = -14 ∧ u.1 0 8 = 4 ∧ u.1 3 = v 3 ∧ u.1 11 = v 11 ∧ u.1 12 = v 12 ∧ u.1 13 = v 13 ∧ u.1 14 = v 14 ∧ u.1 15 = v 15 ∧ u.1 16 = v 16 ∧ u.1 17 = v 17 ∧ u.1 23 = v 23 ∧ u.1 24 = v 24 ∧ u.2 2 = c 2 ∧ u.2 4 = c 4 ∧ u.2 0 7 = c 0 7) ∨ ∃ n, n ≤ 80 ∧ z = nI n ∧ r = nI 1 ∧ u.1 0 8 = 0 ∧ u.2 2 = va_up (c 2) k y ∧ u.1 3 = va_up (v 3) k n ∧ u.2 4 = flf (c 4) (k * 80) (k * 80 + 80) 0 ∧ u.1 11 = v 11 ∧ u.1 12 = v 12 ∧ u.1 13 = v 13 ∧ u.1 14 = v 14 ∧ u.1 15 = v 15 ∧ u.1 16 = v 16 ∧ u.1 17 = v 17 ∧ u.1 23 = v 23 ∧ u.1 24 = v 24 ∧ u.2 0 7 = c 0 7))
def sq_lose (v : Nat → Nat → Nat) (c : Nat → Nat → Int32) (u : (Nat → Nat → Nat) × (Nat → Nat → Int32)) (x r : Int32) : Prop :=
  (nR x 4 ∧ r = -1 ∧ u.1 3 = v 3 ∧ u.1 11 = v 11 ∧ u.1 12 = v 12 ∧ u.1 13 = v 13 ∧ u.1 14 = v 14 ∧ u.1 15 = v 15 ∧ u.1 16 = v 16 ∧ u.1 17 = v 17 ∧ u.1 23 = v 23 ∧ u.1 24 = v 24 ∧ u.2 2 = c 2 ∧ u.2 4 = c 4 ∧ u.2 0 7 = c 0 7 ∧ u.1 0 8 = v 0 8) ∨ ∃ k, k < 4 ∧ x = nI k ∧ ((c 2 k = -1 ∧ r = nI 0) ∨ (c 2 k ≠ -1 ∧ r = nI 1)) ∧ u.2 2 = va_up (c 2) k (-1) ∧ u.1 3 = v 3 ∧ u.1 11 = v 11 ∧ u.1 12 = v 12 ∧ u.1 13 = v 13 ∧ u.1 14 = v 14 ∧ u.1 15 = v 15 ∧ u.1 16 = v 16 ∧ u.1 17 = v 17 ∧ u.1 23 = v 23 ∧ u.1 24 = v 24 ∧ u.2 4 = c 4 ∧ u.2 0 7 = c 0 7 ∧ u.1 0 8 = v 0 8
set_option maxHeartbeats 4000000 in
set_option maxRecDepth 100000 in
theorem s_as (l : Launch) (D : va_G) (b : Nat → Nat) (cI cJ cZ : ClassId) (A : Nat → Prop) (v : Nat → Nat → Nat) (c : Nat → Nat → Int32) (x : Int32) (y : Int32) (hI : MI v c) :
    mI l yX7_as wsX7_as 1 22 [.ref (b 0), .int x, .int y] D (xT cI cJ cZ) A (mW b cI cJ cZ v c) (fun u : ((Nat → Nat → Nat) × (Nat → Nat → Int32)) => mW b cI cJ cZ u.1 u.2)
    (fun (r : Int32) (u : ((Nat → Nat → Nat) × (Nat → Nat → Int32))) => MI u.1 u.2 ∧ ∃ F, sp_as (v 16 0) (v 17) x y r F ∧ XS (vM v) (cM c) (vM u.1, cM u.2) F) := by
  refine w_bI cX7_as 3 .int (by decide) rfl (Nat.le_of_ble_eq_true rfl) (Or.inl rfl) ?_
  intro p e s m args below meth c0 ls Q hx hb hml hts hown hK hN hA hret hP hD hS hl
  have hl : lv_has ls 3 [(0, .ref (b 0)), (1, .int x), (2, .int y)] := hl
  have hinX7 : ∀ w ∈ wsX70, w ∈ wsX7_as := fun w h => List.mem_cons_of_mem _ (List.mem_append_right _ h)
  obtain ⟨hnb, hnd, hbt, hfg, hne, hnc, hdk, hnf, hkn, hln, hst, hdc, hsp⟩ := MI_o hI
  refine lv_aload_n hx hb dX7_as_0 rfl (lv_at hl 0 rfl) ?_
  refine lv_iconst (v := nI (0)) hx hb dX7_as_1 (by decide) ?_
  refine va_put (D := D) (ci := 7) (v := .int (nI (0))) (ty := .int) (C := RX7) (T := TX7) (N := 24) hx hb hts hinX7 tyX7 tyX7_ok nmX7 hown hK hP hD hS 0 rfl rfl 0 (by decide) (hts (.fieldLink RX7 53 "DancedLockModel" "fault" "I") (List.mem_of_getElem? (i := 1) rfl)) (fun _ h9 => h9) rfl (by decide +kernel) rfl (rfl) (Nat.le_of_ble_eq_true rfl) dX7_as_2 (fun H locs hP hD hS => ?_)
  have hP : va_P D vwCl (mW b cI cJ cZ (va_up v 0 (va_up (v 0) 0 (0))) c) H := hP
  have hD : va_D A (mW b cI cJ cZ (va_up v 0 (va_up (v 0) 0 (0))) c) := hD
  refine lv_aload_n hx hb dX7_as_5 rfl (lv_at hl 0 rfl) ?_
  refine lv_iload_n hx hb dX7_as_6 rfl (lv_at hl 1 rfl) ?_
  refine w_cVi (rest := []) hx hb hml hown hts (m_isDancer_R l D b cI cJ cZ A (va_up v 0 (va_up (v 0) 0 (0))) c x  (by show (v 16 0) ≤ 7; first | assumption | omega)) 1 gX7_as_X7_isDancer rfl hdX7_isDancer ⟨Nat.le_of_ble_eq_true rfl, Nat.le_of_ble_eq_true rfl⟩ hK hN hP hD hS hA 0 7 rfl rfl rfl rfl hl.1 rfl (Nat.le_of_ble_eq_true rfl) dX7_as_7 ⟨Nat.le_of_ble_eq_true rfl, Nat.le_of_ble_eq_true rfl⟩ (fun r u H locs hq hP hD hS => ?_)
  rcases hq with ⟨j_7, rfl, h_7, hs_x_7⟩ | ⟨rfl, h_7⟩
  · skip
    have h_7 : j_7 < (v 16 0) := h_7
    have hP : va_P D vwCl (mW b cI cJ cZ (va_up v 0 (va_up (v 0) 0 (0))) c) H := hP
    have hD : va_D A (mW b cI cJ cZ (va_up v 0 (va_up (v 0) 0 (0))) c) := hD
    subst hs_x_7
    have j_7T := n_tI (k := j_7) (by omega)
    refine w_if_ne (x := 1) hx hb dX7_as_10 (tgt := 15) (by decide) (by decide) (fun _ => ?_) (fun h => absurd h (by decide))
    refine lv_iload_n hx hb dX7_as_15 rfl (lv_at hl 2 rfl) ?_
    refine lv_iconst (v := nI (0)) hx hb dX7_as_16 (by decide) ?_
    refine lv_iconst (v := nI (2)) hx hb dX7_as_17 (by decide) ?_
    refine w_cSi (rest := []) hx hb hml hown hts (m_within_N l D b cI cJ cZ A (va_up v 0 (va_up (v 0) 0 (0))) c y 0 2  (by first | assumption | omega) (by first | assumption | omega)) 3 gX7_as_X7_within rfl hdX7_within ⟨Nat.le_of_ble_eq_true rfl, Nat.le_of_ble_eq_true rfl⟩ hK hN hP hD hS hA rfl hl.1 rfl (Nat.le_of_ble_eq_true rfl) dX7_as_18 ⟨Nat.le_of_ble_eq_true rfl, Nat.le_of_ble_eq_true rfl⟩ (fun r u H locs hq hP hD hS => ?_)
    rcases hq with ⟨j_18, rfl, h1_18, h_18, hs_x_18⟩ | ⟨rfl, h_18⟩
    · skip
      have hP : va_P D vwCl (mW b cI cJ cZ (va_up v 0 (va_up (v 0) 0 (0))) c) H := hP
      have hD : va_D A (mW b cI cJ cZ (va_up v 0 (va_up (v 0) 0 (0))) c) := hD
      subst hs_x_18
      have j_18T := n_tI (k := j_18) (by omega)
      refine w_if_ne (x := 1) hx hb dX7_as_21 (tgt := 27) (by decide) (by decide) (fun _ => ?_) (fun h => absurd h (by decide))
      refine lv_aload_n hx hb dX7_as_27 rfl (lv_at hl 0 rfl) ?_
      refine va_get (D := D) (ci := 7) (v := .ref (b 17)) (C := RX7) (T := TX7) (N := 24) hx hb hts hinX7 hown hK hP 0 rfl rfl 17 (by decide) (hts (.fieldLink RX7 37 "DancedLockModel" "kind" "[I") (List.mem_of_getElem? (i := 2) rfl)) (fun _ h9 => h9) rfl dX7_as_28 ?_
      refine lv_iload_n hx hb dX7_as_31 rfl (lv_at hl 1 rfl) ?_
      refine w_iald (f := v 17) hx hb hK hP 10 0 rfl rfl (i := j_7) (by omega) (by decide) dX7_as_32 ?_
      refine lv_iload_n hx hb dX7_as_33 rfl (lv_at hl 2 rfl) ?_
      have hkd := hdk _ h_7
      refine w_icmp_lt (x := v 17 j_7) (y := j_18) hx hb dX7_as_34 (tgt := 41) (by decide) (by omega) (by omega) (fun c34 => ?_) (fun c34 => ?_)
      · skip
        refine lv_aload_n hx hb dX7_as_41 rfl (lv_at hl 0 rfl) ?_
        refine lv_iconst (v := nI (2)) hx hb dX7_as_42 (by decide) ?_
        refine w_cVi (rest := []) hx hb hml hown hts (m_fails l D b cI cJ cZ A (va_up v 0 (va_up (v 0) 0 (0))) c 2  ) 1 gX7_as_X7_fails rfl hdX7_fails ⟨Nat.le_of_ble_eq_true rfl, Nat.le_of_ble_eq_true rfl⟩ hK hN hP hD hS hA 0 7 rfl rfl rfl rfl hl.1 rfl (Nat.le_of_ble_eq_true rfl) dX7_as_43 ⟨Nat.le_of_ble_eq_true rfl, Nat.le_of_ble_eq_true rfl⟩ (fun r u H locs hq hP hD hS => ?_)
        obtain ⟨rfl, rfl⟩ := hq
        have hP : va_P D vwCl (mW b cI cJ cZ (va_up v 0 (va_up (v 0) 0 (2))) c) H := hP
        have hD : va_D A (mW b cI cJ cZ (va_up v 0 (va_up (v 0) 0 (2))) c) := hD
        exact hret ((-10) - (nI (2))) (va_up v 0 (va_up (v 0) 0 (2)), c) _ _ 46 _ dX7_as_46 rfl (by exact ⟨MI_rd hI ⟨rfl, rfl, rfl, rfl, rfl, rfl, rfl, rfl, rfl, rfl, rfl, rfl, rfl⟩ (hsp), _, Or.inl ⟨j_7, h_7, rfl, Or.inr ⟨j_18, by omega, rfl, Or.inr ⟨c34, by decide, rfl⟩⟩⟩, (MI_rd hI ⟨rfl, rfl, rfl, rfl, rfl, rfl, rfl, rfl, rfl, rfl, rfl, rfl, rfl⟩ (hsp)).1, rfl, rfl, rfl, rfl, rfl, rfl, rfl, rfl, rfl, rfl, rfl, rfl, rfl, rfl⟩) hP hD hS
      · skip
        refine lv_iconst (v := nI (1)) hx hb dX7_as_37 (by decide) ?_
        refine lv_goto (tgt := 46) hx hb dX7_as_38 (by decide) ?_
        exact hret (nI (1)) (va_up v 0 (va_up (v 0) 0 (0)), c) _ _ 46 _ dX7_as_46 rfl (by exact ⟨MI_rd hI ⟨rfl, rfl, rfl, rfl, rfl, rfl, rfl, rfl, rfl, rfl, rfl, rfl, rfl⟩ (hsp), _, Or.inl ⟨j_7, h_7, rfl, Or.inr ⟨j_18, by omega, rfl, Or.inl ⟨c34, rfl, rfl⟩⟩⟩, (MI_rd hI ⟨rfl, rfl, rfl, rfl, rfl, rfl, rfl, rfl, rfl, rfl, rfl, rfl, rfl⟩ (hsp)).1, rfl, rfl, rfl, rfl, rfl, rfl, rfl, rfl, rfl, rfl, rfl, rfl, rfl, rfl⟩) hP hD hS
    · skip
      have hP : va_P D vwCl (mW b cI cJ cZ (va_up v 0 (va_up (v 0) 0 (0))) c) H := hP
      have hD : va_D A (mW b cI cJ cZ (va_up v 0 (va_up (v 0) 0 (0))) c) := hD
      refine w_if_ne (x := 0) hx hb dX7_as_21 (tgt := 27) (by decide) (by decide) (fun h => absurd h (by decide)) (fun _ => ?_)
      refine lv_bipush (v := -2) hx hb dX7_as_24 (by decide) ?_
      exact hret ((-2)) (va_up v 0 (va_up (v 0) 0 (0)), c) _ _ 26 _ dX7_as_26 rfl (by exact ⟨MI_rd hI ⟨rfl, rfl, rfl, rfl, rfl, rfl, rfl, rfl, rfl, rfl, rfl, rfl, rfl⟩ (hsp), _, Or.inl ⟨j_7, h_7, rfl, Or.inl ⟨nR_of (by decide) (by omega), rfl, rfl⟩⟩, (MI_rd hI ⟨rfl, rfl, rfl, rfl, rfl, rfl, rfl, rfl, rfl, rfl, rfl, rfl, rfl⟩ (hsp)).1, rfl, rfl, rfl, rfl, rfl, rfl, rfl, rfl, rfl, rfl, rfl, rfl, rfl, rfl⟩) hP hD hS
  · skip
    have h_7 : x.toInt < 0 ∨ ((v 16 0) : Int) ≤ x.toInt := h_7
    have hP : va_P D vwCl (mW b cI cJ cZ (va_up v 0 (va_up (v 0) 0 (0))) c) H := hP
    have hD : va_D A (mW b cI cJ cZ (va_up v 0 (va_up (v 0) 0 (0))) c) := hD
    refine w_if_ne (x := 0) hx hb dX7_as_10 (tgt := 15) (by decide) (by decide) (fun h => absurd h (by decide)) (fun _ => ?_)
    refine lv_iconst (v := -1) hx hb dX7_as_13 (by decide) ?_
    exact hret ((-1)) (va_up v 0 (va_up (v 0) 0 (0)), c) _ _ 14 _ dX7_as_14 rfl (by exact ⟨MI_rd hI ⟨rfl, rfl, rfl, rfl, rfl, rfl, rfl, rfl, rfl, rfl, rfl, rfl, rfl⟩ (hsp), _, Or.inr ⟨nR_of (by omega) h_7, rfl, rfl⟩, (MI_rd hI ⟨rfl, rfl, rfl, rfl, rfl, rfl, rfl, rfl, rfl, rfl, rfl, rfl, rfl⟩ (hsp)).1, rfl, rfl, rfl, rfl, rfl, rfl, rfl, rfl, rfl, rfl, rfl, rfl, rfl, rfl⟩) hP hD hS

set_option maxHeartbeats 4000000 in
set_option maxRecDepth 100000 in
theorem s_any (l : Launch) (D : va_G) (b : Nat → Nat) (cI cJ cZ : ClassId) (A : Nat → Prop) (v : Nat → Nat → Nat) (c : Nat → Nat → Int32) (x : Int32) (hI : MI v c) :
    mI l yX7_any wsX7_any 2 45 [.ref (b 0), .int x] D (xT cI cJ cZ) A (mW b cI cJ cZ v c) (fun _ : Unit => mW b cI cJ cZ v c)
    (fun (r : Int32) (u : Unit) => sp_door (v 6 0) (fun d => if mst (v 23) (v 22 0) ((2 ^ v 8 d - 1) * 2 ^ (d * 6)) 24 < v 22 0 then nI (mst (v 23) (v 22 0) ((2 ^ v 8 d - 1) * 2 ^ (d * 6)) 24 + 1) else -9) x r) := by
  refine w_bI cX7_any 4 .int (by decide) rfl (Nat.le_of_ble_eq_true rfl) (Or.inl rfl) ?_
  intro p e s m args below meth c0 ls Q hx hb hml hts hown hK hN hA hret hP hD hS hl
  have hl : lv_has ls 4 [(0, .ref (b 0)), (1, .int x)] := hl
  have hinX7 : ∀ w ∈ wsX70, w ∈ wsX7_any := fun w h => List.mem_cons_of_mem _ (List.mem_append_right _ h)
  obtain ⟨hnb, hnd, hbt, hfg, hne, hnc, hdk, hnf, hkn, hln, hst, hdc, hsp⟩ := MI_o hI
  refine lv_aload_n hx hb dX7_any_0 rfl (lv_at hl 0 rfl) ?_
  refine lv_iload_n hx hb dX7_any_1 rfl (lv_at hl 1 rfl) ?_
  refine w_cVi (rest := []) hx hb hml hown hts (m_isDoor_R l D b cI cJ cZ A v c x  (by first | assumption | omega)) 1 gX7_any_X7_isDoor rfl hdX7_isDoor ⟨Nat.le_of_ble_eq_true rfl, Nat.le_of_ble_eq_true rfl⟩ hK hN hP hD hS hA 0 7 rfl rfl rfl rfl hl.1 rfl (Nat.le_of_ble_eq_true rfl) dX7_any_2 ⟨Nat.le_of_ble_eq_true rfl, Nat.le_of_ble_eq_true rfl⟩ (fun r u H locs hq hP hD hS => ?_)
  rcases hq with ⟨j_2, rfl, h_2, hs_x_2⟩ | ⟨rfl, h_2⟩
  · skip
    have hP : va_P D vwCl (mW b cI cJ cZ v c) H := hP
    have hD : va_D A (mW b cI cJ cZ v c) := hD
    subst hs_x_2
    have j_2T := n_tI (k := j_2) (by omega)
    refine w_if_ne (x := 1) hx hb dX7_any_5 (tgt := 10) (by decide) (by decide) (fun _ => ?_) (fun h => absurd h (by decide))
    have hbd := hbt _ h_2
    have hq2 := bars_lt hbd.2 (show j_2 ≤ 3 by omega)
    have hp7 := pow_le_128 (show v 22 0 ≤ 7 by omega)
    have hp0 := Nat.two_pow_pos (v 22 0)
    have hp6 := pow_le_64 hnf
    have hbn := bars_ne (d := j_2) hbd.1
    refine lv_iconst (v := nI (0)) hx hb dX7_any_10 (by decide) ?_
    refine lv_istore_n (lv' := [(2, .int (nI (0))), (0, .ref (b 0)), (1, .int (nI (j_2)))]) hx hb dX7_any_11 rfl hl (by decide) rfl (fun ls hl => ?_)
    refine lv_iconst (v := nI (0)) hx hb dX7_any_12 (by decide) ?_
    refine lv_istore_n (lv' := [(3, .int (nI (0))), (2, .int (nI (0))), (0, .ref (b 0)), (1, .int (nI (j_2)))]) hx hb dX7_any_13 rfl hl (by decide) rfl (fun ls hl => ?_)
    have L14 : ∀ (n : Nat) (i : Nat) (q : Nat) (H : Heap) (locs : List Loc) (ls : Array Slot), 2 ^ v 22 0 - i < n → (i ≤ 2 ^ v 22 0) → (q = am (v 23) (v 22 0) ((2 ^ v 8 j_2 - 1) * 2 ^ (j_2 * 6)) i) → va_P D vwCl (mW b cI cJ cZ v c) H → va_D A (mW b cI cJ cZ v c) → va_S A s.heap H locs → lv_has ls 4 [(2, .int (nI (q))), (3, .int (nI (i))), (0, .ref (b 0)), (1, .int (nI (j_2)))] → W p l e { frames := 2, cells := 0, slots := 0, locals := 45 } s m args below meth c0 H locs 0 0 Q (F0 m 14 ls []) := by
      intro n
      induction n with
      | zero => intro i q H locs ls hm; exact absurd hm (Nat.not_lt_zero _)
      | succ n ih14 =>
        intro i q H locs ls hm14 h1 h2 hP hD hS hl
        refine lv_iload_n hx hb dX7_any_14 rfl (lv_at hl 1 rfl) ?_
        refine lv_iconst (v := nI (1)) hx hb dX7_any_15 (by decide) ?_
        refine lv_aload_n hx hb dX7_any_16 rfl (lv_at hl 2 rfl) ?_
        refine va_get (D := D) (ci := 7) (v := .int (nI (v 22 0))) (C := RX7) (T := TX7) (N := 24) hx hb hts hinX7 hown hK hP 0 rfl rfl 22 (by decide) (hts (.fieldLink RX7 106 "DancedLockModel" "families" "I") (List.mem_of_getElem? (i := 1) rfl)) (fun _ h9 => h9) rfl dX7_any_17 ?_
        refine w_ishl (x := 1) (y := v 22 0) hx hb dX7_any_20 (by omega) (by omega) ?_
        refine w_icmp_ge (x := i) (y := 1 * 2 ^ (v 22 0)) hx hb dX7_any_21 (tgt := 58) (by decide) (by omega) (by omega) (fun c21 => ?_) (fun c21 => ?_)
        · skip
          have e : i = 2 ^ v 22 0 := (by omega)
          subst e
          rw [am_eq hnf hq2 hbn] at h2
          have hm := mst_le (v 23) (v 22 0) ((2 ^ v 8 j_2 - 1) * 2 ^ (j_2 * 6)) 24
          refine lv_iload_n hx hb dX7_any_58 rfl (lv_at hl 0 rfl) ?_
          refine lv_aload_n hx hb dX7_any_59 rfl (lv_at hl 2 rfl) ?_
          refine va_get (D := D) (ci := 7) (v := .int (nI (v 22 0))) (C := RX7) (T := TX7) (N := 24) hx hb hts hinX7 hown hK hP 0 rfl rfl 22 (by decide) (hts (.fieldLink RX7 106 "DancedLockModel" "families" "I") (List.mem_of_getElem? (i := 1) rfl)) (fun _ h9 => h9) rfl dX7_any_60 ?_
          refine w_icmp_le (x := q) (y := v 22 0) hx hb dX7_any_63 (tgt := 71) (by decide) (by omega) (by omega) (fun c63 => ?_) (fun c63 => ?_)
          · skip
            refine lv_iload_n hx hb dX7_any_71 rfl (lv_at hl 0 rfl) ?_
            exact hret (nI (q)) () _ _ 72 _ dX7_any_72 rfl (by first | (exact Or.inl ⟨j_2, h_2, rfl, by show _ = (if _ then _ else _); rw [if_pos (by omega), h2]⟩) | (exact Or.inl ⟨j_2, h_2, rfl, by show _ = (if _ then _ else _); rw [if_neg (by omega)]⟩)) hP hD hS
          · skip
            refine lv_bipush (v := -9) hx hb dX7_any_66 (by decide) ?_
            refine lv_goto (tgt := 72) hx hb dX7_any_68 (by decide) ?_
            exact hret ((-9)) () _ _ 72 _ dX7_any_72 rfl (by first | (exact Or.inl ⟨j_2, h_2, rfl, by show _ = (if _ then _ else _); rw [if_pos (by omega), h2]⟩) | (exact Or.inl ⟨j_2, h_2, rfl, by show _ = (if _ then _ else _); rw [if_neg (by omega)]⟩)) hP hD hS
        · skip
          refine lv_aload_n hx hb dX7_any_24 rfl (lv_at hl 2 rfl) ?_
          refine lv_iload_n hx hb dX7_any_25 rfl (lv_at hl 1 rfl) ?_
          refine lv_iload_n hx hb dX7_any_26 rfl (lv_at hl 3 rfl) ?_
          refine w_cVi (rest := []) hx hb hml hown hts (m_knowAll l D b cI cJ cZ A v c i j_2  (by exact hI) (by omega) (by exact h_2)) 2 gX7_any_X7_knowAll rfl hdX7_knowAll ⟨Nat.le_of_ble_eq_true rfl, Nat.le_of_ble_eq_true rfl⟩ hK hN hP hD hS hA 0 7 rfl rfl rfl rfl hl.1 rfl (Nat.le_of_ble_eq_true rfl) dX7_any_27 ⟨Nat.le_of_ble_eq_true rfl, Nat.le_of_ble_eq_true rfl⟩ (fun r u H locs hq hP hD hS => ?_)
          rcases hq with ⟨rfl, h_27⟩ | ⟨rfl, h_27⟩
          · skip
            have hP : va_P D vwCl (mW b cI cJ cZ v c) H := hP
            have hD : va_D A (mW b cI cJ cZ v c) := hD
            refine w_if_ne (x := 1) hx hb dX7_any_30 (tgt := 50) (by decide) (by decide) (fun _ => ?_) (fun h => absurd h (by decide))
            refine lv_iload_n hx hb dX7_any_50 rfl (lv_at hl 0 rfl) ?_
            refine lv_istore_n (lv' := [(2, .int (nI (q))), (3, .int (nI (i))), (0, .ref (b 0)), (1, .int (nI (j_2)))]) hx hb dX7_any_51 rfl hl (by decide) rfl (fun ls hl => ?_)
            refine lv_iinc (v := nI (i + 1)) (lv' := [(3, .int (nI (i + 1))), (2, .int (nI (q))), (0, .ref (b 0)), (1, .int (nI (j_2)))]) hx hb dX7_any_52 hl (k := 1) rfl (nI_add i 1) (by decide) rfl (fun ls hl => ?_)
            refine lv_goto (tgt := 14) hx hb dX7_any_55 (by decide) ?_
            exact ih14 (i + 1) q _ _ _ (by omega) (by omega) (by first | (rw [am_n (fun y => y.1 h_27)]; exact h2) | (rw [am_y h_27 (by omega)]) | (rw [am_n (fun y => absurd y.2 (by omega))]; exact h2)) hP hD hS (lv_sub hl [1, 0, 2, 3] rfl)
          · skip
            have hP : va_P D vwCl (mW b cI cJ cZ v c) H := hP
            have hD : va_D A (mW b cI cJ cZ v c) := hD
            refine w_if_ne (x := 0) hx hb dX7_any_30 (tgt := 50) (by decide) (by decide) (fun h => absurd h (by decide)) (fun _ => ?_)
            have hpi := pc_le i
            have hq := am_le (f := v 23) (nf := v 22 0) (z := (2 ^ v 8 j_2 - 1) * 2 ^ (j_2 * 6)) i
            rw [← h2] at hq
            refine lv_iload_n hx hb dX7_any_33 rfl (lv_at hl 1 rfl) ?_
            refine w_cSi (rest := []) hx hb hml hown hts (m_size l D b cI cJ cZ A v c i  (by omega)) 1 gX7_any_X7_size rfl hdX7_size ⟨Nat.le_of_ble_eq_true rfl, Nat.le_of_ble_eq_true rfl⟩ hK hN hP hD hS hA rfl hl.1 rfl (Nat.le_of_ble_eq_true rfl) dX7_any_34 ⟨Nat.le_of_ble_eq_true rfl, Nat.le_of_ble_eq_true rfl⟩ (fun r u H locs hq hP hD hS => ?_)
            obtain rfl := hq
            have hP : va_P D vwCl (mW b cI cJ cZ v c) H := hP
            have hD : va_D A (mW b cI cJ cZ v c) := hD
            refine lv_iload_n hx hb dX7_any_37 rfl (lv_at hl 0 rfl) ?_
            refine w_icmp_lt (x := pc i) (y := q) hx hb dX7_any_38 (tgt := 50) (by decide) (by omega) (by omega) (fun c38 => ?_) (fun c38 => ?_)
            · skip
              refine lv_iload_n hx hb dX7_any_50 rfl (lv_at hl 0 rfl) ?_
              refine lv_istore_n (lv' := [(2, .int (nI (q))), (3, .int (nI (i))), (0, .ref (b 0)), (1, .int (nI (j_2)))]) hx hb dX7_any_51 rfl hl (by decide) rfl (fun ls hl => ?_)
              refine lv_iinc (v := nI (i + 1)) (lv' := [(3, .int (nI (i + 1))), (2, .int (nI (q))), (0, .ref (b 0)), (1, .int (nI (j_2)))]) hx hb dX7_any_52 hl (k := 1) rfl (nI_add i 1) (by decide) rfl (fun ls hl => ?_)
              refine lv_goto (tgt := 14) hx hb dX7_any_55 (by decide) ?_
              exact ih14 (i + 1) q _ _ _ (by omega) (by omega) (by first | (rw [am_n (fun y => y.1 h_27)]; exact h2) | (rw [am_y h_27 (by omega)]) | (rw [am_n (fun y => absurd y.2 (by omega))]; exact h2)) hP hD hS (lv_sub hl [1, 0, 2, 3] rfl)
            · skip
              refine lv_iload_n hx hb dX7_any_41 rfl (lv_at hl 1 rfl) ?_
              refine w_cSi (rest := []) hx hb hml hown hts (m_size l D b cI cJ cZ A v c i  (by omega)) 1 gX7_any_X7_size rfl hdX7_size ⟨Nat.le_of_ble_eq_true rfl, Nat.le_of_ble_eq_true rfl⟩ hK hN hP hD hS hA rfl hl.1 rfl (Nat.le_of_ble_eq_true rfl) dX7_any_42 ⟨Nat.le_of_ble_eq_true rfl, Nat.le_of_ble_eq_true rfl⟩ (fun r u H locs hq hP hD hS => ?_)
              obtain rfl := hq
              have hP : va_P D vwCl (mW b cI cJ cZ v c) H := hP
              have hD : va_D A (mW b cI cJ cZ v c) := hD
              refine lv_iconst (v := nI (1)) hx hb dX7_any_45 (by decide) ?_
              refine w_iadd (x := pc i) (y := 1) hx hb dX7_any_46  ?_
              refine lv_goto (tgt := 51) hx hb dX7_any_47 (by decide) ?_
              refine lv_istore_n (lv' := [(2, .int (nI (pc i + 1))), (3, .int (nI (i))), (0, .ref (b 0)), (1, .int (nI (j_2)))]) hx hb dX7_any_51 rfl hl (by decide) rfl (fun ls hl => ?_)
              refine lv_iinc (v := nI (i + 1)) (lv' := [(3, .int (nI (i + 1))), (2, .int (nI (pc i + 1))), (0, .ref (b 0)), (1, .int (nI (j_2)))]) hx hb dX7_any_52 hl (k := 1) rfl (nI_add i 1) (by decide) rfl (fun ls hl => ?_)
              refine lv_goto (tgt := 14) hx hb dX7_any_55 (by decide) ?_
              exact ih14 (i + 1) (pc i + 1) _ _ _ (by omega) (by omega) (by first | (rw [am_n (fun y => y.1 h_27)]; exact h2) | (rw [am_y h_27 (by omega)]) | (rw [am_n (fun y => absurd y.2 (by omega))]; exact h2)) hP hD hS (lv_sub hl [1, 0, 2, 3] rfl)
    exact L14 ((2 ^ v 22 0 - 0) + 1) 0 0 _ _ _ (Nat.lt_succ_self _) (by omega) (by rfl) hP hD hS (lv_sub hl [1, 0, 2, 3] rfl)
  · skip
    have hP : va_P D vwCl (mW b cI cJ cZ v c) H := hP
    have hD : va_D A (mW b cI cJ cZ v c) := hD
    refine w_if_ne (x := 0) hx hb dX7_any_5 (tgt := 10) (by decide) (by decide) (fun h => absurd h (by decide)) (fun _ => ?_)
    refine lv_iconst (v := -1) hx hb dX7_any_8 (by decide) ?_
    exact hret ((-1)) () _ _ 9 _ dX7_any_9 rfl (by exact Or.inr ⟨nR_of (by omega) h_2, rfl⟩) hP hD hS

set_option maxHeartbeats 4000000 in
set_option maxRecDepth 100000 in
theorem m_against (l : Launch) (D : va_G) (b : Nat → Nat) (cI cJ cZ : ClassId) (A : Nat → Prop) (v : Nat → Nat → Nat) (c : Nat → Nat → Int32) (k : Nat) (s1 : Nat) (i : Int32) (q : Int32) (hk : k < 4) (hlen : v 3 k ≤ 80) :
    mI l yX7_against wsX7_against 0 0 [.ref (b 0), .int (nI k), .int (nI s1), .int i, .int q] D (xT cI cJ cZ) A (mW b cI cJ cZ v c) (fun _ : Unit => mW b cI cJ cZ v c)
    (fun (r : Int32) (u : Unit) => (r = nI (2) ∧ ¬ c 2 k = -9 ∧ ¬ c 2 k = nI s1) ∨ (r = nI (1) ∧ c 2 k = -9) ∨ (r = nI (4) ∧ ¬ c 2 k = -9 ∧ c 2 k = nI s1 ∧ q.toInt < 0) ∨ (r = nI (3) ∧ ¬ c 2 k = -9 ∧ c 2 k = nI s1 ∧ 0 ≤ q.toInt ∧ (i.toInt < 0 ∨ (v 3 k : Int) < i.toInt + q.toInt)) ∨ (r = nI (0) ∧ ¬ c 2 k = -9 ∧ c 2 k = nI s1 ∧ 0 ≤ i.toInt ∧ 0 ≤ q.toInt ∧ i.toInt + q.toInt ≤ v 3 k)) := by
  refine w_bI cX7_against 5 .int (by decide) rfl (Nat.le_of_ble_eq_true rfl) (Or.inl rfl) ?_
  intro p e s m args below meth c0 ls Q hx hb hml hts hown hK hN hA hret hP hD hS hl
  have hl : lv_has ls 5 [(0, .ref (b 0)), (1, .int (nI (k))), (2, .int (nI (s1))), (3, .int i), (4, .int q)] := hl
  have hinX7 : ∀ w ∈ wsX70, w ∈ wsX7_against := fun w h => List.mem_cons_of_mem _ (List.mem_append_right _ h)
  refine lv_aload_n hx hb dX7_against_0 rfl (lv_at hl 0 rfl) ?_
  refine va_get (D := D) (ci := 7) (v := .ref (b 2)) (C := RX7) (T := TX7) (N := 24) hx hb hts hinX7 hown hK hP 0 rfl rfl 2 (by decide) (hts (.fieldLink RX7 9 "DancedLockModel" "sorts" "[I") (List.mem_of_getElem? (i := 1) rfl)) (fun _ h9 => h9) rfl dX7_against_1 ?_
  refine lv_iload_n hx hb dX7_against_4 rfl (lv_at hl 1 rfl) ?_
  refine r_iald (f := c 2) hx hb hK hP 1 0 rfl rfl (i := k) (by omega) (by decide) dX7_against_5 ?_
  refine lv_bipush (v := -9) hx hb dX7_against_6 (by decide) ?_
  refine lv_icmp_eq (x := c 2 k) (y := (-9)) hx hb dX7_against_8 (tgt := 23) (by decide) (fun c8 => ?_) (fun c8 => ?_)
  · skip
    refine lv_aload_n hx hb dX7_against_23 rfl (lv_at hl 0 rfl) ?_
    refine va_get (D := D) (ci := 7) (v := .ref (b 2)) (C := RX7) (T := TX7) (N := 24) hx hb hts hinX7 hown hK hP 0 rfl rfl 2 (by decide) (hts (.fieldLink RX7 9 "DancedLockModel" "sorts" "[I") (List.mem_of_getElem? (i := 1) rfl)) (fun _ h9 => h9) rfl dX7_against_24 ?_
    refine lv_iload_n hx hb dX7_against_27 rfl (lv_at hl 1 rfl) ?_
    refine r_iald (f := c 2) hx hb hK hP 1 0 rfl rfl (i := k) (by omega) (by decide) dX7_against_28 ?_
    refine lv_bipush (v := -9) hx hb dX7_against_29 (by decide) ?_
    refine lv_icmp_ne (x := c 2 k) (y := (-9)) hx hb dX7_against_31 (tgt := 36) (by decide) (fun c31 => ?_) (fun c31 => ?_)
    · skip
      refine lv_iload hx hb dX7_against_36 (lv_at hl 4 rfl) ?_
      refine r_if_ge hx hb dX7_against_38 (tgt := 43) (by decide) (fun c38 => ?_) (fun c38 => ?_)
      · skip
        obtain ⟨q', q'B, rfl⟩ := r_nat c38
        have q'T := n_tI q'B
        refine lv_iload_n hx hb dX7_against_43 rfl (lv_at hl 3 rfl) ?_
        refine r_if_lt hx hb dX7_against_44 (tgt := 70) (by decide) (fun c44 => ?_) (fun c44 => ?_)
        · skip
          refine lv_iconst (v := nI (3)) hx hb dX7_against_70 (by decide) ?_
          refine lv_goto (tgt := 75) hx hb dX7_against_71 (by decide) ?_
          exact hret (nI (3)) () _ _ 75 _ dX7_against_75 rfl (by first | exact absurd c8 c31 | exact Or.inr (Or.inr (Or.inr (Or.inl ⟨rfl, c31, c18, by omega, by omega⟩)))) hP hD hS
        · skip
          obtain ⟨i', i'B, rfl⟩ := r_nat c44
          have i'T := n_tI i'B
          refine lv_iload_n hx hb dX7_against_47 rfl (lv_at hl 3 rfl) ?_
          refine lv_aload_n hx hb dX7_against_48 rfl (lv_at hl 0 rfl) ?_
          refine va_get (D := D) (ci := 7) (v := .ref (b 3)) (C := RX7) (T := TX7) (N := 24) hx hb hts hinX7 hown hK hP 0 rfl rfl 3 (by decide) (hts (.fieldLink RX7 13 "DancedLockModel" "sheetLong" "[I") (List.mem_of_getElem? (i := 2) rfl)) (fun _ h9 => h9) rfl dX7_against_49 ?_
          refine lv_iload_n hx hb dX7_against_52 rfl (lv_at hl 1 rfl) ?_
          refine w_iald (f := v 3) hx hb hK hP 2 0 rfl rfl (i := k) (by omega) (by decide) dX7_against_53 ?_
          refine w_icmp_gt (x := i') (y := v 3 k) hx hb dX7_against_54 (tgt := 70) (by decide) (by omega) (by omega) (fun c54 => ?_) (fun c54 => ?_)
          · skip
            refine lv_iconst (v := nI (3)) hx hb dX7_against_70 (by decide) ?_
            refine lv_goto (tgt := 75) hx hb dX7_against_71 (by decide) ?_
            exact hret (nI (3)) () _ _ 75 _ dX7_against_75 rfl (by first | exact absurd c8 c31 | exact Or.inr (Or.inr (Or.inr (Or.inl ⟨rfl, c31, c18, by omega, by omega⟩)))) hP hD hS
          · skip
            refine lv_iload hx hb dX7_against_57 (lv_at hl 4 rfl) ?_
            refine lv_aload_n hx hb dX7_against_59 rfl (lv_at hl 0 rfl) ?_
            refine va_get (D := D) (ci := 7) (v := .ref (b 3)) (C := RX7) (T := TX7) (N := 24) hx hb hts hinX7 hown hK hP 0 rfl rfl 3 (by decide) (hts (.fieldLink RX7 13 "DancedLockModel" "sheetLong" "[I") (List.mem_of_getElem? (i := 2) rfl)) (fun _ h9 => h9) rfl dX7_against_60 ?_
            refine lv_iload_n hx hb dX7_against_63 rfl (lv_at hl 1 rfl) ?_
            refine w_iald (f := v 3) hx hb hK hP 2 0 rfl rfl (i := k) (by omega) (by decide) dX7_against_64 ?_
            refine lv_iload_n hx hb dX7_against_65 rfl (lv_at hl 3 rfl) ?_
            refine w_isub (x := v 3 k) (y := i') hx hb dX7_against_66 (by omega) ?_
            refine w_icmp_le (x := q') (y := (v 3 k) - i') hx hb dX7_against_67 (tgt := 74) (by decide) (by omega) (by omega) (fun c67 => ?_) (fun c67 => ?_)
            · skip
              refine lv_iconst (v := nI (0)) hx hb dX7_against_74 (by decide) ?_
              exact hret (nI (0)) () _ _ 75 _ dX7_against_75 rfl (by first | exact absurd c8 c31 | exact Or.inr (Or.inr (Or.inr (Or.inr ⟨rfl, c31, c18, by omega, by omega, by omega⟩)))) hP hD hS
            · skip
              refine lv_iconst (v := nI (3)) hx hb dX7_against_70 (by decide) ?_
              refine lv_goto (tgt := 75) hx hb dX7_against_71 (by decide) ?_
              exact hret (nI (3)) () _ _ 75 _ dX7_against_75 rfl (by first | exact absurd c8 c31 | exact Or.inr (Or.inr (Or.inr (Or.inl ⟨rfl, c31, c18, by omega, by omega⟩)))) hP hD hS
      · skip
        refine lv_iconst (v := nI (4)) hx hb dX7_against_41 (by decide) ?_
        exact hret (nI (4)) () _ _ 42 _ dX7_against_42 rfl (by first | exact absurd c8 c31 | exact Or.inr (Or.inr (Or.inl ⟨rfl, c31, c18, by omega⟩))) hP hD hS
    · skip
      refine lv_iconst (v := nI (1)) hx hb dX7_against_34 (by decide) ?_
      exact hret (nI (1)) () _ _ 35 _ dX7_against_35 rfl (by exact Or.inr (Or.inl ⟨rfl, c31⟩)) hP hD hS
  · skip
    refine lv_aload_n hx hb dX7_against_11 rfl (lv_at hl 0 rfl) ?_
    refine va_get (D := D) (ci := 7) (v := .ref (b 2)) (C := RX7) (T := TX7) (N := 24) hx hb hts hinX7 hown hK hP 0 rfl rfl 2 (by decide) (hts (.fieldLink RX7 9 "DancedLockModel" "sorts" "[I") (List.mem_of_getElem? (i := 1) rfl)) (fun _ h9 => h9) rfl dX7_against_12 ?_
    refine lv_iload_n hx hb dX7_against_15 rfl (lv_at hl 1 rfl) ?_
    refine r_iald (f := c 2) hx hb hK hP 1 0 rfl rfl (i := k) (by omega) (by decide) dX7_against_16 ?_
    refine lv_iload_n hx hb dX7_against_17 rfl (lv_at hl 2 rfl) ?_
    refine lv_icmp_eq (x := c 2 k) (y := nI (s1)) hx hb dX7_against_18 (tgt := 23) (by decide) (fun c18 => ?_) (fun c18 => ?_)
    · skip
      refine lv_aload_n hx hb dX7_against_23 rfl (lv_at hl 0 rfl) ?_
      refine va_get (D := D) (ci := 7) (v := .ref (b 2)) (C := RX7) (T := TX7) (N := 24) hx hb hts hinX7 hown hK hP 0 rfl rfl 2 (by decide) (hts (.fieldLink RX7 9 "DancedLockModel" "sorts" "[I") (List.mem_of_getElem? (i := 1) rfl)) (fun _ h9 => h9) rfl dX7_against_24 ?_
      refine lv_iload_n hx hb dX7_against_27 rfl (lv_at hl 1 rfl) ?_
      refine r_iald (f := c 2) hx hb hK hP 1 0 rfl rfl (i := k) (by omega) (by decide) dX7_against_28 ?_
      refine lv_bipush (v := -9) hx hb dX7_against_29 (by decide) ?_
      refine lv_icmp_ne (x := c 2 k) (y := (-9)) hx hb dX7_against_31 (tgt := 36) (by decide) (fun c31 => ?_) (fun c31 => ?_)
      · skip
        refine lv_iload hx hb dX7_against_36 (lv_at hl 4 rfl) ?_
        refine r_if_ge hx hb dX7_against_38 (tgt := 43) (by decide) (fun c38 => ?_) (fun c38 => ?_)
        · skip
          obtain ⟨q', q'B, rfl⟩ := r_nat c38
          have q'T := n_tI q'B
          refine lv_iload_n hx hb dX7_against_43 rfl (lv_at hl 3 rfl) ?_
          refine r_if_lt hx hb dX7_against_44 (tgt := 70) (by decide) (fun c44 => ?_) (fun c44 => ?_)
          · skip
            refine lv_iconst (v := nI (3)) hx hb dX7_against_70 (by decide) ?_
            refine lv_goto (tgt := 75) hx hb dX7_against_71 (by decide) ?_
            exact hret (nI (3)) () _ _ 75 _ dX7_against_75 rfl (by first | exact absurd c8 c31 | exact Or.inr (Or.inr (Or.inr (Or.inl ⟨rfl, c31, c18, by omega, by omega⟩)))) hP hD hS
          · skip
            obtain ⟨i', i'B, rfl⟩ := r_nat c44
            have i'T := n_tI i'B
            refine lv_iload_n hx hb dX7_against_47 rfl (lv_at hl 3 rfl) ?_
            refine lv_aload_n hx hb dX7_against_48 rfl (lv_at hl 0 rfl) ?_
            refine va_get (D := D) (ci := 7) (v := .ref (b 3)) (C := RX7) (T := TX7) (N := 24) hx hb hts hinX7 hown hK hP 0 rfl rfl 3 (by decide) (hts (.fieldLink RX7 13 "DancedLockModel" "sheetLong" "[I") (List.mem_of_getElem? (i := 2) rfl)) (fun _ h9 => h9) rfl dX7_against_49 ?_
            refine lv_iload_n hx hb dX7_against_52 rfl (lv_at hl 1 rfl) ?_
            refine w_iald (f := v 3) hx hb hK hP 2 0 rfl rfl (i := k) (by omega) (by decide) dX7_against_53 ?_
            refine w_icmp_gt (x := i') (y := v 3 k) hx hb dX7_against_54 (tgt := 70) (by decide) (by omega) (by omega) (fun c54 => ?_) (fun c54 => ?_)
            · skip
              refine lv_iconst (v := nI (3)) hx hb dX7_against_70 (by decide) ?_
              refine lv_goto (tgt := 75) hx hb dX7_against_71 (by decide) ?_
              exact hret (nI (3)) () _ _ 75 _ dX7_against_75 rfl (by first | exact absurd c8 c31 | exact Or.inr (Or.inr (Or.inr (Or.inl ⟨rfl, c31, c18, by omega, by omega⟩)))) hP hD hS
            · skip
              refine lv_iload hx hb dX7_against_57 (lv_at hl 4 rfl) ?_
              refine lv_aload_n hx hb dX7_against_59 rfl (lv_at hl 0 rfl) ?_
              refine va_get (D := D) (ci := 7) (v := .ref (b 3)) (C := RX7) (T := TX7) (N := 24) hx hb hts hinX7 hown hK hP 0 rfl rfl 3 (by decide) (hts (.fieldLink RX7 13 "DancedLockModel" "sheetLong" "[I") (List.mem_of_getElem? (i := 2) rfl)) (fun _ h9 => h9) rfl dX7_against_60 ?_
              refine lv_iload_n hx hb dX7_against_63 rfl (lv_at hl 1 rfl) ?_
              refine w_iald (f := v 3) hx hb hK hP 2 0 rfl rfl (i := k) (by omega) (by decide) dX7_against_64 ?_
              refine lv_iload_n hx hb dX7_against_65 rfl (lv_at hl 3 rfl) ?_
              refine w_isub (x := v 3 k) (y := i') hx hb dX7_against_66 (by omega) ?_
              refine w_icmp_le (x := q') (y := (v 3 k) - i') hx hb dX7_against_67 (tgt := 74) (by decide) (by omega) (by omega) (fun c67 => ?_) (fun c67 => ?_)
              · skip
                refine lv_iconst (v := nI (0)) hx hb dX7_against_74 (by decide) ?_
                exact hret (nI (0)) () _ _ 75 _ dX7_against_75 rfl (by first | exact absurd c8 c31 | exact Or.inr (Or.inr (Or.inr (Or.inr ⟨rfl, c31, c18, by omega, by omega, by omega⟩)))) hP hD hS
              · skip
                refine lv_iconst (v := nI (3)) hx hb dX7_against_70 (by decide) ?_
                refine lv_goto (tgt := 75) hx hb dX7_against_71 (by decide) ?_
                exact hret (nI (3)) () _ _ 75 _ dX7_against_75 rfl (by first | exact absurd c8 c31 | exact Or.inr (Or.inr (Or.inr (Or.inl ⟨rfl, c31, c18, by omega, by omega⟩)))) hP hD hS
        · skip
          refine lv_iconst (v := nI (4)) hx hb dX7_against_41 (by decide) ?_
          exact hret (nI (4)) () _ _ 42 _ dX7_against_42 rfl (by first | exact absurd c8 c31 | exact Or.inr (Or.inr (Or.inl ⟨rfl, c31, c18, by omega⟩))) hP hD hS
      · skip
        refine lv_iconst (v := nI (1)) hx hb dX7_against_34 (by decide) ?_
        exact hret (nI (1)) () _ _ 35 _ dX7_against_35 rfl (by exact Or.inr (Or.inl ⟨rfl, c31⟩)) hP hD hS
    · skip
      refine lv_iconst (v := nI (2)) hx hb dX7_against_21 (by decide) ?_
      exact hret (nI (2)) () _ _ 22 _ dX7_against_22 rfl (by exact Or.inl ⟨rfl, c8, c18⟩) hP hD hS

set_option maxHeartbeats 1600000 in
set_option maxRecDepth 100000 in
theorem s_sheet (l : Launch) (D : va_G) (b : Nat → Nat) (cI cJ cZ : ClassId) (A : Nat → Prop) (v : Nat → Nat → Nat) (c : Nat → Nat → Int32) (x : Int32) (y : Int32) (z : Int32) (hI : MI v c) :
    mI l yX7_sheet wsX7_sheet 2 42 [.ref (b 0), .int x, .int y, .int z] D (xT cI cJ cZ) A (mW b cI cJ cZ v c) (fun u : ((Nat → Nat → Nat) × (Nat → Nat → Int32)) => mW b cI cJ cZ u.1 u.2)
    (fun (r : Int32) (u : ((Nat → Nat → Nat) × (Nat → Nat → Int32))) => MI u.1 u.2 ∧ sq_sheet (vM v) (cM c) (vM u.1, cM u.2) x y z r) := by
  refine w_bI cX7_sheet 5 .int (by decide) rfl (Nat.le_of_ble_eq_true rfl) (Or.inl rfl) ?_
  intro p e s m args below meth c0 ls Q hx hb hml hts hown hK hN hA hret hP hD hS hl
  have hl : lv_has ls 5 [(0, .ref (b 0)), (1, .int x), (2, .int y), (3, .int z)] := hl
  have hinX7 : ∀ w ∈ wsX70, w ∈ wsX7_sheet := fun w h => List.mem_cons_of_mem _ (List.mem_append_right _ h)
  obtain ⟨hnb, hnd, hbt, hfg, hne, hnc, hdk, hnf, hkn, hln, hst, hdc, hsp⟩ := MI_o hI
  have t80 : (nI 80).toInt = 80 := rfl
  refine lv_aload_n hx hb dX7_sheet_0 rfl (lv_at hl 0 rfl) ?_
  refine lv_iconst (v := nI (0)) hx hb dX7_sheet_1 (by decide) ?_
  refine va_put (D := D) (ci := 7) (v := .int (nI (0))) (ty := .int) (C := RX7) (T := TX7) (N := 24) hx hb hts hinX7 tyX7 tyX7_ok nmX7 hown hK hP hD hS 0 rfl rfl 0 (by decide) (hts (.fieldLink RX7 53 "DancedLockModel" "fault" "I") (List.mem_of_getElem? (i := 1) rfl)) (fun _ h9 => h9) rfl (by decide +kernel) rfl (rfl) (Nat.le_of_ble_eq_true rfl) dX7_sheet_2 (fun H locs hP hD hS => ?_)
  have hP : va_P D vwCl (mW b cI cJ cZ (va_up v 0 (va_up (v 0) 0 (0))) c) H := hP
  have hD : va_D A (mW b cI cJ cZ (va_up v 0 (va_up (v 0) 0 (0))) c) := hD
  refine lv_iload_n hx hb dX7_sheet_5 rfl (lv_at hl 1 rfl) ?_
  refine w_cSi (rest := []) hx hb hml hown hts (m_isSheet l D b cI cJ cZ A (va_up v 0 (va_up (v 0) 0 (0))) c x  ) 1 gX7_sheet_X7_isSheet rfl hdX7_isSheet ⟨Nat.le_of_ble_eq_true rfl, Nat.le_of_ble_eq_true rfl⟩ hK hN hP hD hS hA rfl hl.1 rfl (Nat.le_of_ble_eq_true rfl) dX7_sheet_6 ⟨Nat.le_of_ble_eq_true rfl, Nat.le_of_ble_eq_true rfl⟩ (fun r u H locs hq hP hD hS => ?_)
  rcases hq with ⟨j_6, rfl, h_6, hs_x_6⟩ | ⟨rfl, h_6⟩
  · skip
    have hP : va_P D vwCl (mW b cI cJ cZ (va_up v 0 (va_up (v 0) 0 (0))) c) H := hP
    have hD : va_D A (mW b cI cJ cZ (va_up v 0 (va_up (v 0) 0 (0))) c) := hD
    subst hs_x_6
    have j_6T := n_tI (k := j_6) (by omega)
    refine w_if_ne (x := 1) hx hb dX7_sheet_9 (tgt := 14) (by decide) (by decide) (fun _ => ?_) (fun h => absurd h (by decide))
    refine lv_iload_n hx hb dX7_sheet_14 rfl (lv_at hl 2 rfl) ?_
    refine w_cSi (rest := []) hx hb hml hown hts (m_isSort l D b cI cJ cZ A (va_up v 0 (va_up (v 0) 0 (0))) c y  ) 1 gX7_sheet_X7_isSort rfl hdX7_isSort ⟨Nat.le_of_ble_eq_true rfl, Nat.le_of_ble_eq_true rfl⟩ hK hN hP hD hS hA rfl hl.1 rfl (Nat.le_of_ble_eq_true rfl) dX7_sheet_15 ⟨Nat.le_of_ble_eq_true rfl, Nat.le_of_ble_eq_true rfl⟩ (fun r u H locs hq hP hD hS => ?_)
    rcases hq with ⟨j_15, rfl, h_15, hs_x_15⟩ | ⟨rfl, h_15⟩
    · skip
      have hP : va_P D vwCl (mW b cI cJ cZ (va_up v 0 (va_up (v 0) 0 (0))) c) H := hP
      have hD : va_D A (mW b cI cJ cZ (va_up v 0 (va_up (v 0) 0 (0))) c) := hD
      subst hs_x_15
      have j_15T := n_tI (k := j_15) (by omega)
      refine w_if_eq (x := 1) hx hb dX7_sheet_18 (tgt := 27) (by decide) (by decide) (fun h => absurd h (by decide)) (fun _ => ?_)
      refine lv_iload_n hx hb dX7_sheet_21 rfl (lv_at hl 3 rfl) ?_
      refine lv_bipush (v := nI (80)) hx hb dX7_sheet_22 (by decide) ?_
      refine r_icmp_le (x := z) (y := nI (80)) hx hb dX7_sheet_24 (tgt := 30) (by decide) (fun c24 => ?_) (fun c24 => ?_)
      · skip
        refine lv_iload_n hx hb dX7_sheet_30 rfl (lv_at hl 3 rfl) ?_
        refine r_if_ge hx hb dX7_sheet_31 (tgt := 40) (by decide) (fun c31 => ?_) (fun c31 => ?_)
        · skip
          obtain ⟨z', z'B, rfl⟩ := r_nat c31
          have z'T := n_tI z'B
          refine lv_aload_n hx hb dX7_sheet_40 rfl (lv_at hl 0 rfl) ?_
          refine va_get (D := D) (ci := 7) (v := .ref (b 2)) (C := RX7) (T := TX7) (N := 24) hx hb hts hinX7 hown hK hP 0 rfl rfl 2 (by decide) (hts (.fieldLink RX7 9 "DancedLockModel" "sorts" "[I") (List.mem_of_getElem? (i := 2) rfl)) (fun _ h9 => h9) rfl dX7_sheet_41 ?_
          refine lv_iload_n hx hb dX7_sheet_44 rfl (lv_at hl 1 rfl) ?_
          refine lv_iload_n hx hb dX7_sheet_45 rfl (lv_at hl 2 rfl) ?_
          refine r_iast (f := c 2) (w := nI (j_15)) hx hb hK hP hD hS 1 0 rfl rfl (i := j_6) (by omega) (by decide) dX7_sheet_46 (fun H locs hP hD hS => ?_)
          have hP : va_P D vwCl (mW b cI cJ cZ (va_up v 0 (va_up (v 0) 0 (0))) (va_up c 2 (va_up (c 2) j_6 (nI (j_15))))) H := hP
          have hD : va_D A (mW b cI cJ cZ (va_up v 0 (va_up (v 0) 0 (0))) (va_up c 2 (va_up (c 2) j_6 (nI (j_15))))) := hD
          refine lv_aload_n hx hb dX7_sheet_47 rfl (lv_at hl 0 rfl) ?_
          refine va_get (D := D) (ci := 7) (v := .ref (b 3)) (C := RX7) (T := TX7) (N := 24) hx hb hts hinX7 hown hK hP 0 rfl rfl 3 (by decide) (hts (.fieldLink RX7 13 "DancedLockModel" "sheetLong" "[I") (List.mem_of_getElem? (i := 3) rfl)) (fun _ h9 => h9) rfl dX7_sheet_48 ?_
          refine lv_iload_n hx hb dX7_sheet_51 rfl (lv_at hl 1 rfl) ?_
          refine lv_iload_n hx hb dX7_sheet_52 rfl (lv_at hl 3 rfl) ?_
          refine w_iast (f := v 3) (w := z') hx hb hK hP hD hS 2 0 rfl rfl (i := j_6) (by omega) (by decide) dX7_sheet_53 (fun H locs hP hD hS => ?_)
          have hP : va_P D vwCl (mW b cI cJ cZ (va_up (va_up v 0 (va_up (v 0) 0 (0))) 3 (va_up (v 3) j_6 z')) (va_up c 2 (va_up (c 2) j_6 (nI (j_15))))) H := hP
          have hD : va_D A (mW b cI cJ cZ (va_up (va_up v 0 (va_up (v 0) 0 (0))) 3 (va_up (v 3) j_6 z')) (va_up c 2 (va_up (c 2) j_6 (nI (j_15))))) := hD
          refine lv_iconst (v := nI (0)) hx hb dX7_sheet_54 (by decide) ?_
          refine lv_istore (lv' := [(4, .int (nI (0))), (0, .ref (b 0)), (1, .int (nI (j_6))), (2, .int (nI (j_15))), (3, .int (nI (z')))]) hx hb dX7_sheet_55 hl (by decide) rfl (fun ls hl => ?_)
          have L57 : ∀ (n : Nat) (i : Nat) (g : Nat → Int32) (H : Heap) (locs : List Loc) (ls : Array Slot), 80 - i < n → (i ≤ 80) → (g = flf (c 4) (80 * j_6) (80 * j_6 + i) 0) → va_P D vwCl (mW b cI cJ cZ (va_up (va_up v 0 (va_up (v 0) 0 (0))) 3 (va_up (v 3) j_6 z')) (va_up (va_up c 2 (va_up (c 2) j_6 (nI (j_15)))) 4 (g))) H → va_D A (mW b cI cJ cZ (va_up (va_up v 0 (va_up (v 0) 0 (0))) 3 (va_up (v 3) j_6 z')) (va_up (va_up c 2 (va_up (c 2) j_6 (nI (j_15)))) 4 (g))) → va_S A s.heap H locs → lv_has ls 5 [(4, .int (nI (i))), (0, .ref (b 0)), (1, .int (nI (j_6))), (2, .int (nI (j_15))), (3, .int (nI (z')))] → W p l e { frames := 2, cells := 0, slots := 0, locals := 42 } s m args below meth c0 H locs 0 0 Q (F0 m 57 ls []) := by
            intro n
            induction n with
            | zero => intro i g H locs ls hm; exact absurd hm (Nat.not_lt_zero _)
            | succ n ih57 =>
              intro i g H locs ls hm57 h1 h2 hP hD hS hl
              refine lv_iload hx hb dX7_sheet_57 (lv_at hl 0 rfl) ?_
              refine lv_bipush (v := nI (80)) hx hb dX7_sheet_59 (by decide) ?_
              refine w_icmp_ge (x := i) (y := 80) hx hb dX7_sheet_61 (tgt := 83) (by decide) (by omega) (by omega) (fun c61 => ?_) (fun c61 => ?_)
              · skip
                have e : i = 80 := (by omega)
                subst e
                rw [Nat.mul_comm 80] at h2
                refine lv_iconst (v := nI (1)) hx hb dX7_sheet_83 (by decide) ?_
                exact hret (nI (1)) (va_up (va_up v 0 (va_up (v 0) 0 (0))) 3 (va_up (v 3) j_6 z'), va_up (va_up c 2 (va_up (c 2) j_6 (nI (j_15)))) 4 (g)) _ _ 84 _ dX7_sheet_84 rfl (by exact ⟨MI_mk hI ⟨rfl, rfl, rfl, rfl, rfl, rfl, rfl, rfl, rfl, rfl⟩ (up_all (P := fun q => q ≤ 80) hln (by omega)) hsp hI.2.1 (up_all (P := fun q => q = -9 ∨ ∃ s1, s1 < 3 ∧ q = nI s1) hI.2.2 (Or.inr ⟨j_15, h_15, rfl⟩)), Or.inr ⟨j_6, h_6, rfl, Or.inr ⟨j_15, h_15, rfl, Or.inr ⟨z', by omega, rfl, rfl, rfl, cM_s (nI_m9 h_15), rfl, h2, rfl, rfl, rfl, rfl, rfl, rfl, rfl, rfl, rfl, rfl⟩⟩⟩⟩) hP hD hS
              · skip
                refine lv_aload_n hx hb dX7_sheet_64 rfl (lv_at hl 1 rfl) ?_
                refine va_get (D := D) (ci := 7) (v := .ref (b 4)) (C := RX7) (T := TX7) (N := 24) hx hb hts hinX7 hown hK hP 0 rfl rfl 4 (by decide) (hts (.fieldLink RX7 16 "DancedLockModel" "cells" "[I") (List.mem_of_getElem? (i := 4) rfl)) (fun _ h9 => h9) rfl dX7_sheet_65 ?_
                refine lv_bipush (v := nI (80)) hx hb dX7_sheet_68 (by decide) ?_
                refine lv_iload_n hx hb dX7_sheet_70 rfl (lv_at hl 2 rfl) ?_
                refine w_imul (x := 80) (y := j_6) hx hb dX7_sheet_71  ?_
                refine lv_iload hx hb dX7_sheet_72 (lv_at hl 0 rfl) ?_
                refine w_iadd (x := 80 * j_6) (y := i) hx hb dX7_sheet_74  ?_
                refine lv_iconst (v := nI (0)) hx hb dX7_sheet_75 (by decide) ?_
                refine r_iast (f := g) (w := nI (0)) hx hb hK hP hD hS 3 0 rfl rfl (i := 80 * j_6 + i) (by omega) (by decide) dX7_sheet_76 (fun H locs hP hD hS => ?_)
                have hP : va_P D vwCl (mW b cI cJ cZ (va_up (va_up v 0 (va_up (v 0) 0 (0))) 3 (va_up (v 3) j_6 z')) (va_up (va_up c 2 (va_up (c 2) j_6 (nI (j_15)))) 4 (va_up g (80 * j_6 + i) (nI (0))))) H := hP
                have hD : va_D A (mW b cI cJ cZ (va_up (va_up v 0 (va_up (v 0) 0 (0))) 3 (va_up (v 3) j_6 z')) (va_up (va_up c 2 (va_up (c 2) j_6 (nI (j_15)))) 4 (va_up g (80 * j_6 + i) (nI (0))))) := hD
                refine lv_iinc (v := nI (i + 1)) (lv' := [(4, .int (nI (i + 1))), (0, .ref (b 0)), (1, .int (nI (j_6))), (2, .int (nI (j_15))), (3, .int (nI (z')))]) hx hb dX7_sheet_77 hl (k := 0) rfl (nI_add i 1) (by decide) rfl (fun ls hl => ?_)
                refine lv_goto (tgt := 57) hx hb dX7_sheet_80 (by decide) ?_
                exact ih57 (i + 1) (va_up g (80 * j_6 + i) (nI (0))) _ _ _ (by omega) (by omega) (by rw [h2]; exact flf_s _ (Nat.le_add_right _ _) _) hP hD hS (lv_sub hl [0, 1, 2, 3, 4] rfl)
          exact L57 ((80 - 0) + 1) 0 (c 4) _ _ _ (Nat.lt_succ_self _) (by omega) (by exact (flf_0 _ _ _).symm) hP hD hS (lv_sub hl [0, 1, 2, 3, 4] rfl)
        · skip
          refine lv_aload_n hx hb dX7_sheet_34 rfl (lv_at hl 0 rfl) ?_
          refine lv_iconst (v := nI (4)) hx hb dX7_sheet_35 (by decide) ?_
          refine w_cVi (rest := []) hx hb hml hown hts (m_fails l D b cI cJ cZ A (va_up v 0 (va_up (v 0) 0 (0))) c 4  ) 1 gX7_sheet_X7_fails rfl hdX7_fails ⟨Nat.le_of_ble_eq_true rfl, Nat.le_of_ble_eq_true rfl⟩ hK hN hP hD hS hA 0 7 rfl rfl rfl rfl hl.1 rfl (Nat.le_of_ble_eq_true rfl) dX7_sheet_36 ⟨Nat.le_of_ble_eq_true rfl, Nat.le_of_ble_eq_true rfl⟩ (fun r u H locs hq hP hD hS => ?_)
          obtain ⟨rfl, rfl⟩ := hq
          have hP : va_P D vwCl (mW b cI cJ cZ (va_up v 0 (va_up (v 0) 0 (4))) c) H := hP
          have hD : va_D A (mW b cI cJ cZ (va_up v 0 (va_up (v 0) 0 (4))) c) := hD
          exact hret ((-10) - (nI (4))) (va_up v 0 (va_up (v 0) 0 (4)), c) _ _ 39 _ dX7_sheet_39 rfl (by exact ⟨MI_rd hI ⟨rfl, rfl, rfl, rfl, rfl, rfl, rfl, rfl, rfl, rfl, rfl, rfl, rfl⟩ (hsp), Or.inr ⟨j_6, h_6, rfl, Or.inr ⟨j_15, h_15, rfl, Or.inl ⟨c31, by decide, rfl, rfl, rfl, rfl, rfl, rfl, rfl, rfl, rfl, rfl, rfl, rfl, rfl, rfl⟩⟩⟩⟩) hP hD hS
      · skip
        refine lv_bipush (v := -2) hx hb dX7_sheet_27 (by decide) ?_
        exact hret ((-2)) (va_up v 0 (va_up (v 0) 0 (0)), c) _ _ 29 _ dX7_sheet_29 rfl (by first | exact ⟨MI_rd hI ⟨rfl, rfl, rfl, rfl, rfl, rfl, rfl, rfl, rfl, rfl, rfl, rfl, rfl⟩ (hsp), Or.inr ⟨j_6, h_6, rfl, Or.inl ⟨Or.inl (nR_of (by decide) (by omega)), rfl, rfl, rfl, rfl, rfl, rfl, rfl, rfl, rfl, rfl, rfl, rfl, rfl, rfl, rfl⟩⟩⟩ | exact ⟨MI_rd hI ⟨rfl, rfl, rfl, rfl, rfl, rfl, rfl, rfl, rfl, rfl, rfl, rfl, rfl⟩ (hsp), Or.inr ⟨j_6, h_6, rfl, Or.inl ⟨Or.inr (by omega), rfl, rfl, rfl, rfl, rfl, rfl, rfl, rfl, rfl, rfl, rfl, rfl, rfl, rfl, rfl⟩⟩⟩) hP hD hS
    · skip
      have hP : va_P D vwCl (mW b cI cJ cZ (va_up v 0 (va_up (v 0) 0 (0))) c) H := hP
      have hD : va_D A (mW b cI cJ cZ (va_up v 0 (va_up (v 0) 0 (0))) c) := hD
      refine w_if_eq (x := 0) hx hb dX7_sheet_18 (tgt := 27) (by decide) (by decide) (fun _ => ?_) (fun h => absurd h (by decide))
      refine lv_bipush (v := -2) hx hb dX7_sheet_27 (by decide) ?_
      exact hret ((-2)) (va_up v 0 (va_up (v 0) 0 (0)), c) _ _ 29 _ dX7_sheet_29 rfl (by first | exact ⟨MI_rd hI ⟨rfl, rfl, rfl, rfl, rfl, rfl, rfl, rfl, rfl, rfl, rfl, rfl, rfl⟩ (hsp), Or.inr ⟨j_6, h_6, rfl, Or.inl ⟨Or.inl (nR_of (by decide) (by omega)), rfl, rfl, rfl, rfl, rfl, rfl, rfl, rfl, rfl, rfl, rfl, rfl, rfl, rfl, rfl⟩⟩⟩ | exact ⟨MI_rd hI ⟨rfl, rfl, rfl, rfl, rfl, rfl, rfl, rfl, rfl, rfl, rfl, rfl, rfl⟩ (hsp), Or.inr ⟨j_6, h_6, rfl, Or.inl ⟨Or.inr (by omega), rfl, rfl, rfl, rfl, rfl, rfl, rfl, rfl, rfl, rfl, rfl, rfl, rfl, rfl, rfl⟩⟩⟩) hP hD hS
  · skip
    have hP : va_P D vwCl (mW b cI cJ cZ (va_up v 0 (va_up (v 0) 0 (0))) c) H := hP
    have hD : va_D A (mW b cI cJ cZ (va_up v 0 (va_up (v 0) 0 (0))) c) := hD
    refine w_if_ne (x := 0) hx hb dX7_sheet_9 (tgt := 14) (by decide) (by decide) (fun h => absurd h (by decide)) (fun _ => ?_)
    refine lv_iconst (v := -1) hx hb dX7_sheet_12 (by decide) ?_
    exact hret ((-1)) (va_up v 0 (va_up (v 0) 0 (0)), c) _ _ 13 _ dX7_sheet_13 rfl (by exact ⟨MI_rd hI ⟨rfl, rfl, rfl, rfl, rfl, rfl, rfl, rfl, rfl, rfl, rfl, rfl, rfl⟩ (hsp), Or.inl ⟨nR_of (by decide) (by omega), rfl, rfl, rfl, rfl, rfl, rfl, rfl, rfl, rfl, rfl, rfl, rfl, rfl, rfl, rfl⟩⟩) hP hD hS

set_option maxHeartbeats 1600000 in
set_option maxRecDepth 100000 in
theorem s_lose (l : Launch) (D : va_G) (b : Nat → Nat) (cI cJ cZ : ClassId) (A : Nat → Prop) (v : Nat → Nat → Nat) (c : Nat → Nat → Int32) (x : Int32) (hI : MI v c) :
    mI l yX7_lose wsX7_lose 2 42 [.ref (b 0), .int x] D (xT cI cJ cZ) A (mW b cI cJ cZ v c) (fun u : ((Nat → Nat → Nat) × (Nat → Nat → Int32)) => mW b cI cJ cZ u.1 u.2)
    (fun (r : Int32) (u : ((Nat → Nat → Nat) × (Nat → Nat → Int32))) => MI u.1 u.2 ∧ sq_lose (vM v) (cM c) (vM u.1, cM u.2) x r) := by
  refine w_bI cX7_lose 3 .int (by decide) rfl (Nat.le_of_ble_eq_true rfl) (Or.inl rfl) ?_
  intro p e s m args below meth c0 ls Q hx hb hml hts hown hK hN hA hret hP hD hS hl
  have hl : lv_has ls 3 [(0, .ref (b 0)), (1, .int x)] := hl
  have hinX7 : ∀ w ∈ wsX70, w ∈ wsX7_lose := fun w h => List.mem_cons_of_mem _ (List.mem_append_right _ h)
  obtain ⟨hnb, hnd, hbt, hfg, hne, hnc, hdk, hnf, hkn, hln, hst, hdc, hsp⟩ := MI_o hI
  refine lv_iload_n hx hb dX7_lose_0 rfl (lv_at hl 1 rfl) ?_
  refine w_cSi (rest := []) hx hb hml hown hts (m_isSheet l D b cI cJ cZ A v c x  ) 1 gX7_lose_X7_isSheet rfl hdX7_isSheet ⟨Nat.le_of_ble_eq_true rfl, Nat.le_of_ble_eq_true rfl⟩ hK hN hP hD hS hA rfl hl.1 rfl (Nat.le_of_ble_eq_true rfl) dX7_lose_1 ⟨Nat.le_of_ble_eq_true rfl, Nat.le_of_ble_eq_true rfl⟩ (fun r u H locs hq hP hD hS => ?_)
  rcases hq with ⟨j_1, rfl, h_1, hs_x_1⟩ | ⟨rfl, h_1⟩
  · skip
    have hP : va_P D vwCl (mW b cI cJ cZ v c) H := hP
    have hD : va_D A (mW b cI cJ cZ v c) := hD
    subst hs_x_1
    have j_1T := n_tI (k := j_1) (by omega)
    refine w_if_ne (x := 1) hx hb dX7_lose_4 (tgt := 9) (by decide) (by decide) (fun _ => ?_) (fun h => absurd h (by decide))
    refine lv_aload_n hx hb dX7_lose_9 rfl (lv_at hl 0 rfl) ?_
    refine va_get (D := D) (ci := 7) (v := .ref (b 2)) (C := RX7) (T := TX7) (N := 24) hx hb hts hinX7 hown hK hP 0 rfl rfl 2 (by decide) (hts (.fieldLink RX7 9 "DancedLockModel" "sorts" "[I") (List.mem_of_getElem? (i := 1) rfl)) (fun _ h9 => h9) rfl dX7_lose_10 ?_
    refine lv_iload_n hx hb dX7_lose_13 rfl (lv_at hl 1 rfl) ?_
    refine r_iald (f := c 2) hx hb hK hP 1 0 rfl rfl (i := j_1) (by omega) (by decide) dX7_lose_14 ?_
    refine lv_bipush (v := -9) hx hb dX7_lose_15 (by decide) ?_
    refine lv_icmp_ne (x := c 2 j_1) (y := (-9)) hx hb dX7_lose_17 (tgt := 24) (by decide) (fun c17 => ?_) (fun c17 => ?_)
    · skip
      refine lv_iconst (v := nI (1)) hx hb dX7_lose_24 (by decide) ?_
      refine lv_istore_n (lv' := [(2, .int (nI (1))), (0, .ref (b 0)), (1, .int (nI (j_1)))]) hx hb dX7_lose_25 rfl hl (by decide) rfl (fun ls hl => ?_)
      refine lv_aload_n hx hb dX7_lose_26 rfl (lv_at hl 1 rfl) ?_
      refine va_get (D := D) (ci := 7) (v := .ref (b 2)) (C := RX7) (T := TX7) (N := 24) hx hb hts hinX7 hown hK hP 0 rfl rfl 2 (by decide) (hts (.fieldLink RX7 9 "DancedLockModel" "sorts" "[I") (List.mem_of_getElem? (i := 1) rfl)) (fun _ h9 => h9) rfl dX7_lose_27 ?_
      refine lv_iload_n hx hb dX7_lose_30 rfl (lv_at hl 2 rfl) ?_
      refine lv_bipush (v := -9) hx hb dX7_lose_31 (by decide) ?_
      refine r_iast (f := c 2) (w := (-9)) hx hb hK hP hD hS 1 0 rfl rfl (i := j_1) (by omega) (by decide) dX7_lose_33 (fun H locs hP hD hS => ?_)
      have hP : va_P D vwCl (mW b cI cJ cZ v (va_up c 2 (va_up (c 2) j_1 (-9)))) H := hP
      have hD : va_D A (mW b cI cJ cZ v (va_up c 2 (va_up (c 2) j_1 (-9)))) := hD
      refine lv_iload_n hx hb dX7_lose_34 rfl (lv_at hl 0 rfl) ?_
      exact hret (nI (1)) (v, va_up c 2 (va_up (c 2) j_1 (-9))) _ _ 35 _ dX7_lose_35 rfl (by exact ⟨MI_mk hI ⟨rfl, rfl, rfl, rfl, rfl, rfl, rfl, rfl, rfl, rfl⟩ hln hsp hI.2.1 (up_all (P := fun q => q = -9 ∨ ∃ s1, s1 < 3 ∧ q = nI s1) hI.2.2 (Or.inl rfl)), Or.inr ⟨j_1, h_1, rfl, Or.inr ⟨m_nn hI h_1 c17, rfl⟩, cM_l, rfl, rfl, rfl, rfl, rfl, rfl, rfl, rfl, rfl, rfl, rfl, rfl, rfl⟩⟩) hP hD hS
    · skip
      refine lv_iconst (v := nI (0)) hx hb dX7_lose_20 (by decide) ?_
      refine lv_goto (tgt := 25) hx hb dX7_lose_21 (by decide) ?_
      refine lv_istore_n (lv' := [(2, .int (nI (0))), (0, .ref (b 0)), (1, .int (nI (j_1)))]) hx hb dX7_lose_25 rfl hl (by decide) rfl (fun ls hl => ?_)
      refine lv_aload_n hx hb dX7_lose_26 rfl (lv_at hl 1 rfl) ?_
      refine va_get (D := D) (ci := 7) (v := .ref (b 2)) (C := RX7) (T := TX7) (N := 24) hx hb hts hinX7 hown hK hP 0 rfl rfl 2 (by decide) (hts (.fieldLink RX7 9 "DancedLockModel" "sorts" "[I") (List.mem_of_getElem? (i := 1) rfl)) (fun _ h9 => h9) rfl dX7_lose_27 ?_
      refine lv_iload_n hx hb dX7_lose_30 rfl (lv_at hl 2 rfl) ?_
      refine lv_bipush (v := -9) hx hb dX7_lose_31 (by decide) ?_
      refine r_iast (f := c 2) (w := (-9)) hx hb hK hP hD hS 1 0 rfl rfl (i := j_1) (by omega) (by decide) dX7_lose_33 (fun H locs hP hD hS => ?_)
      have hP : va_P D vwCl (mW b cI cJ cZ v (va_up c 2 (va_up (c 2) j_1 (-9)))) H := hP
      have hD : va_D A (mW b cI cJ cZ v (va_up c 2 (va_up (c 2) j_1 (-9)))) := hD
      refine lv_iload_n hx hb dX7_lose_34 rfl (lv_at hl 0 rfl) ?_
      exact hret (nI (0)) (v, va_up c 2 (va_up (c 2) j_1 (-9))) _ _ 35 _ dX7_lose_35 rfl (by exact ⟨MI_mk hI ⟨rfl, rfl, rfl, rfl, rfl, rfl, rfl, rfl, rfl, rfl⟩ hln hsp hI.2.1 (up_all (P := fun q => q = -9 ∨ ∃ s1, s1 < 3 ∧ q = nI s1) hI.2.2 (Or.inl rfl)), Or.inr ⟨j_1, h_1, rfl, Or.inl ⟨m_no c17, rfl⟩, cM_l, rfl, rfl, rfl, rfl, rfl, rfl, rfl, rfl, rfl, rfl, rfl, rfl, rfl⟩⟩) hP hD hS
  · skip
    have hP : va_P D vwCl (mW b cI cJ cZ v c) H := hP
    have hD : va_D A (mW b cI cJ cZ v c) := hD
    refine w_if_ne (x := 0) hx hb dX7_lose_4 (tgt := 9) (by decide) (by decide) (fun h => absurd h (by decide)) (fun _ => ?_)
    refine lv_iconst (v := -1) hx hb dX7_lose_7 (by decide) ?_
    exact hret ((-1)) (v, c) _ _ 8 _ dX7_lose_8 rfl (by exact ⟨hI, Or.inl ⟨nR_of (by decide) (by omega), rfl, rfl, rfl, rfl, rfl, rfl, rfl, rfl, rfl, rfl, rfl, rfl, rfl, rfl, rfl⟩⟩) hP hD hS

set_option maxHeartbeats 1600000 in
set_option maxRecDepth 100000 in
theorem s_put (l : Launch) (D : va_G) (b : Nat → Nat) (cI cJ cZ : ClassId) (A : Nat → Prop) (v : Nat → Nat → Nat) (c : Nat → Nat → Int32) (x : Int32) (y : Int32) (z : Int32) (hI : MI v c) :
    mI l yX7_put wsX7_put 2 42 [.ref (b 0), .int x, .int y, .int z] D (xT cI cJ cZ) A (mW b cI cJ cZ v c) (fun u : ((Nat → Nat → Nat) × (Nat → Nat → Int32)) => mW b cI cJ cZ u.1 u.2)
    (fun (r : Int32) (u : ((Nat → Nat → Nat) × (Nat → Nat → Int32))) => MI u.1 u.2 ∧ sp_put (vM v) (cM c) (vM u.1, cM u.2) x y z r) := by
  refine w_bI cX7_put 4 .int (by decide) rfl (Nat.le_of_ble_eq_true rfl) (Or.inl rfl) ?_
  intro p e s m args below meth c0 ls Q hx hb hml hts hown hK hN hA hret hP hD hS hl
  have hl : lv_has ls 4 [(0, .ref (b 0)), (1, .int x), (2, .int y), (3, .int z)] := hl
  have hinX7 : ∀ w ∈ wsX70, w ∈ wsX7_put := fun w h => List.mem_cons_of_mem _ (List.mem_append_right _ h)
  obtain ⟨hnb, hnd, hbt, hfg, hne, hnc, hdk, hnf, hkn, hln, hst, hdc, hsp⟩ := MI_o hI
  refine lv_aload_n hx hb dX7_put_0 rfl (lv_at hl 0 rfl) ?_
  refine lv_iconst (v := nI (0)) hx hb dX7_put_1 (by decide) ?_
  refine va_put (D := D) (ci := 7) (v := .int (nI (0))) (ty := .int) (C := RX7) (T := TX7) (N := 24) hx hb hts hinX7 tyX7 tyX7_ok nmX7 hown hK hP hD hS 0 rfl rfl 0 (by decide) (hts (.fieldLink RX7 53 "DancedLockModel" "fault" "I") (List.mem_of_getElem? (i := 1) rfl)) (fun _ h9 => h9) rfl (by decide +kernel) rfl (rfl) (Nat.le_of_ble_eq_true rfl) dX7_put_2 (fun H locs hP hD hS => ?_)
  have hP : va_P D vwCl (mW b cI cJ cZ (va_up v 0 (va_up (v 0) 0 (0))) c) H := hP
  have hD : va_D A (mW b cI cJ cZ (va_up v 0 (va_up (v 0) 0 (0))) c) := hD
  refine lv_iload_n hx hb dX7_put_5 rfl (lv_at hl 1 rfl) ?_
  refine w_cSi (rest := []) hx hb hml hown hts (m_isSheet l D b cI cJ cZ A (va_up v 0 (va_up (v 0) 0 (0))) c x  ) 1 gX7_put_X7_isSheet rfl hdX7_isSheet ⟨Nat.le_of_ble_eq_true rfl, Nat.le_of_ble_eq_true rfl⟩ hK hN hP hD hS hA rfl hl.1 rfl (Nat.le_of_ble_eq_true rfl) dX7_put_6 ⟨Nat.le_of_ble_eq_true rfl, Nat.le_of_ble_eq_true rfl⟩ (fun r u H locs hq hP hD hS => ?_)
  rcases hq with ⟨j_6, rfl, h_6, hs_x_6⟩ | ⟨rfl, h_6⟩
  · skip
    have hP : va_P D vwCl (mW b cI cJ cZ (va_up v 0 (va_up (v 0) 0 (0))) c) H := hP
    have hD : va_D A (mW b cI cJ cZ (va_up v 0 (va_up (v 0) 0 (0))) c) := hD
    subst hs_x_6
    have j_6T := n_tI (k := j_6) (by omega)
    refine w_if_ne (x := 1) hx hb dX7_put_9 (tgt := 14) (by decide) (by decide) (fun _ => ?_) (fun h => absurd h (by decide))
    refine lv_aload_n hx hb dX7_put_14 rfl (lv_at hl 0 rfl) ?_
    refine va_get (D := D) (ci := 7) (v := .ref (b 2)) (C := RX7) (T := TX7) (N := 24) hx hb hts hinX7 hown hK hP 0 rfl rfl 2 (by decide) (hts (.fieldLink RX7 9 "DancedLockModel" "sorts" "[I") (List.mem_of_getElem? (i := 2) rfl)) (fun _ h9 => h9) rfl dX7_put_15 ?_
    refine lv_iload_n hx hb dX7_put_18 rfl (lv_at hl 1 rfl) ?_
    refine r_iald (f := c 2) hx hb hK hP 1 0 rfl rfl (i := j_6) (by omega) (by decide) dX7_put_19 ?_
    refine lv_bipush (v := -9) hx hb dX7_put_20 (by decide) ?_
    refine lv_icmp_ne (x := c 2 j_6) (y := (-9)) hx hb dX7_put_22 (tgt := 31) (by decide) (fun c22 => ?_) (fun c22 => ?_)
    · skip
      refine lv_iload_n hx hb dX7_put_31 rfl (lv_at hl 2 rfl) ?_
      refine lv_iconst (v := nI (0)) hx hb dX7_put_32 (by decide) ?_
      refine lv_aload_n hx hb dX7_put_33 rfl (lv_at hl 0 rfl) ?_
      refine va_get (D := D) (ci := 7) (v := .ref (b 3)) (C := RX7) (T := TX7) (N := 24) hx hb hts hinX7 hown hK hP 0 rfl rfl 3 (by decide) (hts (.fieldLink RX7 13 "DancedLockModel" "sheetLong" "[I") (List.mem_of_getElem? (i := 3) rfl)) (fun _ h9 => h9) rfl dX7_put_34 ?_
      refine lv_iload_n hx hb dX7_put_37 rfl (lv_at hl 1 rfl) ?_
      refine w_iald (f := v 3) hx hb hK hP 2 0 rfl rfl (i := j_6) (by omega) (by decide) dX7_put_38 ?_
      refine lv_iconst (v := nI (1)) hx hb dX7_put_39 (by decide) ?_
      refine lv_isub hx hb dX7_put_40 ?_
      have hlj := hln j_6 h_6
      have hsb := pk_sub_toInt (a := v 3 j_6) (b := 1) (by omega) (by decide)
      refine w_cSi (rest := []) hx hb hml hown hts (m_within_R l D b cI cJ cZ A (va_up v 0 (va_up (v 0) 0 (0))) c y 0 ((nI (v 3 j_6)) - (nI (1)))  (by first | assumption | omega)) 3 gX7_put_X7_within rfl hdX7_within ⟨Nat.le_of_ble_eq_true rfl, Nat.le_of_ble_eq_true rfl⟩ hK hN hP hD hS hA rfl hl.1 rfl (Nat.le_of_ble_eq_true rfl) dX7_put_41 ⟨Nat.le_of_ble_eq_true rfl, Nat.le_of_ble_eq_true rfl⟩ (fun r u H locs hq hP hD hS => ?_)
      rcases hq with ⟨j_41, rfl, h1_41, h_41, hB_41, hs_x_41⟩ | ⟨rfl, h_41⟩
      · skip
        have hP : va_P D vwCl (mW b cI cJ cZ (va_up v 0 (va_up (v 0) 0 (0))) c) H := hP
        have hD : va_D A (mW b cI cJ cZ (va_up v 0 (va_up (v 0) 0 (0))) c) := hD
        subst hs_x_41
        have j_41T := n_tI (k := j_41) (by omega)
        refine w_if_ne (x := 1) hx hb dX7_put_44 (tgt := 53) (by decide) (by decide) (fun _ => ?_) (fun h => absurd h (by decide))
        refine lv_aload_n hx hb dX7_put_53 rfl (lv_at hl 0 rfl) ?_
        refine va_get (D := D) (ci := 7) (v := .ref (b 4)) (C := RX7) (T := TX7) (N := 24) hx hb hts hinX7 hown hK hP 0 rfl rfl 4 (by decide) (hts (.fieldLink RX7 16 "DancedLockModel" "cells" "[I") (List.mem_of_getElem? (i := 4) rfl)) (fun _ h9 => h9) rfl dX7_put_54 ?_
        refine lv_bipush (v := nI (80)) hx hb dX7_put_57 (by decide) ?_
        refine lv_iload_n hx hb dX7_put_59 rfl (lv_at hl 1 rfl) ?_
        refine w_imul (x := 80) (y := j_6) hx hb dX7_put_60  ?_
        refine lv_iload_n hx hb dX7_put_61 rfl (lv_at hl 2 rfl) ?_
        refine w_iadd (x := 80 * j_6) (y := j_41) hx hb dX7_put_62  ?_
        refine lv_aload_n hx hb dX7_put_63 rfl (lv_at hl 0 rfl) ?_
        refine va_get (D := D) (ci := 7) (v := .ref (b 2)) (C := RX7) (T := TX7) (N := 24) hx hb hts hinX7 hown hK hP 0 rfl rfl 2 (by decide) (hts (.fieldLink RX7 9 "DancedLockModel" "sorts" "[I") (List.mem_of_getElem? (i := 2) rfl)) (fun _ h9 => h9) rfl dX7_put_64 ?_
        refine lv_iload_n hx hb dX7_put_67 rfl (lv_at hl 1 rfl) ?_
        refine r_iald (f := c 2) hx hb hK hP 1 0 rfl rfl (i := j_6) (by omega) (by decide) dX7_put_68 ?_
        refine lv_if_ne hx hb dX7_put_69 (tgt := 77) (by decide) (fun c69 => ?_) (fun c69 => ?_)
        · skip
          refine lv_aload_n hx hb dX7_put_77 rfl (lv_at hl 0 rfl) ?_
          refine va_get (D := D) (ci := 7) (v := .ref (b 2)) (C := RX7) (T := TX7) (N := 24) hx hb hts hinX7 hown hK hP 0 rfl rfl 2 (by decide) (hts (.fieldLink RX7 9 "DancedLockModel" "sorts" "[I") (List.mem_of_getElem? (i := 2) rfl)) (fun _ h9 => h9) rfl dX7_put_78 ?_
          refine lv_iload_n hx hb dX7_put_81 rfl (lv_at hl 1 rfl) ?_
          refine r_iald (f := c 2) hx hb hK hP 1 0 rfl rfl (i := j_6) (by omega) (by decide) dX7_put_82 ?_
          refine lv_iconst (v := nI (1)) hx hb dX7_put_83 (by decide) ?_
          refine lv_icmp_ne (x := c 2 j_6) (y := nI (1)) hx hb dX7_put_84 (tgt := 92) (by decide) (fun c84 => ?_) (fun c84 => ?_)
          · skip
            refine lv_iload_n hx hb dX7_put_92 rfl (lv_at hl 3 rfl) ?_
            refine r_iast (f := c 4) (w := z) hx hb hK hP hD hS 3 0 rfl rfl (i := 80 * j_6 + j_41) (by omega) (by decide) dX7_put_93 (fun H locs hP hD hS => ?_)
            have hP : va_P D vwCl (mW b cI cJ cZ (va_up v 0 (va_up (v 0) 0 (0))) (va_up c 4 (va_up (c 4) (80 * j_6 + j_41) z))) H := hP
            have hD : va_D A (mW b cI cJ cZ (va_up v 0 (va_up (v 0) 0 (0))) (va_up c 4 (va_up (c 4) (80 * j_6 + j_41) z))) := hD
            refine lv_iconst (v := nI (1)) hx hb dX7_put_94 (by decide) ?_
            exact hret (nI (1)) (va_up v 0 (va_up (v 0) 0 (0)), va_up c 4 (va_up (c 4) (80 * j_6 + j_41) z)) _ _ 95 _ dX7_put_95 rfl (by first | (exact ⟨MI_rd hI ⟨rfl, rfl, rfl, rfl, rfl, rfl, rfl, rfl, rfl, rfl, rfl, rfl, rfl⟩ (hsp), Or.inr ⟨j_6, h_6, rfl, Or.inr (Or.inr ⟨j_41, show j_41 < v 3 j_6 by omega, rfl, m_nn hI h_6 c22, rfl, rfl, by rw [Nat.mul_comm 80]; exact congrArg (va_up (c 4) _) (by rw [m_eq c22]; exact (cutf_0 c69).symm), rfl, rfl, rfl, rfl, rfl, rfl, rfl, rfl, rfl, rfl, rfl, rfl⟩)⟩⟩) | (exact ⟨MI_rd hI ⟨rfl, rfl, rfl, rfl, rfl, rfl, rfl, rfl, rfl, rfl, rfl, rfl, rfl⟩ (hsp), Or.inr ⟨j_6, h_6, rfl, Or.inr (Or.inr ⟨j_41, show j_41 < v 3 j_6 by omega, rfl, m_nn hI h_6 c22, rfl, rfl, by rw [Nat.mul_comm 80]; exact congrArg (va_up (c 4) _) (by rw [m_eq c22]; exact (cutf_1 c84).symm), rfl, rfl, rfl, rfl, rfl, rfl, rfl, rfl, rfl, rfl, rfl, rfl⟩)⟩⟩) | (exact ⟨MI_rd hI ⟨rfl, rfl, rfl, rfl, rfl, rfl, rfl, rfl, rfl, rfl, rfl, rfl, rfl⟩ (hsp), Or.inr ⟨j_6, h_6, rfl, Or.inr (Or.inr ⟨j_41, show j_41 < v 3 j_6 by omega, rfl, m_nn hI h_6 c22, rfl, rfl, by rw [Nat.mul_comm 80]; exact congrArg (va_up (c 4) _) (by rw [m_eq c22]; exact (cutf_2 c69 c84).symm), rfl, rfl, rfl, rfl, rfl, rfl, rfl, rfl, rfl, rfl, rfl, rfl⟩)⟩⟩)) hP hD hS
          · skip
            refine lv_iload_n hx hb dX7_put_87 rfl (lv_at hl 3 rfl) ?_
            refine lv_i2s (v := z.toInt16.toInt32) hx hb dX7_put_88 rfl ?_
            refine lv_goto (tgt := 93) hx hb dX7_put_89 (by decide) ?_
            refine r_iast (f := c 4) (w := z.toInt16.toInt32) hx hb hK hP hD hS 3 0 rfl rfl (i := 80 * j_6 + j_41) (by omega) (by decide) dX7_put_93 (fun H locs hP hD hS => ?_)
            have hP : va_P D vwCl (mW b cI cJ cZ (va_up v 0 (va_up (v 0) 0 (0))) (va_up c 4 (va_up (c 4) (80 * j_6 + j_41) z.toInt16.toInt32))) H := hP
            have hD : va_D A (mW b cI cJ cZ (va_up v 0 (va_up (v 0) 0 (0))) (va_up c 4 (va_up (c 4) (80 * j_6 + j_41) z.toInt16.toInt32))) := hD
            refine lv_iconst (v := nI (1)) hx hb dX7_put_94 (by decide) ?_
            exact hret (nI (1)) (va_up v 0 (va_up (v 0) 0 (0)), va_up c 4 (va_up (c 4) (80 * j_6 + j_41) z.toInt16.toInt32)) _ _ 95 _ dX7_put_95 rfl (by first | (exact ⟨MI_rd hI ⟨rfl, rfl, rfl, rfl, rfl, rfl, rfl, rfl, rfl, rfl, rfl, rfl, rfl⟩ (hsp), Or.inr ⟨j_6, h_6, rfl, Or.inr (Or.inr ⟨j_41, show j_41 < v 3 j_6 by omega, rfl, m_nn hI h_6 c22, rfl, rfl, by rw [Nat.mul_comm 80]; exact congrArg (va_up (c 4) _) (by rw [m_eq c22]; exact (cutf_0 c69).symm), rfl, rfl, rfl, rfl, rfl, rfl, rfl, rfl, rfl, rfl, rfl, rfl⟩)⟩⟩) | (exact ⟨MI_rd hI ⟨rfl, rfl, rfl, rfl, rfl, rfl, rfl, rfl, rfl, rfl, rfl, rfl, rfl⟩ (hsp), Or.inr ⟨j_6, h_6, rfl, Or.inr (Or.inr ⟨j_41, show j_41 < v 3 j_6 by omega, rfl, m_nn hI h_6 c22, rfl, rfl, by rw [Nat.mul_comm 80]; exact congrArg (va_up (c 4) _) (by rw [m_eq c22]; exact (cutf_1 c84).symm), rfl, rfl, rfl, rfl, rfl, rfl, rfl, rfl, rfl, rfl, rfl, rfl⟩)⟩⟩) | (exact ⟨MI_rd hI ⟨rfl, rfl, rfl, rfl, rfl, rfl, rfl, rfl, rfl, rfl, rfl, rfl, rfl⟩ (hsp), Or.inr ⟨j_6, h_6, rfl, Or.inr (Or.inr ⟨j_41, show j_41 < v 3 j_6 by omega, rfl, m_nn hI h_6 c22, rfl, rfl, by rw [Nat.mul_comm 80]; exact congrArg (va_up (c 4) _) (by rw [m_eq c22]; exact (cutf_2 c69 c84).symm), rfl, rfl, rfl, rfl, rfl, rfl, rfl, rfl, rfl, rfl, rfl, rfl⟩)⟩⟩)) hP hD hS
        · skip
          refine lv_iload_n hx hb dX7_put_72 rfl (lv_at hl 3 rfl) ?_
          refine lv_i2b (v := z.toInt8.toInt32) hx hb dX7_put_73 rfl ?_
          refine lv_goto (tgt := 93) hx hb dX7_put_74 (by decide) ?_
          refine r_iast (f := c 4) (w := z.toInt8.toInt32) hx hb hK hP hD hS 3 0 rfl rfl (i := 80 * j_6 + j_41) (by omega) (by decide) dX7_put_93 (fun H locs hP hD hS => ?_)
          have hP : va_P D vwCl (mW b cI cJ cZ (va_up v 0 (va_up (v 0) 0 (0))) (va_up c 4 (va_up (c 4) (80 * j_6 + j_41) z.toInt8.toInt32))) H := hP
          have hD : va_D A (mW b cI cJ cZ (va_up v 0 (va_up (v 0) 0 (0))) (va_up c 4 (va_up (c 4) (80 * j_6 + j_41) z.toInt8.toInt32))) := hD
          refine lv_iconst (v := nI (1)) hx hb dX7_put_94 (by decide) ?_
          exact hret (nI (1)) (va_up v 0 (va_up (v 0) 0 (0)), va_up c 4 (va_up (c 4) (80 * j_6 + j_41) z.toInt8.toInt32)) _ _ 95 _ dX7_put_95 rfl (by first | (exact ⟨MI_rd hI ⟨rfl, rfl, rfl, rfl, rfl, rfl, rfl, rfl, rfl, rfl, rfl, rfl, rfl⟩ (hsp), Or.inr ⟨j_6, h_6, rfl, Or.inr (Or.inr ⟨j_41, show j_41 < v 3 j_6 by omega, rfl, m_nn hI h_6 c22, rfl, rfl, by rw [Nat.mul_comm 80]; exact congrArg (va_up (c 4) _) (by rw [m_eq c22]; exact (cutf_0 c69).symm), rfl, rfl, rfl, rfl, rfl, rfl, rfl, rfl, rfl, rfl, rfl, rfl⟩)⟩⟩) | (exact ⟨MI_rd hI ⟨rfl, rfl, rfl, rfl, rfl, rfl, rfl, rfl, rfl, rfl, rfl, rfl, rfl⟩ (hsp), Or.inr ⟨j_6, h_6, rfl, Or.inr (Or.inr ⟨j_41, show j_41 < v 3 j_6 by omega, rfl, m_nn hI h_6 c22, rfl, rfl, by rw [Nat.mul_comm 80]; exact congrArg (va_up (c 4) _) (by rw [m_eq c22]; exact (cutf_1 c84).symm), rfl, rfl, rfl, rfl, rfl, rfl, rfl, rfl, rfl, rfl, rfl, rfl⟩)⟩⟩) | (exact ⟨MI_rd hI ⟨rfl, rfl, rfl, rfl, rfl, rfl, rfl, rfl, rfl, rfl, rfl, rfl, rfl⟩ (hsp), Or.inr ⟨j_6, h_6, rfl, Or.inr (Or.inr ⟨j_41, show j_41 < v 3 j_6 by omega, rfl, m_nn hI h_6 c22, rfl, rfl, by rw [Nat.mul_comm 80]; exact congrArg (va_up (c 4) _) (by rw [m_eq c22]; exact (cutf_2 c69 c84).symm), rfl, rfl, rfl, rfl, rfl, rfl, rfl, rfl, rfl, rfl, rfl, rfl⟩)⟩⟩)) hP hD hS
      · skip
        have hP : va_P D vwCl (mW b cI cJ cZ (va_up v 0 (va_up (v 0) 0 (0))) c) H := hP
        have hD : va_D A (mW b cI cJ cZ (va_up v 0 (va_up (v 0) 0 (0))) c) := hD
        refine w_if_ne (x := 0) hx hb dX7_put_44 (tgt := 53) (by decide) (by decide) (fun h => absurd h (by decide)) (fun _ => ?_)
        refine lv_aload_n hx hb dX7_put_47 rfl (lv_at hl 0 rfl) ?_
        refine lv_iconst (v := nI (3)) hx hb dX7_put_48 (by decide) ?_
        refine w_cVi (rest := []) hx hb hml hown hts (m_fails l D b cI cJ cZ A (va_up v 0 (va_up (v 0) 0 (0))) c 3  ) 1 gX7_put_X7_fails rfl hdX7_fails ⟨Nat.le_of_ble_eq_true rfl, Nat.le_of_ble_eq_true rfl⟩ hK hN hP hD hS hA 0 7 rfl rfl rfl rfl hl.1 rfl (Nat.le_of_ble_eq_true rfl) dX7_put_49 ⟨Nat.le_of_ble_eq_true rfl, Nat.le_of_ble_eq_true rfl⟩ (fun r u H locs hq hP hD hS => ?_)
        obtain ⟨rfl, rfl⟩ := hq
        have hP : va_P D vwCl (mW b cI cJ cZ (va_up v 0 (va_up (v 0) 0 (3))) c) H := hP
        have hD : va_D A (mW b cI cJ cZ (va_up v 0 (va_up (v 0) 0 (3))) c) := hD
        exact hret ((-10) - (nI (3))) (va_up v 0 (va_up (v 0) 0 (3)), c) _ _ 52 _ dX7_put_52 rfl (by exact ⟨MI_rd hI ⟨rfl, rfl, rfl, rfl, rfl, rfl, rfl, rfl, rfl, rfl, rfl, rfl, rfl⟩ (hsp), Or.inr ⟨j_6, h_6, rfl, Or.inr (Or.inl ⟨m_nn hI h_6 c22, nR_of (n := v 3 j_6) (by omega) (by omega), by decide, rfl, rfl, rfl, rfl, rfl, rfl, rfl, rfl, rfl, rfl, rfl, rfl, rfl, rfl⟩)⟩⟩) hP hD hS
    · skip
      refine lv_aload_n hx hb dX7_put_25 rfl (lv_at hl 0 rfl) ?_
      refine lv_iconst (v := nI (1)) hx hb dX7_put_26 (by decide) ?_
      refine w_cVi (rest := []) hx hb hml hown hts (m_fails l D b cI cJ cZ A (va_up v 0 (va_up (v 0) 0 (0))) c 1  ) 1 gX7_put_X7_fails rfl hdX7_fails ⟨Nat.le_of_ble_eq_true rfl, Nat.le_of_ble_eq_true rfl⟩ hK hN hP hD hS hA 0 7 rfl rfl rfl rfl hl.1 rfl (Nat.le_of_ble_eq_true rfl) dX7_put_27 ⟨Nat.le_of_ble_eq_true rfl, Nat.le_of_ble_eq_true rfl⟩ (fun r u H locs hq hP hD hS => ?_)
      obtain ⟨rfl, rfl⟩ := hq
      have hP : va_P D vwCl (mW b cI cJ cZ (va_up v 0 (va_up (v 0) 0 (1))) c) H := hP
      have hD : va_D A (mW b cI cJ cZ (va_up v 0 (va_up (v 0) 0 (1))) c) := hD
      exact hret ((-10) - (nI (1))) (va_up v 0 (va_up (v 0) 0 (1)), c) _ _ 30 _ dX7_put_30 rfl (by exact ⟨MI_rd hI ⟨rfl, rfl, rfl, rfl, rfl, rfl, rfl, rfl, rfl, rfl, rfl, rfl, rfl⟩ (hsp), Or.inr ⟨j_6, h_6, rfl, Or.inl ⟨m_no c22, by decide, rfl, rfl, rfl, rfl, rfl, rfl, rfl, rfl, rfl, rfl, rfl, rfl, rfl, rfl⟩⟩⟩) hP hD hS
  · skip
    have hP : va_P D vwCl (mW b cI cJ cZ (va_up v 0 (va_up (v 0) 0 (0))) c) H := hP
    have hD : va_D A (mW b cI cJ cZ (va_up v 0 (va_up (v 0) 0 (0))) c) := hD
    refine w_if_ne (x := 0) hx hb dX7_put_9 (tgt := 14) (by decide) (by decide) (fun h => absurd h (by decide)) (fun _ => ?_)
    refine lv_iconst (v := -1) hx hb dX7_put_12 (by decide) ?_
    exact hret ((-1)) (va_up v 0 (va_up (v 0) 0 (0)), c) _ _ 13 _ dX7_put_13 rfl (by exact ⟨MI_rd hI ⟨rfl, rfl, rfl, rfl, rfl, rfl, rfl, rfl, rfl, rfl, rfl, rfl, rfl⟩ (hsp), Or.inl ⟨nR_of (by decide) (by omega), rfl, rfl, rfl, rfl, rfl, rfl, rfl, rfl, rfl, rfl, rfl, rfl, rfl, rfl, rfl⟩⟩) hP hD hS

set_option maxHeartbeats 4000000 in
set_option maxRecDepth 100000 in
theorem s_cell (l : Launch) (D : va_G) (b : Nat → Nat) (cI cJ cZ : ClassId) (A : Nat → Prop) (v : Nat → Nat → Nat) (c : Nat → Nat → Int32) (sh : Int32) (ii : Int32) (so : Int32) (hI : MI v c) :
    mJ l yX7_cell wsX7_cell 2 42 [.ref (b 0), .int sh, .int ii, .int so] D (xT cI cJ cZ) A (mW b cI cJ cZ v c) (fun u : ((Nat → Nat → Nat) × (Nat → Nat → Int32)) => mW b cI cJ cZ u.1 u.2)
    (fun (r : Int64) (u : ((Nat → Nat → Nat) × (Nat → Nat → Int32))) => MI u.1 u.2 ∧ ∃ F, sp_cell (xNo (cM c)) (xHas (cM c)) (v 3) (xCell (cM c)) sh ii so r F ∧ XS (vM v) (cM c) (vM u.1, cM u.2) F) := by
  refine w_bJ cX7_cell 4 (by decide) rfl (Nat.le_of_ble_eq_true rfl) ?_
  intro p e s m args below meth c0 ls Q hx hb hml hts hown hK hN hA hret hP hD hS hl
  have hl : lv_has ls 4 [(0, .ref (b 0)), (1, .int sh), (2, .int ii), (3, .int so)] := hl
  have hinX7 : ∀ w ∈ wsX70, w ∈ wsX7_cell := fun w h => List.mem_cons_of_mem _ (List.mem_append_right _ h)
  obtain ⟨hnb, hnd, hbt, hfg, hne, hnc, hdk, hnf, hkn, hln, hst, hdc, hsp⟩ := MI_o hI
  refine lv_aload_n hx hb dX7_cell_0 rfl (lv_at hl 0 rfl) ?_
  refine lv_iconst (v := nI (0)) hx hb dX7_cell_1 (by decide) ?_
  refine va_put (D := D) (ci := 7) (v := .int (nI (0))) (ty := .int) (C := RX7) (T := TX7) (N := 24) hx hb hts hinX7 tyX7 tyX7_ok nmX7 hown hK hP hD hS 0 rfl rfl 0 (by decide) (hts (.fieldLink RX7 53 "DancedLockModel" "fault" "I") (List.mem_of_getElem? (i := 1) rfl)) (fun _ h9 => h9) rfl (by decide +kernel) rfl (rfl) (Nat.le_of_ble_eq_true rfl) dX7_cell_2 (fun H locs hP hD hS => ?_)
  have hP : va_P D vwCl (mW b cI cJ cZ (va_up v 0 (va_up (v 0) 0 (0))) c) H := hP
  have hD : va_D A (mW b cI cJ cZ (va_up v 0 (va_up (v 0) 0 (0))) c) := hD
  refine lv_iload_n hx hb dX7_cell_5 rfl (lv_at hl 1 rfl) ?_
  refine w_cSi (rest := []) hx hb hml hown hts (m_isSheet l D b cI cJ cZ A (va_up v 0 (va_up (v 0) 0 (0))) c sh  ) 1 gX7_cell_X7_isSheet rfl hdX7_isSheet ⟨Nat.le_of_ble_eq_true rfl, Nat.le_of_ble_eq_true rfl⟩ hK hN hP hD hS hA rfl hl.1 rfl (Nat.le_of_ble_eq_true rfl) dX7_cell_6 ⟨Nat.le_of_ble_eq_true rfl, Nat.le_of_ble_eq_true rfl⟩ (fun r u H locs hq hP hD hS => ?_)
  rcases hq with ⟨j_6, rfl, h_6, hs_x_6⟩ | ⟨rfl, h_6⟩
  · skip
    have hP : va_P D vwCl (mW b cI cJ cZ (va_up v 0 (va_up (v 0) 0 (0))) c) H := hP
    have hD : va_D A (mW b cI cJ cZ (va_up v 0 (va_up (v 0) 0 (0))) c) := hD
    subst hs_x_6
    have j_6T := n_tI (k := j_6) (by omega)
    refine w_if_eq (x := 1) hx hb dX7_cell_9 (tgt := 19) (by decide) (by decide) (fun h => absurd h (by decide)) (fun _ => ?_)
    refine lv_iload_n hx hb dX7_cell_12 rfl (lv_at hl 3 rfl) ?_
    refine w_cSi (rest := []) hx hb hml hown hts (m_isSort l D b cI cJ cZ A (va_up v 0 (va_up (v 0) 0 (0))) c so  ) 1 gX7_cell_X7_isSort rfl hdX7_isSort ⟨Nat.le_of_ble_eq_true rfl, Nat.le_of_ble_eq_true rfl⟩ hK hN hP hD hS hA rfl hl.1 rfl (Nat.le_of_ble_eq_true rfl) dX7_cell_13 ⟨Nat.le_of_ble_eq_true rfl, Nat.le_of_ble_eq_true rfl⟩ (fun r u H locs hq hP hD hS => ?_)
    rcases hq with ⟨j_13, rfl, h_13, hs_x_13⟩ | ⟨rfl, h_13⟩
    · skip
      have hP : va_P D vwCl (mW b cI cJ cZ (va_up v 0 (va_up (v 0) 0 (0))) c) H := hP
      have hD : va_D A (mW b cI cJ cZ (va_up v 0 (va_up (v 0) 0 (0))) c) := hD
      subst hs_x_13
      have j_13T := n_tI (k := j_13) (by omega)
      refine w_if_ne (x := 1) hx hb dX7_cell_16 (tgt := 23) (by decide) (by decide) (fun _ => ?_) (fun h => absurd h (by decide))
      refine lv_aload_n hx hb dX7_cell_23 rfl (lv_at hl 0 rfl) ?_
      refine va_get (D := D) (ci := 7) (v := .ref (b 2)) (C := RX7) (T := TX7) (N := 24) hx hb hts hinX7 hown hK hP 0 rfl rfl 2 (by decide) (hts (.fieldLink RX7 9 "DancedLockModel" "sorts" "[I") (List.mem_of_getElem? (i := 3) rfl)) (fun _ h9 => h9) rfl dX7_cell_24 ?_
      refine lv_iload_n hx hb dX7_cell_27 rfl (lv_at hl 1 rfl) ?_
      refine r_iald (f := c 2) hx hb hK hP 1 0 rfl rfl (i := j_6) (by omega) (by decide) dX7_cell_28 ?_
      refine lv_bipush (v := -9) hx hb dX7_cell_29 (by decide) ?_
      refine lv_icmp_eq (x := c 2 j_6) (y := (-9)) hx hb dX7_cell_31 (tgt := 50) (by decide) (fun c31 => ?_) (fun c31 => ?_)
      · skip
        refine lv_aload_n hx hb dX7_cell_50 rfl (lv_at hl 0 rfl) ?_
        refine va_get (D := D) (ci := 7) (v := .ref (b 2)) (C := RX7) (T := TX7) (N := 24) hx hb hts hinX7 hown hK hP 0 rfl rfl 2 (by decide) (hts (.fieldLink RX7 9 "DancedLockModel" "sorts" "[I") (List.mem_of_getElem? (i := 3) rfl)) (fun _ h9 => h9) rfl dX7_cell_51 ?_
        refine lv_iload_n hx hb dX7_cell_54 rfl (lv_at hl 1 rfl) ?_
        refine r_iald (f := c 2) hx hb hK hP 1 0 rfl rfl (i := j_6) (by omega) (by decide) dX7_cell_55 ?_
        refine lv_bipush (v := -9) hx hb dX7_cell_56 (by decide) ?_
        refine lv_icmp_ne (x := c 2 j_6) (y := (-9)) hx hb dX7_cell_58 (tgt := 67) (by decide) (fun c58 => ?_) (fun c58 => ?_)
        · skip
          refine lv_iload_n hx hb dX7_cell_67 rfl (lv_at hl 2 rfl) ?_
          refine lv_iconst (v := nI (0)) hx hb dX7_cell_68 (by decide) ?_
          refine lv_aload_n hx hb dX7_cell_69 rfl (lv_at hl 0 rfl) ?_
          refine va_get (D := D) (ci := 7) (v := .ref (b 3)) (C := RX7) (T := TX7) (N := 24) hx hb hts hinX7 hown hK hP 0 rfl rfl 3 (by decide) (hts (.fieldLink RX7 13 "DancedLockModel" "sheetLong" "[I") (List.mem_of_getElem? (i := 4) rfl)) (fun _ h9 => h9) rfl dX7_cell_70 ?_
          refine lv_iload_n hx hb dX7_cell_73 rfl (lv_at hl 1 rfl) ?_
          refine w_iald (f := v 3) hx hb hK hP 2 0 rfl rfl (i := j_6) (by omega) (by decide) dX7_cell_74 ?_
          refine lv_iconst (v := nI (1)) hx hb dX7_cell_75 (by decide) ?_
          refine lv_isub hx hb dX7_cell_76 ?_
          have hlj := hln j_6 h_6
          have hsb := pk_sub_toInt (a := v 3 j_6) (b := 1) (by omega) (by decide)
          refine w_cSi (rest := []) hx hb hml hown hts (m_within_R l D b cI cJ cZ A (va_up v 0 (va_up (v 0) 0 (0))) c ii 0 ((nI (v 3 j_6)) - (nI (1)))  (by first | assumption | omega)) 3 gX7_cell_X7_within rfl hdX7_within ⟨Nat.le_of_ble_eq_true rfl, Nat.le_of_ble_eq_true rfl⟩ hK hN hP hD hS hA rfl hl.1 rfl (Nat.le_of_ble_eq_true rfl) dX7_cell_77 ⟨Nat.le_of_ble_eq_true rfl, Nat.le_of_ble_eq_true rfl⟩ (fun r u H locs hq hP hD hS => ?_)
          rcases hq with ⟨j_77, rfl, h1_77, h_77, hB_77, hs_x_77⟩ | ⟨rfl, h_77⟩
          · skip
            have hP : va_P D vwCl (mW b cI cJ cZ (va_up v 0 (va_up (v 0) 0 (0))) c) H := hP
            have hD : va_D A (mW b cI cJ cZ (va_up v 0 (va_up (v 0) 0 (0))) c) := hD
            subst hs_x_77
            have j_77T := n_tI (k := j_77) (by omega)
            refine w_if_ne (x := 1) hx hb dX7_cell_80 (tgt := 89) (by decide) (by decide) (fun _ => ?_) (fun h => absurd h (by decide))
            refine lv_aload_n hx hb dX7_cell_89 rfl (lv_at hl 0 rfl) ?_
            refine va_get (D := D) (ci := 7) (v := .ref (b 4)) (C := RX7) (T := TX7) (N := 24) hx hb hts hinX7 hown hK hP 0 rfl rfl 4 (by decide) (hts (.fieldLink RX7 16 "DancedLockModel" "cells" "[I") (List.mem_of_getElem? (i := 5) rfl)) (fun _ h9 => h9) rfl dX7_cell_90 ?_
            refine lv_bipush (v := nI (80)) hx hb dX7_cell_93 (by decide) ?_
            refine lv_iload_n hx hb dX7_cell_95 rfl (lv_at hl 1 rfl) ?_
            refine w_imul (x := 80) (y := j_6) hx hb dX7_cell_96  ?_
            refine lv_iload_n hx hb dX7_cell_97 rfl (lv_at hl 2 rfl) ?_
            refine w_iadd (x := 80 * j_6) (y := j_77) hx hb dX7_cell_98  ?_
            rw [show (nI (80 * j_6 + j_77)) = (nI (j_6 * 80 + j_77)) from by rw [Nat.mul_comm 80]]
            refine r_iald (f := c 4) hx hb hK hP 3 0 rfl rfl (i := j_6 * 80 + j_77) (by omega) (by decide) dX7_cell_99 ?_
            refine lv_i2l (v := (c 4 (j_6 * 80 + j_77)).toInt64) hx hb dX7_cell_100 rfl ?_
            exact hret ((c 4 (j_6 * 80 + j_77)).toInt64) (va_up v 0 (va_up (v 0) 0 (0)), c) _ _ 101 _ dX7_cell_101 (by first | exact absurd c31 c58 | (exact ⟨MI_rd hI ⟨rfl, rfl, rfl, rfl, rfl, rfl, rfl, rfl, rfl, rfl, rfl, rfl, rfl⟩ (hsp), _, Or.inr ⟨_, _, _, _, tky_o (c2 := cM c 2) id h_6 h_13 (m_has h_13 c41) (show j_77 + 1 ≤ v 3 j_6 by omega) rfl, rfl, rfl⟩, (MI_rd hI ⟨rfl, rfl, rfl, rfl, rfl, rfl, rfl, rfl, rfl, rfl, rfl, rfl, rfl⟩ (hsp)).1, rfl, rfl, rfl, rfl, rfl, rfl, rfl, rfl, rfl, rfl, rfl, rfl, rfl, rfl⟩)) hP hD hS
          · skip
            have hP : va_P D vwCl (mW b cI cJ cZ (va_up v 0 (va_up (v 0) 0 (0))) c) H := hP
            have hD : va_D A (mW b cI cJ cZ (va_up v 0 (va_up (v 0) 0 (0))) c) := hD
            refine w_if_ne (x := 0) hx hb dX7_cell_80 (tgt := 89) (by decide) (by decide) (fun h => absurd h (by decide)) (fun _ => ?_)
            refine lv_aload_n hx hb dX7_cell_83 rfl (lv_at hl 0 rfl) ?_
            refine lv_iconst (v := nI (3)) hx hb dX7_cell_84 (by decide) ?_
            refine w_cVl (rest := []) hx hb hml hown hts (m_lost l D b cI cJ cZ A (va_up v 0 (va_up (v 0) 0 (0))) c 3  ) 1 gX7_cell_X7_lost rfl hdX7_lost ⟨Nat.le_of_ble_eq_true rfl, Nat.le_of_ble_eq_true rfl⟩ hK hN hP hD hS hA 0 7 rfl rfl rfl rfl hl.1 rfl (Nat.le_of_ble_eq_true rfl) dX7_cell_85 ⟨Nat.le_of_ble_eq_true rfl, Nat.le_of_ble_eq_true rfl⟩ (fun r u H locs hq hP hD hS => ?_)
            obtain ⟨rfl, rfl⟩ := hq
            have hP : va_P D vwCl (mW b cI cJ cZ (va_up v 0 (va_up (v 0) 0 (3))) c) H := hP
            have hD : va_D A (mW b cI cJ cZ (va_up v 0 (va_up (v 0) 0 (3))) c) := hD
            exact hret ((-9223372036854775808)) (va_up v 0 (va_up (v 0) 0 (3)), c) _ _ 88 _ dX7_cell_88 (by first | exact absurd c31 c58 | (exact ⟨MI_rd hI ⟨rfl, rfl, rfl, rfl, rfl, rfl, rfl, rfl, rfl, rfl, rfl, rfl, rfl⟩ (hsp), _, Or.inl ⟨⟨_, tbo_5 (c2 := cM c 2) id h_6 h_13 (m_has h_13 c41) (by decide) (by show _ ∨ _ < _ + (1 : Int); omega)⟩, rfl⟩, (MI_rd hI ⟨rfl, rfl, rfl, rfl, rfl, rfl, rfl, rfl, rfl, rfl, rfl, rfl, rfl⟩ (hsp)).1, rfl, rfl, rfl, rfl, rfl, rfl, rfl, rfl, rfl, rfl, rfl, rfl, rfl, rfl⟩)) hP hD hS
        · skip
          refine lv_aload_n hx hb dX7_cell_61 rfl (lv_at hl 0 rfl) ?_
          refine lv_iconst (v := nI (1)) hx hb dX7_cell_62 (by decide) ?_
          refine w_cVl (rest := []) hx hb hml hown hts (m_lost l D b cI cJ cZ A (va_up v 0 (va_up (v 0) 0 (0))) c 1  ) 1 gX7_cell_X7_lost rfl hdX7_lost ⟨Nat.le_of_ble_eq_true rfl, Nat.le_of_ble_eq_true rfl⟩ hK hN hP hD hS hA 0 7 rfl rfl rfl rfl hl.1 rfl (Nat.le_of_ble_eq_true rfl) dX7_cell_63 ⟨Nat.le_of_ble_eq_true rfl, Nat.le_of_ble_eq_true rfl⟩ (fun r u H locs hq hP hD hS => ?_)
          obtain ⟨rfl, rfl⟩ := hq
          have hP : va_P D vwCl (mW b cI cJ cZ (va_up v 0 (va_up (v 0) 0 (1))) c) H := hP
          have hD : va_D A (mW b cI cJ cZ (va_up v 0 (va_up (v 0) 0 (1))) c) := hD
          exact hret ((-9223372036854775808)) (va_up v 0 (va_up (v 0) 0 (1)), c) _ _ 66 _ dX7_cell_66 (by exact ⟨MI_rd hI ⟨rfl, rfl, rfl, rfl, rfl, rfl, rfl, rfl, rfl, rfl, rfl, rfl, rfl⟩ (hsp), _, Or.inl ⟨⟨_, tbo_2 (c2 := cM c 2) id h_6 h_13 (m_no c58)⟩, rfl⟩, (MI_rd hI ⟨rfl, rfl, rfl, rfl, rfl, rfl, rfl, rfl, rfl, rfl, rfl, rfl, rfl⟩ (hsp)).1, rfl, rfl, rfl, rfl, rfl, rfl, rfl, rfl, rfl, rfl, rfl, rfl, rfl, rfl⟩) hP hD hS
      · skip
        refine lv_aload_n hx hb dX7_cell_34 rfl (lv_at hl 0 rfl) ?_
        refine va_get (D := D) (ci := 7) (v := .ref (b 2)) (C := RX7) (T := TX7) (N := 24) hx hb hts hinX7 hown hK hP 0 rfl rfl 2 (by decide) (hts (.fieldLink RX7 9 "DancedLockModel" "sorts" "[I") (List.mem_of_getElem? (i := 3) rfl)) (fun _ h9 => h9) rfl dX7_cell_35 ?_
        refine lv_iload_n hx hb dX7_cell_38 rfl (lv_at hl 1 rfl) ?_
        refine r_iald (f := c 2) hx hb hK hP 1 0 rfl rfl (i := j_6) (by omega) (by decide) dX7_cell_39 ?_
        refine lv_iload_n hx hb dX7_cell_40 rfl (lv_at hl 3 rfl) ?_
        refine lv_icmp_eq (x := c 2 j_6) (y := nI (j_13)) hx hb dX7_cell_41 (tgt := 50) (by decide) (fun c41 => ?_) (fun c41 => ?_)
        · skip
          refine lv_aload_n hx hb dX7_cell_50 rfl (lv_at hl 0 rfl) ?_
          refine va_get (D := D) (ci := 7) (v := .ref (b 2)) (C := RX7) (T := TX7) (N := 24) hx hb hts hinX7 hown hK hP 0 rfl rfl 2 (by decide) (hts (.fieldLink RX7 9 "DancedLockModel" "sorts" "[I") (List.mem_of_getElem? (i := 3) rfl)) (fun _ h9 => h9) rfl dX7_cell_51 ?_
          refine lv_iload_n hx hb dX7_cell_54 rfl (lv_at hl 1 rfl) ?_
          refine r_iald (f := c 2) hx hb hK hP 1 0 rfl rfl (i := j_6) (by omega) (by decide) dX7_cell_55 ?_
          refine lv_bipush (v := -9) hx hb dX7_cell_56 (by decide) ?_
          refine lv_icmp_ne (x := c 2 j_6) (y := (-9)) hx hb dX7_cell_58 (tgt := 67) (by decide) (fun c58 => ?_) (fun c58 => ?_)
          · skip
            refine lv_iload_n hx hb dX7_cell_67 rfl (lv_at hl 2 rfl) ?_
            refine lv_iconst (v := nI (0)) hx hb dX7_cell_68 (by decide) ?_
            refine lv_aload_n hx hb dX7_cell_69 rfl (lv_at hl 0 rfl) ?_
            refine va_get (D := D) (ci := 7) (v := .ref (b 3)) (C := RX7) (T := TX7) (N := 24) hx hb hts hinX7 hown hK hP 0 rfl rfl 3 (by decide) (hts (.fieldLink RX7 13 "DancedLockModel" "sheetLong" "[I") (List.mem_of_getElem? (i := 4) rfl)) (fun _ h9 => h9) rfl dX7_cell_70 ?_
            refine lv_iload_n hx hb dX7_cell_73 rfl (lv_at hl 1 rfl) ?_
            refine w_iald (f := v 3) hx hb hK hP 2 0 rfl rfl (i := j_6) (by omega) (by decide) dX7_cell_74 ?_
            refine lv_iconst (v := nI (1)) hx hb dX7_cell_75 (by decide) ?_
            refine lv_isub hx hb dX7_cell_76 ?_
            have hlj := hln j_6 h_6
            have hsb := pk_sub_toInt (a := v 3 j_6) (b := 1) (by omega) (by decide)
            refine w_cSi (rest := []) hx hb hml hown hts (m_within_R l D b cI cJ cZ A (va_up v 0 (va_up (v 0) 0 (0))) c ii 0 ((nI (v 3 j_6)) - (nI (1)))  (by first | assumption | omega)) 3 gX7_cell_X7_within rfl hdX7_within ⟨Nat.le_of_ble_eq_true rfl, Nat.le_of_ble_eq_true rfl⟩ hK hN hP hD hS hA rfl hl.1 rfl (Nat.le_of_ble_eq_true rfl) dX7_cell_77 ⟨Nat.le_of_ble_eq_true rfl, Nat.le_of_ble_eq_true rfl⟩ (fun r u H locs hq hP hD hS => ?_)
            rcases hq with ⟨j_77, rfl, h1_77, h_77, hB_77, hs_x_77⟩ | ⟨rfl, h_77⟩
            · skip
              have hP : va_P D vwCl (mW b cI cJ cZ (va_up v 0 (va_up (v 0) 0 (0))) c) H := hP
              have hD : va_D A (mW b cI cJ cZ (va_up v 0 (va_up (v 0) 0 (0))) c) := hD
              subst hs_x_77
              have j_77T := n_tI (k := j_77) (by omega)
              refine w_if_ne (x := 1) hx hb dX7_cell_80 (tgt := 89) (by decide) (by decide) (fun _ => ?_) (fun h => absurd h (by decide))
              refine lv_aload_n hx hb dX7_cell_89 rfl (lv_at hl 0 rfl) ?_
              refine va_get (D := D) (ci := 7) (v := .ref (b 4)) (C := RX7) (T := TX7) (N := 24) hx hb hts hinX7 hown hK hP 0 rfl rfl 4 (by decide) (hts (.fieldLink RX7 16 "DancedLockModel" "cells" "[I") (List.mem_of_getElem? (i := 5) rfl)) (fun _ h9 => h9) rfl dX7_cell_90 ?_
              refine lv_bipush (v := nI (80)) hx hb dX7_cell_93 (by decide) ?_
              refine lv_iload_n hx hb dX7_cell_95 rfl (lv_at hl 1 rfl) ?_
              refine w_imul (x := 80) (y := j_6) hx hb dX7_cell_96  ?_
              refine lv_iload_n hx hb dX7_cell_97 rfl (lv_at hl 2 rfl) ?_
              refine w_iadd (x := 80 * j_6) (y := j_77) hx hb dX7_cell_98  ?_
              rw [show (nI (80 * j_6 + j_77)) = (nI (j_6 * 80 + j_77)) from by rw [Nat.mul_comm 80]]
              refine r_iald (f := c 4) hx hb hK hP 3 0 rfl rfl (i := j_6 * 80 + j_77) (by omega) (by decide) dX7_cell_99 ?_
              refine lv_i2l (v := (c 4 (j_6 * 80 + j_77)).toInt64) hx hb dX7_cell_100 rfl ?_
              exact hret ((c 4 (j_6 * 80 + j_77)).toInt64) (va_up v 0 (va_up (v 0) 0 (0)), c) _ _ 101 _ dX7_cell_101 (by first | exact absurd c31 c58 | (exact ⟨MI_rd hI ⟨rfl, rfl, rfl, rfl, rfl, rfl, rfl, rfl, rfl, rfl, rfl, rfl, rfl⟩ (hsp), _, Or.inr ⟨_, _, _, _, tky_o (c2 := cM c 2) id h_6 h_13 (m_has h_13 c41) (show j_77 + 1 ≤ v 3 j_6 by omega) rfl, rfl, rfl⟩, (MI_rd hI ⟨rfl, rfl, rfl, rfl, rfl, rfl, rfl, rfl, rfl, rfl, rfl, rfl, rfl⟩ (hsp)).1, rfl, rfl, rfl, rfl, rfl, rfl, rfl, rfl, rfl, rfl, rfl, rfl, rfl, rfl⟩)) hP hD hS
            · skip
              have hP : va_P D vwCl (mW b cI cJ cZ (va_up v 0 (va_up (v 0) 0 (0))) c) H := hP
              have hD : va_D A (mW b cI cJ cZ (va_up v 0 (va_up (v 0) 0 (0))) c) := hD
              refine w_if_ne (x := 0) hx hb dX7_cell_80 (tgt := 89) (by decide) (by decide) (fun h => absurd h (by decide)) (fun _ => ?_)
              refine lv_aload_n hx hb dX7_cell_83 rfl (lv_at hl 0 rfl) ?_
              refine lv_iconst (v := nI (3)) hx hb dX7_cell_84 (by decide) ?_
              refine w_cVl (rest := []) hx hb hml hown hts (m_lost l D b cI cJ cZ A (va_up v 0 (va_up (v 0) 0 (0))) c 3  ) 1 gX7_cell_X7_lost rfl hdX7_lost ⟨Nat.le_of_ble_eq_true rfl, Nat.le_of_ble_eq_true rfl⟩ hK hN hP hD hS hA 0 7 rfl rfl rfl rfl hl.1 rfl (Nat.le_of_ble_eq_true rfl) dX7_cell_85 ⟨Nat.le_of_ble_eq_true rfl, Nat.le_of_ble_eq_true rfl⟩ (fun r u H locs hq hP hD hS => ?_)
              obtain ⟨rfl, rfl⟩ := hq
              have hP : va_P D vwCl (mW b cI cJ cZ (va_up v 0 (va_up (v 0) 0 (3))) c) H := hP
              have hD : va_D A (mW b cI cJ cZ (va_up v 0 (va_up (v 0) 0 (3))) c) := hD
              exact hret ((-9223372036854775808)) (va_up v 0 (va_up (v 0) 0 (3)), c) _ _ 88 _ dX7_cell_88 (by first | exact absurd c31 c58 | (exact ⟨MI_rd hI ⟨rfl, rfl, rfl, rfl, rfl, rfl, rfl, rfl, rfl, rfl, rfl, rfl, rfl⟩ (hsp), _, Or.inl ⟨⟨_, tbo_5 (c2 := cM c 2) id h_6 h_13 (m_has h_13 c41) (by decide) (by show _ ∨ _ < _ + (1 : Int); omega)⟩, rfl⟩, (MI_rd hI ⟨rfl, rfl, rfl, rfl, rfl, rfl, rfl, rfl, rfl, rfl, rfl, rfl, rfl⟩ (hsp)).1, rfl, rfl, rfl, rfl, rfl, rfl, rfl, rfl, rfl, rfl, rfl, rfl, rfl, rfl⟩)) hP hD hS
          · skip
            refine lv_aload_n hx hb dX7_cell_61 rfl (lv_at hl 0 rfl) ?_
            refine lv_iconst (v := nI (1)) hx hb dX7_cell_62 (by decide) ?_
            refine w_cVl (rest := []) hx hb hml hown hts (m_lost l D b cI cJ cZ A (va_up v 0 (va_up (v 0) 0 (0))) c 1  ) 1 gX7_cell_X7_lost rfl hdX7_lost ⟨Nat.le_of_ble_eq_true rfl, Nat.le_of_ble_eq_true rfl⟩ hK hN hP hD hS hA 0 7 rfl rfl rfl rfl hl.1 rfl (Nat.le_of_ble_eq_true rfl) dX7_cell_63 ⟨Nat.le_of_ble_eq_true rfl, Nat.le_of_ble_eq_true rfl⟩ (fun r u H locs hq hP hD hS => ?_)
            obtain ⟨rfl, rfl⟩ := hq
            have hP : va_P D vwCl (mW b cI cJ cZ (va_up v 0 (va_up (v 0) 0 (1))) c) H := hP
            have hD : va_D A (mW b cI cJ cZ (va_up v 0 (va_up (v 0) 0 (1))) c) := hD
            exact hret ((-9223372036854775808)) (va_up v 0 (va_up (v 0) 0 (1)), c) _ _ 66 _ dX7_cell_66 (by exact ⟨MI_rd hI ⟨rfl, rfl, rfl, rfl, rfl, rfl, rfl, rfl, rfl, rfl, rfl, rfl, rfl⟩ (hsp), _, Or.inl ⟨⟨_, tbo_2 (c2 := cM c 2) id h_6 h_13 (m_no c58)⟩, rfl⟩, (MI_rd hI ⟨rfl, rfl, rfl, rfl, rfl, rfl, rfl, rfl, rfl, rfl, rfl, rfl, rfl⟩ (hsp)).1, rfl, rfl, rfl, rfl, rfl, rfl, rfl, rfl, rfl, rfl, rfl, rfl, rfl, rfl⟩) hP hD hS
        · skip
          refine lv_aload_n hx hb dX7_cell_44 rfl (lv_at hl 0 rfl) ?_
          refine lv_iconst (v := nI (2)) hx hb dX7_cell_45 (by decide) ?_
          refine w_cVl (rest := []) hx hb hml hown hts (m_lost l D b cI cJ cZ A (va_up v 0 (va_up (v 0) 0 (0))) c 2  ) 1 gX7_cell_X7_lost rfl hdX7_lost ⟨Nat.le_of_ble_eq_true rfl, Nat.le_of_ble_eq_true rfl⟩ hK hN hP hD hS hA 0 7 rfl rfl rfl rfl hl.1 rfl (Nat.le_of_ble_eq_true rfl) dX7_cell_46 ⟨Nat.le_of_ble_eq_true rfl, Nat.le_of_ble_eq_true rfl⟩ (fun r u H locs hq hP hD hS => ?_)
          obtain ⟨rfl, rfl⟩ := hq
          have hP : va_P D vwCl (mW b cI cJ cZ (va_up v 0 (va_up (v 0) 0 (2))) c) H := hP
          have hD : va_D A (mW b cI cJ cZ (va_up v 0 (va_up (v 0) 0 (2))) c) := hD
          exact hret ((-9223372036854775808)) (va_up v 0 (va_up (v 0) 0 (2)), c) _ _ 49 _ dX7_cell_49 (by exact ⟨MI_rd hI ⟨rfl, rfl, rfl, rfl, rfl, rfl, rfl, rfl, rfl, rfl, rfl, rfl, rfl⟩ (hsp), _, Or.inl ⟨⟨_, tbo_3 (c2 := cM c 2) id h_6 h_13 (m_nn hI h_6 c31) (m_hn c31 c41)⟩, rfl⟩, (MI_rd hI ⟨rfl, rfl, rfl, rfl, rfl, rfl, rfl, rfl, rfl, rfl, rfl, rfl, rfl⟩ (hsp)).1, rfl, rfl, rfl, rfl, rfl, rfl, rfl, rfl, rfl, rfl, rfl, rfl, rfl, rfl⟩) hP hD hS
    · skip
      have hP : va_P D vwCl (mW b cI cJ cZ (va_up v 0 (va_up (v 0) 0 (0))) c) H := hP
      have hD : va_D A (mW b cI cJ cZ (va_up v 0 (va_up (v 0) 0 (0))) c) := hD
      refine w_if_ne (x := 0) hx hb dX7_cell_16 (tgt := 23) (by decide) (by decide) (fun h => absurd h (by decide)) (fun _ => ?_)
      refine lv_ldc2 (own := RX7) hx hb hown (hts (.constantLong RX7 57 (-9223372036854775808)) (List.mem_of_getElem? (i := 2) rfl)) dX7_cell_19 ?_
      exact hret ((-9223372036854775808)) (va_up v 0 (va_up (v 0) 0 (0)), c) _ _ 22 _ dX7_cell_22 (by first | (exact ⟨MI_rd hI ⟨rfl, rfl, rfl, rfl, rfl, rfl, rfl, rfl, rfl, rfl, rfl, rfl, rfl⟩ (hsp), _, Or.inl ⟨⟨_, tb_0 (by omega)⟩, rfl⟩, (MI_rd hI ⟨rfl, rfl, rfl, rfl, rfl, rfl, rfl, rfl, rfl, rfl, rfl, rfl, rfl⟩ (hsp)).1, rfl, rfl, rfl, rfl, rfl, rfl, rfl, rfl, rfl, rfl, rfl, rfl, rfl, rfl⟩) | (exact ⟨MI_rd hI ⟨rfl, rfl, rfl, rfl, rfl, rfl, rfl, rfl, rfl, rfl, rfl, rfl, rfl⟩ (hsp), _, Or.inl ⟨⟨_, tb_1 h_6 (by omega)⟩, rfl⟩, (MI_rd hI ⟨rfl, rfl, rfl, rfl, rfl, rfl, rfl, rfl, rfl, rfl, rfl, rfl, rfl⟩ (hsp)).1, rfl, rfl, rfl, rfl, rfl, rfl, rfl, rfl, rfl, rfl, rfl, rfl, rfl, rfl⟩)) hP hD hS
  · skip
    have hP : va_P D vwCl (mW b cI cJ cZ (va_up v 0 (va_up (v 0) 0 (0))) c) H := hP
    have hD : va_D A (mW b cI cJ cZ (va_up v 0 (va_up (v 0) 0 (0))) c) := hD
    refine w_if_eq (x := 0) hx hb dX7_cell_9 (tgt := 19) (by decide) (by decide) (fun _ => ?_) (fun h => absurd h (by decide))
    refine lv_ldc2 (own := RX7) hx hb hown (hts (.constantLong RX7 57 (-9223372036854775808)) (List.mem_of_getElem? (i := 2) rfl)) dX7_cell_19 ?_
    exact hret ((-9223372036854775808)) (va_up v 0 (va_up (v 0) 0 (0)), c) _ _ 22 _ dX7_cell_22 (by first | (exact ⟨MI_rd hI ⟨rfl, rfl, rfl, rfl, rfl, rfl, rfl, rfl, rfl, rfl, rfl, rfl, rfl⟩ (hsp), _, Or.inl ⟨⟨_, tb_0 (by omega)⟩, rfl⟩, (MI_rd hI ⟨rfl, rfl, rfl, rfl, rfl, rfl, rfl, rfl, rfl, rfl, rfl, rfl, rfl⟩ (hsp)).1, rfl, rfl, rfl, rfl, rfl, rfl, rfl, rfl, rfl, rfl, rfl, rfl, rfl, rfl⟩) | (exact ⟨MI_rd hI ⟨rfl, rfl, rfl, rfl, rfl, rfl, rfl, rfl, rfl, rfl, rfl, rfl, rfl⟩ (hsp), _, Or.inl ⟨⟨_, tb_1 h_6 (by omega)⟩, rfl⟩, (MI_rd hI ⟨rfl, rfl, rfl, rfl, rfl, rfl, rfl, rfl, rfl, rfl, rfl, rfl, rfl⟩ (hsp)).1, rfl, rfl, rfl, rfl, rfl, rfl, rfl, rfl, rfl, rfl, rfl, rfl, rfl, rfl⟩)) hP hD hS

set_option maxHeartbeats 1600000 in
set_option maxRecDepth 100000 in
theorem s_copy (l : Launch) (D : va_G) (b : Nat → Nat) (cI cJ cZ : ClassId) (A : Nat → Prop) (v : Nat → Nat → Nat) (c : Nat → Nat → Int32) (x : Int32) (i : Int32) (y : Int32) (j : Int32) (q : Int32) (hI : MI v c) :
    mI l yX7_copy wsX7_copy 2 42 [.ref (b 0), .int x, .int i, .int y, .int j, .int q] D (xT cI cJ cZ) A (mW b cI cJ cZ v c) (fun u : ((Nat → Nat → Nat) × (Nat → Nat → Int32)) => mW b cI cJ cZ u.1 u.2)
    (fun (r : Int32) (u : ((Nat → Nat → Nat) × (Nat → Nat → Int32))) => MI u.1 u.2 ∧ sp_copy (vM v) (cM c) (vM u.1, cM u.2) x i y j q r) := by
  refine w_bI cX7_copy 10 .int (by decide) rfl (Nat.le_of_ble_eq_true rfl) (Or.inl rfl) ?_
  intro p e s m args below meth c0 ls Q hx hb hml hts hown hK hN hA hret hP hD hS hl
  have hl : lv_has ls 10 [(0, .ref (b 0)), (1, .int x), (2, .int i), (3, .int y), (4, .int j), (5, .int q)] := hl
  have hinX7 : ∀ w ∈ wsX70, w ∈ wsX7_copy := fun w h => List.mem_cons_of_mem _ (List.mem_append_right _ h)
  obtain ⟨hnb, hnd, hbt, hfg, hne, hnc, hdk, hnf, hkn, hln, hst, hdc, hsp⟩ := MI_o hI
  refine lv_aload_n hx hb dX7_copy_0 rfl (lv_at hl 0 rfl) ?_
  refine lv_iconst (v := nI (0)) hx hb dX7_copy_1 (by decide) ?_
  refine va_put (D := D) (ci := 7) (v := .int (nI (0))) (ty := .int) (C := RX7) (T := TX7) (N := 24) hx hb hts hinX7 tyX7 tyX7_ok nmX7 hown hK hP hD hS 0 rfl rfl 0 (by decide) (hts (.fieldLink RX7 53 "DancedLockModel" "fault" "I") (List.mem_of_getElem? (i := 1) rfl)) (fun _ h9 => h9) rfl (by decide +kernel) rfl (rfl) (Nat.le_of_ble_eq_true rfl) dX7_copy_2 (fun H locs hP hD hS => ?_)
  have hP : va_P D vwCl (mW b cI cJ cZ (va_up v 0 (va_up (v 0) 0 (0))) c) H := hP
  have hD : va_D A (mW b cI cJ cZ (va_up v 0 (va_up (v 0) 0 (0))) c) := hD
  refine lv_iload_n hx hb dX7_copy_5 rfl (lv_at hl 1 rfl) ?_
  refine w_cSi (rest := []) hx hb hml hown hts (m_isSheet l D b cI cJ cZ A (va_up v 0 (va_up (v 0) 0 (0))) c x  ) 1 gX7_copy_X7_isSheet rfl hdX7_isSheet ⟨Nat.le_of_ble_eq_true rfl, Nat.le_of_ble_eq_true rfl⟩ hK hN hP hD hS hA rfl hl.1 rfl (Nat.le_of_ble_eq_true rfl) dX7_copy_6 ⟨Nat.le_of_ble_eq_true rfl, Nat.le_of_ble_eq_true rfl⟩ (fun r u H locs hq hP hD hS => ?_)
  rcases hq with ⟨j_6, rfl, h_6, hs_x_6⟩ | ⟨rfl, h_6⟩
  · skip
    have hP : va_P D vwCl (mW b cI cJ cZ (va_up v 0 (va_up (v 0) 0 (0))) c) H := hP
    have hD : va_D A (mW b cI cJ cZ (va_up v 0 (va_up (v 0) 0 (0))) c) := hD
    subst hs_x_6
    have j_6T := n_tI (k := j_6) (by omega)
    refine w_if_eq (x := 1) hx hb dX7_copy_9 (tgt := 19) (by decide) (by decide) (fun h => absurd h (by decide)) (fun _ => ?_)
    refine lv_iload_n hx hb dX7_copy_12 rfl (lv_at hl 3 rfl) ?_
    refine w_cSi (rest := []) hx hb hml hown hts (m_isSheet l D b cI cJ cZ A (va_up v 0 (va_up (v 0) 0 (0))) c y  ) 1 gX7_copy_X7_isSheet rfl hdX7_isSheet ⟨Nat.le_of_ble_eq_true rfl, Nat.le_of_ble_eq_true rfl⟩ hK hN hP hD hS hA rfl hl.1 rfl (Nat.le_of_ble_eq_true rfl) dX7_copy_13 ⟨Nat.le_of_ble_eq_true rfl, Nat.le_of_ble_eq_true rfl⟩ (fun r u H locs hq hP hD hS => ?_)
    rcases hq with ⟨j_13, rfl, h_13, hs_x_13⟩ | ⟨rfl, h_13⟩
    · skip
      have hP : va_P D vwCl (mW b cI cJ cZ (va_up v 0 (va_up (v 0) 0 (0))) c) H := hP
      have hD : va_D A (mW b cI cJ cZ (va_up v 0 (va_up (v 0) 0 (0))) c) := hD
      subst hs_x_13
      have j_13T := n_tI (k := j_13) (by omega)
      refine w_if_ne (x := 1) hx hb dX7_copy_16 (tgt := 21) (by decide) (by decide) (fun _ => ?_) (fun h => absurd h (by decide))
      refine lv_aload_n hx hb dX7_copy_21 rfl (lv_at hl 0 rfl) ?_
      refine va_get (D := D) (ci := 7) (v := .ref (b 2)) (C := RX7) (T := TX7) (N := 24) hx hb hts hinX7 hown hK hP 0 rfl rfl 2 (by decide) (hts (.fieldLink RX7 9 "DancedLockModel" "sorts" "[I") (List.mem_of_getElem? (i := 2) rfl)) (fun _ h9 => h9) rfl dX7_copy_22 ?_
      refine lv_iload_n hx hb dX7_copy_25 rfl (lv_at hl 1 rfl) ?_
      refine r_iald (f := c 2) hx hb hK hP 1 0 rfl rfl (i := j_6) (by omega) (by decide) dX7_copy_26 ?_
      refine lv_bipush (v := -9) hx hb dX7_copy_27 (by decide) ?_
      refine lv_icmp_eq (x := c 2 j_6) (y := (-9)) hx hb dX7_copy_29 (tgt := 43) (by decide) (fun c29 => ?_) (fun c29 => ?_)
      · skip
        refine lv_aload_n hx hb dX7_copy_43 rfl (lv_at hl 0 rfl) ?_
        refine lv_iconst (v := nI (1)) hx hb dX7_copy_44 (by decide) ?_
        refine w_cVi (rest := []) hx hb hml hown hts (m_fails l D b cI cJ cZ A (va_up v 0 (va_up (v 0) 0 (0))) c 1  ) 1 gX7_copy_X7_fails rfl hdX7_fails ⟨Nat.le_of_ble_eq_true rfl, Nat.le_of_ble_eq_true rfl⟩ hK hN hP hD hS hA 0 7 rfl rfl rfl rfl hl.1 rfl (Nat.le_of_ble_eq_true rfl) dX7_copy_45 ⟨Nat.le_of_ble_eq_true rfl, Nat.le_of_ble_eq_true rfl⟩ (fun r u H locs hq hP hD hS => ?_)
        obtain ⟨rfl, rfl⟩ := hq
        have hP : va_P D vwCl (mW b cI cJ cZ (va_up v 0 (va_up (v 0) 0 (1))) c) H := hP
        have hD : va_D A (mW b cI cJ cZ (va_up v 0 (va_up (v 0) 0 (1))) c) := hD
        exact hret ((-10) - (nI (1))) (va_up v 0 (va_up (v 0) 0 (1)), c) _ _ 48 _ dX7_copy_48 rfl (by first | (exact ⟨MI_rd hI ⟨rfl, rfl, rfl, rfl, rfl, rfl, rfl, rfl, rfl, rfl, rfl, rfl, rfl⟩ (hsp), Or.inr ⟨j_6, j_13, h_6, h_13, rfl, rfl, Or.inl ⟨Or.inl (m_no c29), by decide, rfl, rfl, rfl, rfl, rfl, rfl, rfl, rfl, rfl, rfl, rfl, rfl, rfl, rfl⟩⟩⟩) | (exact ⟨MI_rd hI ⟨rfl, rfl, rfl, rfl, rfl, rfl, rfl, rfl, rfl, rfl, rfl, rfl, rfl⟩ (hsp), Or.inr ⟨j_6, j_13, h_6, h_13, rfl, rfl, Or.inl ⟨Or.inr (m_no c40), by decide, rfl, rfl, rfl, rfl, rfl, rfl, rfl, rfl, rfl, rfl, rfl, rfl, rfl, rfl⟩⟩⟩)) hP hD hS
      · skip
        refine lv_aload_n hx hb dX7_copy_32 rfl (lv_at hl 0 rfl) ?_
        refine va_get (D := D) (ci := 7) (v := .ref (b 2)) (C := RX7) (T := TX7) (N := 24) hx hb hts hinX7 hown hK hP 0 rfl rfl 2 (by decide) (hts (.fieldLink RX7 9 "DancedLockModel" "sorts" "[I") (List.mem_of_getElem? (i := 2) rfl)) (fun _ h9 => h9) rfl dX7_copy_33 ?_
        refine lv_iload_n hx hb dX7_copy_36 rfl (lv_at hl 3 rfl) ?_
        refine r_iald (f := c 2) hx hb hK hP 1 0 rfl rfl (i := j_13) (by omega) (by decide) dX7_copy_37 ?_
        refine lv_bipush (v := -9) hx hb dX7_copy_38 (by decide) ?_
        refine lv_icmp_ne (x := c 2 j_13) (y := (-9)) hx hb dX7_copy_40 (tgt := 49) (by decide) (fun c40 => ?_) (fun c40 => ?_)
        · skip
          have hli := hln j_6 h_6
          have hlj := hln j_13 h_13
          refine lv_aload_n hx hb dX7_copy_49 rfl (lv_at hl 0 rfl) ?_
          refine va_get (D := D) (ci := 7) (v := .ref (b 2)) (C := RX7) (T := TX7) (N := 24) hx hb hts hinX7 hown hK hP 0 rfl rfl 2 (by decide) (hts (.fieldLink RX7 9 "DancedLockModel" "sorts" "[I") (List.mem_of_getElem? (i := 2) rfl)) (fun _ h9 => h9) rfl dX7_copy_50 ?_
          refine lv_iload_n hx hb dX7_copy_53 rfl (lv_at hl 1 rfl) ?_
          refine r_iald (f := c 2) hx hb hK hP 1 0 rfl rfl (i := j_6) (by omega) (by decide) dX7_copy_54 ?_
          refine lv_aload_n hx hb dX7_copy_55 rfl (lv_at hl 0 rfl) ?_
          refine va_get (D := D) (ci := 7) (v := .ref (b 2)) (C := RX7) (T := TX7) (N := 24) hx hb hts hinX7 hown hK hP 0 rfl rfl 2 (by decide) (hts (.fieldLink RX7 9 "DancedLockModel" "sorts" "[I") (List.mem_of_getElem? (i := 2) rfl)) (fun _ h9 => h9) rfl dX7_copy_56 ?_
          refine lv_iload_n hx hb dX7_copy_59 rfl (lv_at hl 3 rfl) ?_
          refine r_iald (f := c 2) hx hb hK hP 1 0 rfl rfl (i := j_13) (by omega) (by decide) dX7_copy_60 ?_
          refine lv_icmp_eq (x := c 2 j_6) (y := c 2 j_13) hx hb dX7_copy_61 (tgt := 70) (by decide) (fun c61 => ?_) (fun c61 => ?_)
          · skip
            refine lv_iload_n hx hb dX7_copy_70 rfl (lv_at hl 2 rfl) ?_
            refine r_if_lt hx hb dX7_copy_71 (tgt := 109) (by decide) (fun c71 => ?_) (fun c71 => ?_)
            · skip
              refine lv_iconst (v := nI (0)) hx hb dX7_copy_109 (by decide) ?_
              refine lv_istore (lv' := [(6, .int (nI (0))), (0, .ref (b 0)), (1, .int (nI (j_6))), (2, .int i), (3, .int (nI (j_13))), (4, .int j), (5, .int q)]) hx hb dX7_copy_110 hl (by decide) rfl (fun ls hl => ?_)
              refine lv_iload hx hb dX7_copy_112 (lv_at hl 0 rfl) ?_
              refine w_if_eq (x := 0) hx hb dX7_copy_114 (tgt := 144) (by decide) (by decide) (fun _ => ?_) (fun h => absurd h (by decide))
              refine lv_aload_n hx hb dX7_copy_144 rfl (lv_at hl 1 rfl) ?_
              refine lv_iconst (v := nI (3)) hx hb dX7_copy_145 (by decide) ?_
              refine w_cVi (rest := []) hx hb hml hown hts (m_fails l D b cI cJ cZ A (va_up v 0 (va_up (v 0) 0 (0))) c 3  ) 1 gX7_copy_X7_fails rfl hdX7_fails ⟨Nat.le_of_ble_eq_true rfl, Nat.le_of_ble_eq_true rfl⟩ hK hN hP hD hS hA 0 7 rfl rfl rfl rfl hl.1 rfl (Nat.le_of_ble_eq_true rfl) dX7_copy_146 ⟨Nat.le_of_ble_eq_true rfl, Nat.le_of_ble_eq_true rfl⟩ (fun r u H locs hq hP hD hS => ?_)
              obtain ⟨rfl, rfl⟩ := hq
              have hP : va_P D vwCl (mW b cI cJ cZ (va_up v 0 (va_up (v 0) 0 (3))) c) H := hP
              have hD : va_D A (mW b cI cJ cZ (va_up v 0 (va_up (v 0) 0 (3))) c) := hD
              exact hret ((-10) - (nI (3))) (va_up v 0 (va_up (v 0) 0 (3)), c) _ _ 149 _ dX7_copy_149 rfl (by exact ⟨MI_rd hI ⟨rfl, rfl, rfl, rfl, rfl, rfl, rfl, rfl, rfl, rfl, rfl, rfl, rfl⟩ (hsp), Or.inr ⟨j_6, j_13, h_6, h_13, rfl, rfl, Or.inr (Or.inr (Or.inl ⟨m_nn hI h_6 c29, m_nn hI h_13 c40, by rw [m_eq c29, m_eq c40]; exact c61, mv_no (lk := v 3 j_6) (lo := v 3 j_13) hli hlj (by omega), by decide, rfl, rfl, rfl, rfl, rfl, rfl, rfl, rfl, rfl, rfl, rfl, rfl, rfl, rfl⟩))⟩⟩) hP hD hS
            · skip
              obtain ⟨ia, iaB, rfl⟩ := r_nat c71
              have iaT := n_tI iaB
              refine lv_iload hx hb dX7_copy_74 (lv_at hl 4 rfl) ?_
              refine r_if_lt hx hb dX7_copy_76 (tgt := 109) (by decide) (fun c76 => ?_) (fun c76 => ?_)
              · skip
                refine lv_iconst (v := nI (0)) hx hb dX7_copy_109 (by decide) ?_
                refine lv_istore (lv' := [(6, .int (nI (0))), (0, .ref (b 0)), (1, .int (nI (j_6))), (2, .int (nI (ia))), (3, .int (nI (j_13))), (4, .int j), (5, .int q)]) hx hb dX7_copy_110 hl (by decide) rfl (fun ls hl => ?_)
                refine lv_iload hx hb dX7_copy_112 (lv_at hl 0 rfl) ?_
                refine w_if_eq (x := 0) hx hb dX7_copy_114 (tgt := 144) (by decide) (by decide) (fun _ => ?_) (fun h => absurd h (by decide))
                refine lv_aload_n hx hb dX7_copy_144 rfl (lv_at hl 1 rfl) ?_
                refine lv_iconst (v := nI (3)) hx hb dX7_copy_145 (by decide) ?_
                refine w_cVi (rest := []) hx hb hml hown hts (m_fails l D b cI cJ cZ A (va_up v 0 (va_up (v 0) 0 (0))) c 3  ) 1 gX7_copy_X7_fails rfl hdX7_fails ⟨Nat.le_of_ble_eq_true rfl, Nat.le_of_ble_eq_true rfl⟩ hK hN hP hD hS hA 0 7 rfl rfl rfl rfl hl.1 rfl (Nat.le_of_ble_eq_true rfl) dX7_copy_146 ⟨Nat.le_of_ble_eq_true rfl, Nat.le_of_ble_eq_true rfl⟩ (fun r u H locs hq hP hD hS => ?_)
                obtain ⟨rfl, rfl⟩ := hq
                have hP : va_P D vwCl (mW b cI cJ cZ (va_up v 0 (va_up (v 0) 0 (3))) c) H := hP
                have hD : va_D A (mW b cI cJ cZ (va_up v 0 (va_up (v 0) 0 (3))) c) := hD
                exact hret ((-10) - (nI (3))) (va_up v 0 (va_up (v 0) 0 (3)), c) _ _ 149 _ dX7_copy_149 rfl (by exact ⟨MI_rd hI ⟨rfl, rfl, rfl, rfl, rfl, rfl, rfl, rfl, rfl, rfl, rfl, rfl, rfl⟩ (hsp), Or.inr ⟨j_6, j_13, h_6, h_13, rfl, rfl, Or.inr (Or.inr (Or.inl ⟨m_nn hI h_6 c29, m_nn hI h_13 c40, by rw [m_eq c29, m_eq c40]; exact c61, mv_no (lk := v 3 j_6) (lo := v 3 j_13) hli hlj (by omega), by decide, rfl, rfl, rfl, rfl, rfl, rfl, rfl, rfl, rfl, rfl, rfl, rfl, rfl, rfl⟩))⟩⟩) hP hD hS
              · skip
                obtain ⟨ja, jaB, rfl⟩ := r_nat c76
                have jaT := n_tI jaB
                refine lv_iload hx hb dX7_copy_79 (lv_at hl 5 rfl) ?_
                refine r_if_lt hx hb dX7_copy_81 (tgt := 109) (by decide) (fun c81 => ?_) (fun c81 => ?_)
                · skip
                  refine lv_iconst (v := nI (0)) hx hb dX7_copy_109 (by decide) ?_
                  refine lv_istore (lv' := [(6, .int (nI (0))), (0, .ref (b 0)), (1, .int (nI (j_6))), (2, .int (nI (ia))), (3, .int (nI (j_13))), (4, .int (nI (ja))), (5, .int q)]) hx hb dX7_copy_110 hl (by decide) rfl (fun ls hl => ?_)
                  refine lv_iload hx hb dX7_copy_112 (lv_at hl 0 rfl) ?_
                  refine w_if_eq (x := 0) hx hb dX7_copy_114 (tgt := 144) (by decide) (by decide) (fun _ => ?_) (fun h => absurd h (by decide))
                  refine lv_aload_n hx hb dX7_copy_144 rfl (lv_at hl 1 rfl) ?_
                  refine lv_iconst (v := nI (3)) hx hb dX7_copy_145 (by decide) ?_
                  refine w_cVi (rest := []) hx hb hml hown hts (m_fails l D b cI cJ cZ A (va_up v 0 (va_up (v 0) 0 (0))) c 3  ) 1 gX7_copy_X7_fails rfl hdX7_fails ⟨Nat.le_of_ble_eq_true rfl, Nat.le_of_ble_eq_true rfl⟩ hK hN hP hD hS hA 0 7 rfl rfl rfl rfl hl.1 rfl (Nat.le_of_ble_eq_true rfl) dX7_copy_146 ⟨Nat.le_of_ble_eq_true rfl, Nat.le_of_ble_eq_true rfl⟩ (fun r u H locs hq hP hD hS => ?_)
                  obtain ⟨rfl, rfl⟩ := hq
                  have hP : va_P D vwCl (mW b cI cJ cZ (va_up v 0 (va_up (v 0) 0 (3))) c) H := hP
                  have hD : va_D A (mW b cI cJ cZ (va_up v 0 (va_up (v 0) 0 (3))) c) := hD
                  exact hret ((-10) - (nI (3))) (va_up v 0 (va_up (v 0) 0 (3)), c) _ _ 149 _ dX7_copy_149 rfl (by exact ⟨MI_rd hI ⟨rfl, rfl, rfl, rfl, rfl, rfl, rfl, rfl, rfl, rfl, rfl, rfl, rfl⟩ (hsp), Or.inr ⟨j_6, j_13, h_6, h_13, rfl, rfl, Or.inr (Or.inr (Or.inl ⟨m_nn hI h_6 c29, m_nn hI h_13 c40, by rw [m_eq c29, m_eq c40]; exact c61, mv_no (lk := v 3 j_6) (lo := v 3 j_13) hli hlj (by omega), by decide, rfl, rfl, rfl, rfl, rfl, rfl, rfl, rfl, rfl, rfl, rfl, rfl, rfl, rfl⟩))⟩⟩) hP hD hS
                · skip
                  obtain ⟨na, naB, rfl⟩ := r_nat c81
                  have naT := n_tI naB
                  refine lv_iload_n hx hb dX7_copy_84 rfl (lv_at hl 2 rfl) ?_
                  refine lv_aload_n hx hb dX7_copy_85 rfl (lv_at hl 0 rfl) ?_
                  refine va_get (D := D) (ci := 7) (v := .ref (b 3)) (C := RX7) (T := TX7) (N := 24) hx hb hts hinX7 hown hK hP 0 rfl rfl 3 (by decide) (hts (.fieldLink RX7 13 "DancedLockModel" "sheetLong" "[I") (List.mem_of_getElem? (i := 3) rfl)) (fun _ h9 => h9) rfl dX7_copy_86 ?_
                  refine lv_iload_n hx hb dX7_copy_89 rfl (lv_at hl 1 rfl) ?_
                  refine w_iald (f := v 3) hx hb hK hP 2 0 rfl rfl (i := j_6) (by omega) (by decide) dX7_copy_90 ?_
                  refine w_icmp_gt (x := ia) (y := v 3 j_6) hx hb dX7_copy_91 (tgt := 109) (by decide) (by omega) (by omega) (fun c91 => ?_) (fun c91 => ?_)
                  · skip
                    refine lv_iconst (v := nI (0)) hx hb dX7_copy_109 (by decide) ?_
                    refine lv_istore (lv' := [(6, .int (nI (0))), (0, .ref (b 0)), (1, .int (nI (j_6))), (2, .int (nI (ia))), (3, .int (nI (j_13))), (4, .int (nI (ja))), (5, .int (nI (na)))]) hx hb dX7_copy_110 hl (by decide) rfl (fun ls hl => ?_)
                    refine lv_iload hx hb dX7_copy_112 (lv_at hl 0 rfl) ?_
                    refine w_if_eq (x := 0) hx hb dX7_copy_114 (tgt := 144) (by decide) (by decide) (fun _ => ?_) (fun h => absurd h (by decide))
                    refine lv_aload_n hx hb dX7_copy_144 rfl (lv_at hl 1 rfl) ?_
                    refine lv_iconst (v := nI (3)) hx hb dX7_copy_145 (by decide) ?_
                    refine w_cVi (rest := []) hx hb hml hown hts (m_fails l D b cI cJ cZ A (va_up v 0 (va_up (v 0) 0 (0))) c 3  ) 1 gX7_copy_X7_fails rfl hdX7_fails ⟨Nat.le_of_ble_eq_true rfl, Nat.le_of_ble_eq_true rfl⟩ hK hN hP hD hS hA 0 7 rfl rfl rfl rfl hl.1 rfl (Nat.le_of_ble_eq_true rfl) dX7_copy_146 ⟨Nat.le_of_ble_eq_true rfl, Nat.le_of_ble_eq_true rfl⟩ (fun r u H locs hq hP hD hS => ?_)
                    obtain ⟨rfl, rfl⟩ := hq
                    have hP : va_P D vwCl (mW b cI cJ cZ (va_up v 0 (va_up (v 0) 0 (3))) c) H := hP
                    have hD : va_D A (mW b cI cJ cZ (va_up v 0 (va_up (v 0) 0 (3))) c) := hD
                    exact hret ((-10) - (nI (3))) (va_up v 0 (va_up (v 0) 0 (3)), c) _ _ 149 _ dX7_copy_149 rfl (by exact ⟨MI_rd hI ⟨rfl, rfl, rfl, rfl, rfl, rfl, rfl, rfl, rfl, rfl, rfl, rfl, rfl⟩ (hsp), Or.inr ⟨j_6, j_13, h_6, h_13, rfl, rfl, Or.inr (Or.inr (Or.inl ⟨m_nn hI h_6 c29, m_nn hI h_13 c40, by rw [m_eq c29, m_eq c40]; exact c61, mv_no (lk := v 3 j_6) (lo := v 3 j_13) hli hlj (by omega), by decide, rfl, rfl, rfl, rfl, rfl, rfl, rfl, rfl, rfl, rfl, rfl, rfl, rfl, rfl⟩))⟩⟩) hP hD hS
                  · skip
                    refine lv_iload hx hb dX7_copy_94 (lv_at hl 4 rfl) ?_
                    refine lv_aload_n hx hb dX7_copy_96 rfl (lv_at hl 0 rfl) ?_
                    refine va_get (D := D) (ci := 7) (v := .ref (b 3)) (C := RX7) (T := TX7) (N := 24) hx hb hts hinX7 hown hK hP 0 rfl rfl 3 (by decide) (hts (.fieldLink RX7 13 "DancedLockModel" "sheetLong" "[I") (List.mem_of_getElem? (i := 3) rfl)) (fun _ h9 => h9) rfl dX7_copy_97 ?_
                    refine lv_iload_n hx hb dX7_copy_100 rfl (lv_at hl 3 rfl) ?_
                    refine w_iald (f := v 3) hx hb hK hP 2 0 rfl rfl (i := j_13) (by omega) (by decide) dX7_copy_101 ?_
                    refine w_icmp_gt (x := ja) (y := v 3 j_13) hx hb dX7_copy_102 (tgt := 109) (by decide) (by omega) (by omega) (fun c102 => ?_) (fun c102 => ?_)
                    · skip
                      refine lv_iconst (v := nI (0)) hx hb dX7_copy_109 (by decide) ?_
                      refine lv_istore (lv' := [(6, .int (nI (0))), (0, .ref (b 0)), (1, .int (nI (j_6))), (2, .int (nI (ia))), (3, .int (nI (j_13))), (4, .int (nI (ja))), (5, .int (nI (na)))]) hx hb dX7_copy_110 hl (by decide) rfl (fun ls hl => ?_)
                      refine lv_iload hx hb dX7_copy_112 (lv_at hl 0 rfl) ?_
                      refine w_if_eq (x := 0) hx hb dX7_copy_114 (tgt := 144) (by decide) (by decide) (fun _ => ?_) (fun h => absurd h (by decide))
                      refine lv_aload_n hx hb dX7_copy_144 rfl (lv_at hl 1 rfl) ?_
                      refine lv_iconst (v := nI (3)) hx hb dX7_copy_145 (by decide) ?_
                      refine w_cVi (rest := []) hx hb hml hown hts (m_fails l D b cI cJ cZ A (va_up v 0 (va_up (v 0) 0 (0))) c 3  ) 1 gX7_copy_X7_fails rfl hdX7_fails ⟨Nat.le_of_ble_eq_true rfl, Nat.le_of_ble_eq_true rfl⟩ hK hN hP hD hS hA 0 7 rfl rfl rfl rfl hl.1 rfl (Nat.le_of_ble_eq_true rfl) dX7_copy_146 ⟨Nat.le_of_ble_eq_true rfl, Nat.le_of_ble_eq_true rfl⟩ (fun r u H locs hq hP hD hS => ?_)
                      obtain ⟨rfl, rfl⟩ := hq
                      have hP : va_P D vwCl (mW b cI cJ cZ (va_up v 0 (va_up (v 0) 0 (3))) c) H := hP
                      have hD : va_D A (mW b cI cJ cZ (va_up v 0 (va_up (v 0) 0 (3))) c) := hD
                      exact hret ((-10) - (nI (3))) (va_up v 0 (va_up (v 0) 0 (3)), c) _ _ 149 _ dX7_copy_149 rfl (by exact ⟨MI_rd hI ⟨rfl, rfl, rfl, rfl, rfl, rfl, rfl, rfl, rfl, rfl, rfl, rfl, rfl⟩ (hsp), Or.inr ⟨j_6, j_13, h_6, h_13, rfl, rfl, Or.inr (Or.inr (Or.inl ⟨m_nn hI h_6 c29, m_nn hI h_13 c40, by rw [m_eq c29, m_eq c40]; exact c61, mv_no (lk := v 3 j_6) (lo := v 3 j_13) hli hlj (by omega), by decide, rfl, rfl, rfl, rfl, rfl, rfl, rfl, rfl, rfl, rfl, rfl, rfl, rfl, rfl⟩))⟩⟩) hP hD hS
                    · skip
                      refine lv_iconst (v := nI (1)) hx hb dX7_copy_105 (by decide) ?_
                      refine lv_goto (tgt := 110) hx hb dX7_copy_106 (by decide) ?_
                      refine lv_istore (lv' := [(6, .int (nI (1))), (0, .ref (b 0)), (1, .int (nI (j_6))), (2, .int (nI (ia))), (3, .int (nI (j_13))), (4, .int (nI (ja))), (5, .int (nI (na)))]) hx hb dX7_copy_110 hl (by decide) rfl (fun ls hl => ?_)
                      refine lv_iload hx hb dX7_copy_112 (lv_at hl 0 rfl) ?_
                      refine w_if_eq (x := 1) hx hb dX7_copy_114 (tgt := 144) (by decide) (by decide) (fun h => absurd h (by decide)) (fun _ => ?_)
                      refine lv_iload hx hb dX7_copy_117 (lv_at hl 6 rfl) ?_
                      refine lv_aload_n hx hb dX7_copy_119 rfl (lv_at hl 1 rfl) ?_
                      refine va_get (D := D) (ci := 7) (v := .ref (b 3)) (C := RX7) (T := TX7) (N := 24) hx hb hts hinX7 hown hK hP 0 rfl rfl 3 (by decide) (hts (.fieldLink RX7 13 "DancedLockModel" "sheetLong" "[I") (List.mem_of_getElem? (i := 3) rfl)) (fun _ h9 => h9) rfl dX7_copy_120 ?_
                      refine lv_iload_n hx hb dX7_copy_123 rfl (lv_at hl 2 rfl) ?_
                      refine w_iald (f := v 3) hx hb hK hP 2 0 rfl rfl (i := j_6) (by omega) (by decide) dX7_copy_124 ?_
                      refine lv_iload_n hx hb dX7_copy_125 rfl (lv_at hl 3 rfl) ?_
                      refine w_isub (x := v 3 j_6) (y := ia) hx hb dX7_copy_126 (by omega) ?_
                      refine w_icmp_gt (x := na) (y := (v 3 j_6) - ia) hx hb dX7_copy_127 (tgt := 144) (by decide) (by omega) (by omega) (fun c127 => ?_) (fun c127 => ?_)
                      · skip
                        refine lv_aload_n hx hb dX7_copy_144 rfl (lv_at hl 1 rfl) ?_
                        refine lv_iconst (v := nI (3)) hx hb dX7_copy_145 (by decide) ?_
                        refine w_cVi (rest := []) hx hb hml hown hts (m_fails l D b cI cJ cZ A (va_up v 0 (va_up (v 0) 0 (0))) c 3  ) 1 gX7_copy_X7_fails rfl hdX7_fails ⟨Nat.le_of_ble_eq_true rfl, Nat.le_of_ble_eq_true rfl⟩ hK hN hP hD hS hA 0 7 rfl rfl rfl rfl hl.1 rfl (Nat.le_of_ble_eq_true rfl) dX7_copy_146 ⟨Nat.le_of_ble_eq_true rfl, Nat.le_of_ble_eq_true rfl⟩ (fun r u H locs hq hP hD hS => ?_)
                        obtain ⟨rfl, rfl⟩ := hq
                        have hP : va_P D vwCl (mW b cI cJ cZ (va_up v 0 (va_up (v 0) 0 (3))) c) H := hP
                        have hD : va_D A (mW b cI cJ cZ (va_up v 0 (va_up (v 0) 0 (3))) c) := hD
                        exact hret ((-10) - (nI (3))) (va_up v 0 (va_up (v 0) 0 (3)), c) _ _ 149 _ dX7_copy_149 rfl (by exact ⟨MI_rd hI ⟨rfl, rfl, rfl, rfl, rfl, rfl, rfl, rfl, rfl, rfl, rfl, rfl, rfl⟩ (hsp), Or.inr ⟨j_6, j_13, h_6, h_13, rfl, rfl, Or.inr (Or.inr (Or.inl ⟨m_nn hI h_6 c29, m_nn hI h_13 c40, by rw [m_eq c29, m_eq c40]; exact c61, mv_no (lk := v 3 j_6) (lo := v 3 j_13) hli hlj (by omega), by decide, rfl, rfl, rfl, rfl, rfl, rfl, rfl, rfl, rfl, rfl, rfl, rfl, rfl, rfl⟩))⟩⟩) hP hD hS
                      · skip
                        refine lv_iload hx hb dX7_copy_130 (lv_at hl 6 rfl) ?_
                        refine lv_aload_n hx hb dX7_copy_132 rfl (lv_at hl 1 rfl) ?_
                        refine va_get (D := D) (ci := 7) (v := .ref (b 3)) (C := RX7) (T := TX7) (N := 24) hx hb hts hinX7 hown hK hP 0 rfl rfl 3 (by decide) (hts (.fieldLink RX7 13 "DancedLockModel" "sheetLong" "[I") (List.mem_of_getElem? (i := 3) rfl)) (fun _ h9 => h9) rfl dX7_copy_133 ?_
                        refine lv_iload_n hx hb dX7_copy_136 rfl (lv_at hl 4 rfl) ?_
                        refine w_iald (f := v 3) hx hb hK hP 2 0 rfl rfl (i := j_13) (by omega) (by decide) dX7_copy_137 ?_
                        refine lv_iload hx hb dX7_copy_138 (lv_at hl 5 rfl) ?_
                        refine w_isub (x := v 3 j_13) (y := ja) hx hb dX7_copy_140 (by omega) ?_
                        refine w_icmp_le (x := na) (y := (v 3 j_13) - ja) hx hb dX7_copy_141 (tgt := 150) (by decide) (by omega) (by omega) (fun c141 => ?_) (fun c141 => ?_)
                        · skip
                          have L166 : ∀ (n : Nat) (w : Nat) (z : Nat) (g : Nat → Int32) (H : Heap) (locs : List Loc) (ls : Array Slot), na - z < n → ((w = 1 ∧ ia < ja) ∨ (w = 0 ∧ ja ≤ ia)) → (z ≤ na) → (g = cpb w (c 4) (80 * j_6 + ia) (80 * j_13 + ja) na z) → va_P D vwCl (mW b cI cJ cZ (va_up v 0 (va_up (v 0) 0 (0))) (va_up c 4 (g))) H → va_D A (mW b cI cJ cZ (va_up v 0 (va_up (v 0) 0 (0))) (va_up c 4 (g))) → va_S A s.heap H locs → lv_has ls 10 [(7, .int (nI (w))), (8, .int (nI (z))), (0, .ref (b 0)), (1, .int (nI (j_6))), (2, .int (nI (ia))), (3, .int (nI (j_13))), (4, .int (nI (ja))), (5, .int (nI (na))), (6, .int (nI (1)))] → W p l e { frames := 2, cells := 0, slots := 0, locals := 42 } s m args below meth c0 H locs 0 0 Q (F0 m 166 ls []) := by
                            intro n
                            induction n with
                            | zero => intro w z g H locs ls hm; exact absurd hm (Nat.not_lt_zero _)
                            | succ n ih166 =>
                              intro w z g H locs ls hm166 hw h1 h2 hP hD hS hl
                              refine lv_iload hx hb dX7_copy_166 (lv_at hl 1 rfl) ?_
                              refine lv_iload hx hb dX7_copy_168 (lv_at hl 7 rfl) ?_
                              refine w_icmp_ge (x := z) (y := na) hx hb dX7_copy_170 (tgt := 227) (by decide) (by omega) (by omega) (fun c170 => ?_) (fun c170 => ?_)
                              · skip
                                have e : z = na := (by omega)
                                rw [e, cpb_all, Nat.mul_comm 80, Nat.mul_comm 80] at h2
                                refine lv_iload hx hb dX7_copy_227 (lv_at hl 7 rfl) ?_
                                exact hret (nI (na)) (va_up v 0 (va_up (v 0) 0 (0)), va_up c 4 (g)) _ _ 229 _ dX7_copy_229 rfl (by exact ⟨MI_rd hI ⟨rfl, rfl, rfl, rfl, rfl, rfl, rfl, rfl, rfl, rfl, rfl, rfl, rfl⟩ (hsp), Or.inr ⟨j_6, j_13, h_6, h_13, rfl, rfl, Or.inr (Or.inr (Or.inr ⟨ia, ja, na, rfl, rfl, rfl, show ia + na ≤ v 3 j_6 by omega, show ja + na ≤ v 3 j_13 by omega, m_nn hI h_6 c29, m_nn hI h_13 c40, by rw [m_eq c29, m_eq c40]; exact c61, rfl, rfl, h2, rfl, rfl, rfl, rfl, rfl, rfl, rfl, rfl, rfl, rfl, rfl, rfl⟩))⟩⟩) hP hD hS
                              · skip
                                refine lv_iload hx hb dX7_copy_173 (lv_at hl 0 rfl) ?_
                                refine w_if_eq (x := w) hx hb dX7_copy_175 (tgt := 188) (by decide) (by omega) (fun c175 => ?_) (fun c175 => ?_)
                                · skip
                                  refine lv_iload hx hb dX7_copy_188 (lv_at hl 1 rfl) ?_
                                  refine lv_istore (lv' := [(9, .int (nI (z))), (7, .int (nI (w))), (8, .int (nI (z))), (0, .ref (b 0)), (1, .int (nI (j_6))), (2, .int (nI (ia))), (3, .int (nI (j_13))), (4, .int (nI (ja))), (5, .int (nI (na))), (6, .int (nI (1)))]) hx hb dX7_copy_190 hl (by decide) rfl (fun ls hl => ?_)
                                  refine lv_aload_n hx hb dX7_copy_192 rfl (lv_at hl 3 rfl) ?_
                                  refine va_get (D := D) (ci := 7) (v := .ref (b 4)) (C := RX7) (T := TX7) (N := 24) hx hb hts hinX7 hown hK hP 0 rfl rfl 4 (by decide) (hts (.fieldLink RX7 16 "DancedLockModel" "cells" "[I") (List.mem_of_getElem? (i := 4) rfl)) (fun _ h9 => h9) rfl dX7_copy_193 ?_
                                  refine lv_bipush (v := nI (80)) hx hb dX7_copy_196 (by decide) ?_
                                  refine lv_iload_n hx hb dX7_copy_198 rfl (lv_at hl 6 rfl) ?_
                                  refine w_imul (x := 80) (y := j_13) hx hb dX7_copy_199  ?_
                                  refine lv_iload hx hb dX7_copy_200 (lv_at hl 7 rfl) ?_
                                  refine w_iadd (x := 80 * j_13) (y := ja) hx hb dX7_copy_202  ?_
                                  refine lv_iload hx hb dX7_copy_203 (lv_at hl 0 rfl) ?_
                                  refine w_iadd (x := 80 * j_13 + ja) (y := z) hx hb dX7_copy_205  ?_
                                  refine lv_aload_n hx hb dX7_copy_206 rfl (lv_at hl 3 rfl) ?_
                                  refine va_get (D := D) (ci := 7) (v := .ref (b 4)) (C := RX7) (T := TX7) (N := 24) hx hb hts hinX7 hown hK hP 0 rfl rfl 4 (by decide) (hts (.fieldLink RX7 16 "DancedLockModel" "cells" "[I") (List.mem_of_getElem? (i := 4) rfl)) (fun _ h9 => h9) rfl dX7_copy_207 ?_
                                  refine lv_bipush (v := nI (80)) hx hb dX7_copy_210 (by decide) ?_
                                  refine lv_iload_n hx hb dX7_copy_212 rfl (lv_at hl 4 rfl) ?_
                                  refine w_imul (x := 80) (y := j_6) hx hb dX7_copy_213  ?_
                                  refine lv_iload_n hx hb dX7_copy_214 rfl (lv_at hl 5 rfl) ?_
                                  refine w_iadd (x := 80 * j_6) (y := ia) hx hb dX7_copy_215  ?_
                                  refine lv_iload hx hb dX7_copy_216 (lv_at hl 0 rfl) ?_
                                  refine w_iadd (x := 80 * j_6 + ia) (y := z) hx hb dX7_copy_218  ?_
                                  refine r_iald (f := g) hx hb hK hP 3 0 rfl rfl (i := 80 * j_6 + ia + z) (by omega) (by decide) dX7_copy_219 ?_
                                  refine r_iast (f := g) (w := g (80 * j_6 + ia + z)) hx hb hK hP hD hS 3 0 rfl rfl (i := 80 * j_13 + ja + z) (by omega) (by decide) dX7_copy_220 (fun H locs hP hD hS => ?_)
                                  have hP : va_P D vwCl (mW b cI cJ cZ (va_up v 0 (va_up (v 0) 0 (0))) (va_up c 4 (va_up g (80 * j_13 + ja + z) (g (80 * j_6 + ia + z))))) H := hP
                                  have hD : va_D A (mW b cI cJ cZ (va_up v 0 (va_up (v 0) 0 (0))) (va_up c 4 (va_up g (80 * j_13 + ja + z) (g (80 * j_6 + ia + z))))) := hD
                                  refine lv_iinc (v := nI (z + 1)) (lv' := [(8, .int (nI (z + 1))), (9, .int (nI (z))), (7, .int (nI (w))), (0, .ref (b 0)), (1, .int (nI (j_6))), (2, .int (nI (ia))), (3, .int (nI (j_13))), (4, .int (nI (ja))), (5, .int (nI (na))), (6, .int (nI (1)))]) hx hb dX7_copy_221 hl (k := 2) rfl (nI_add z 1) (by decide) rfl (fun ls hl => ?_)
                                  refine lv_goto (tgt := 166) hx hb dX7_copy_224 (by decide) ?_
                                  exact ih166 w (z + 1) (va_up g (80 * j_13 + ja + z) (g (80 * j_6 + ia + z))) _ _ _ (by omega) (by omega) (by omega) (by first | (have e1 : w = 1 := (by omega); subst e1; rw [h2, ← cpb_s1 (by omega) (by omega)]) | (have e0 : w = 0 := (by omega); subst e0; rw [h2, ← cpb_s0 (by omega)])) hP hD hS (lv_sub hl [2, 0, 3, 4, 5, 6, 7, 8, 9] rfl)
                                · skip
                                  refine lv_iload hx hb dX7_copy_178 (lv_at hl 7 rfl) ?_
                                  refine lv_iconst (v := nI (1)) hx hb dX7_copy_180 (by decide) ?_
                                  refine w_isub (x := na) (y := 1) hx hb dX7_copy_181 (by omega) ?_
                                  refine lv_iload hx hb dX7_copy_182 (lv_at hl 1 rfl) ?_
                                  refine w_isub (x := na - 1) (y := z) hx hb dX7_copy_184 (by omega) ?_
                                  refine lv_goto (tgt := 190) hx hb dX7_copy_185 (by decide) ?_
                                  refine lv_istore (lv' := [(9, .int (nI ((na - 1) - z))), (7, .int (nI (w))), (8, .int (nI (z))), (0, .ref (b 0)), (1, .int (nI (j_6))), (2, .int (nI (ia))), (3, .int (nI (j_13))), (4, .int (nI (ja))), (5, .int (nI (na))), (6, .int (nI (1)))]) hx hb dX7_copy_190 hl (by decide) rfl (fun ls hl => ?_)
                                  refine lv_aload_n hx hb dX7_copy_192 rfl (lv_at hl 3 rfl) ?_
                                  refine va_get (D := D) (ci := 7) (v := .ref (b 4)) (C := RX7) (T := TX7) (N := 24) hx hb hts hinX7 hown hK hP 0 rfl rfl 4 (by decide) (hts (.fieldLink RX7 16 "DancedLockModel" "cells" "[I") (List.mem_of_getElem? (i := 4) rfl)) (fun _ h9 => h9) rfl dX7_copy_193 ?_
                                  refine lv_bipush (v := nI (80)) hx hb dX7_copy_196 (by decide) ?_
                                  refine lv_iload_n hx hb dX7_copy_198 rfl (lv_at hl 6 rfl) ?_
                                  refine w_imul (x := 80) (y := j_13) hx hb dX7_copy_199  ?_
                                  refine lv_iload hx hb dX7_copy_200 (lv_at hl 7 rfl) ?_
                                  refine w_iadd (x := 80 * j_13) (y := ja) hx hb dX7_copy_202  ?_
                                  refine lv_iload hx hb dX7_copy_203 (lv_at hl 0 rfl) ?_
                                  refine w_iadd (x := 80 * j_13 + ja) (y := (na - 1) - z) hx hb dX7_copy_205  ?_
                                  refine lv_aload_n hx hb dX7_copy_206 rfl (lv_at hl 3 rfl) ?_
                                  refine va_get (D := D) (ci := 7) (v := .ref (b 4)) (C := RX7) (T := TX7) (N := 24) hx hb hts hinX7 hown hK hP 0 rfl rfl 4 (by decide) (hts (.fieldLink RX7 16 "DancedLockModel" "cells" "[I") (List.mem_of_getElem? (i := 4) rfl)) (fun _ h9 => h9) rfl dX7_copy_207 ?_
                                  refine lv_bipush (v := nI (80)) hx hb dX7_copy_210 (by decide) ?_
                                  refine lv_iload_n hx hb dX7_copy_212 rfl (lv_at hl 4 rfl) ?_
                                  refine w_imul (x := 80) (y := j_6) hx hb dX7_copy_213  ?_
                                  refine lv_iload_n hx hb dX7_copy_214 rfl (lv_at hl 5 rfl) ?_
                                  refine w_iadd (x := 80 * j_6) (y := ia) hx hb dX7_copy_215  ?_
                                  refine lv_iload hx hb dX7_copy_216 (lv_at hl 0 rfl) ?_
                                  refine w_iadd (x := 80 * j_6 + ia) (y := (na - 1) - z) hx hb dX7_copy_218  ?_
                                  refine r_iald (f := g) hx hb hK hP 3 0 rfl rfl (i := 80 * j_6 + ia + ((na - 1) - z)) (by omega) (by decide) dX7_copy_219 ?_
                                  refine r_iast (f := g) (w := g (80 * j_6 + ia + ((na - 1) - z))) hx hb hK hP hD hS 3 0 rfl rfl (i := 80 * j_13 + ja + ((na - 1) - z)) (by omega) (by decide) dX7_copy_220 (fun H locs hP hD hS => ?_)
                                  have hP : va_P D vwCl (mW b cI cJ cZ (va_up v 0 (va_up (v 0) 0 (0))) (va_up c 4 (va_up g (80 * j_13 + ja + ((na - 1) - z)) (g (80 * j_6 + ia + ((na - 1) - z)))))) H := hP
                                  have hD : va_D A (mW b cI cJ cZ (va_up v 0 (va_up (v 0) 0 (0))) (va_up c 4 (va_up g (80 * j_13 + ja + ((na - 1) - z)) (g (80 * j_6 + ia + ((na - 1) - z)))))) := hD
                                  refine lv_iinc (v := nI (z + 1)) (lv' := [(8, .int (nI (z + 1))), (9, .int (nI ((na - 1) - z))), (7, .int (nI (w))), (0, .ref (b 0)), (1, .int (nI (j_6))), (2, .int (nI (ia))), (3, .int (nI (j_13))), (4, .int (nI (ja))), (5, .int (nI (na))), (6, .int (nI (1)))]) hx hb dX7_copy_221 hl (k := 2) rfl (nI_add z 1) (by decide) rfl (fun ls hl => ?_)
                                  refine lv_goto (tgt := 166) hx hb dX7_copy_224 (by decide) ?_
                                  exact ih166 w (z + 1) (va_up g (80 * j_13 + ja + ((na - 1) - z)) (g (80 * j_6 + ia + ((na - 1) - z)))) _ _ _ (by omega) (by omega) (by omega) (by first | (have e1 : w = 1 := (by omega); subst e1; rw [h2, ← cpb_s1 (by omega) (by omega)]) | (have e0 : w = 0 := (by omega); subst e0; rw [h2, ← cpb_s0 (by omega)])) hP hD hS (lv_sub hl [2, 0, 3, 4, 5, 6, 7, 8, 9] rfl)
                          refine lv_iload_n hx hb dX7_copy_150 rfl (lv_at hl 3 rfl) ?_
                          refine lv_iload hx hb dX7_copy_151 (lv_at hl 5 rfl) ?_
                          refine w_icmp_ge (x := ia) (y := ja) hx hb dX7_copy_153 (tgt := 160) (by decide) (by omega) (by omega) (fun c153 => ?_) (fun c153 => ?_)
                          · skip
                            refine lv_iconst (v := nI (0)) hx hb dX7_copy_160 (by decide) ?_
                            refine lv_istore (lv' := [(7, .int (nI (0))), (6, .int (nI (1))), (0, .ref (b 0)), (1, .int (nI (j_6))), (2, .int (nI (ia))), (3, .int (nI (j_13))), (4, .int (nI (ja))), (5, .int (nI (na)))]) hx hb dX7_copy_161 hl (by decide) rfl (fun ls hl => ?_)
                            refine lv_iconst (v := nI (0)) hx hb dX7_copy_163 (by decide) ?_
                            refine lv_istore (lv' := [(8, .int (nI (0))), (7, .int (nI (0))), (6, .int (nI (1))), (0, .ref (b 0)), (1, .int (nI (j_6))), (2, .int (nI (ia))), (3, .int (nI (j_13))), (4, .int (nI (ja))), (5, .int (nI (na)))]) hx hb dX7_copy_164 hl (by decide) rfl (fun ls hl => ?_)
                            exact L166 ((na - 0) + 1) 0 0 (c 4) _ _ _ (Nat.lt_succ_self _) (by omega) (by omega) (by exact cpb_0) hP hD hS (lv_sub hl [1, 0, 3, 4, 5, 6, 7, 8, 2] rfl)
                          · skip
                            refine lv_iconst (v := nI (1)) hx hb dX7_copy_156 (by decide) ?_
                            refine lv_goto (tgt := 161) hx hb dX7_copy_157 (by decide) ?_
                            refine lv_istore (lv' := [(7, .int (nI (1))), (6, .int (nI (1))), (0, .ref (b 0)), (1, .int (nI (j_6))), (2, .int (nI (ia))), (3, .int (nI (j_13))), (4, .int (nI (ja))), (5, .int (nI (na)))]) hx hb dX7_copy_161 hl (by decide) rfl (fun ls hl => ?_)
                            refine lv_iconst (v := nI (0)) hx hb dX7_copy_163 (by decide) ?_
                            refine lv_istore (lv' := [(8, .int (nI (0))), (7, .int (nI (1))), (6, .int (nI (1))), (0, .ref (b 0)), (1, .int (nI (j_6))), (2, .int (nI (ia))), (3, .int (nI (j_13))), (4, .int (nI (ja))), (5, .int (nI (na)))]) hx hb dX7_copy_164 hl (by decide) rfl (fun ls hl => ?_)
                            exact L166 ((na - 0) + 1) 1 0 (c 4) _ _ _ (Nat.lt_succ_self _) (by omega) (by omega) (by exact cpb_0) hP hD hS (lv_sub hl [1, 0, 3, 4, 5, 6, 7, 8, 2] rfl)
                        · skip
                          refine lv_aload_n hx hb dX7_copy_144 rfl (lv_at hl 1 rfl) ?_
                          refine lv_iconst (v := nI (3)) hx hb dX7_copy_145 (by decide) ?_
                          refine w_cVi (rest := []) hx hb hml hown hts (m_fails l D b cI cJ cZ A (va_up v 0 (va_up (v 0) 0 (0))) c 3  ) 1 gX7_copy_X7_fails rfl hdX7_fails ⟨Nat.le_of_ble_eq_true rfl, Nat.le_of_ble_eq_true rfl⟩ hK hN hP hD hS hA 0 7 rfl rfl rfl rfl hl.1 rfl (Nat.le_of_ble_eq_true rfl) dX7_copy_146 ⟨Nat.le_of_ble_eq_true rfl, Nat.le_of_ble_eq_true rfl⟩ (fun r u H locs hq hP hD hS => ?_)
                          obtain ⟨rfl, rfl⟩ := hq
                          have hP : va_P D vwCl (mW b cI cJ cZ (va_up v 0 (va_up (v 0) 0 (3))) c) H := hP
                          have hD : va_D A (mW b cI cJ cZ (va_up v 0 (va_up (v 0) 0 (3))) c) := hD
                          exact hret ((-10) - (nI (3))) (va_up v 0 (va_up (v 0) 0 (3)), c) _ _ 149 _ dX7_copy_149 rfl (by exact ⟨MI_rd hI ⟨rfl, rfl, rfl, rfl, rfl, rfl, rfl, rfl, rfl, rfl, rfl, rfl, rfl⟩ (hsp), Or.inr ⟨j_6, j_13, h_6, h_13, rfl, rfl, Or.inr (Or.inr (Or.inl ⟨m_nn hI h_6 c29, m_nn hI h_13 c40, by rw [m_eq c29, m_eq c40]; exact c61, mv_no (lk := v 3 j_6) (lo := v 3 j_13) hli hlj (by omega), by decide, rfl, rfl, rfl, rfl, rfl, rfl, rfl, rfl, rfl, rfl, rfl, rfl, rfl, rfl⟩))⟩⟩) hP hD hS
          · skip
            refine lv_aload_n hx hb dX7_copy_64 rfl (lv_at hl 0 rfl) ?_
            refine lv_iconst (v := nI (2)) hx hb dX7_copy_65 (by decide) ?_
            refine w_cVi (rest := []) hx hb hml hown hts (m_fails l D b cI cJ cZ A (va_up v 0 (va_up (v 0) 0 (0))) c 2  ) 1 gX7_copy_X7_fails rfl hdX7_fails ⟨Nat.le_of_ble_eq_true rfl, Nat.le_of_ble_eq_true rfl⟩ hK hN hP hD hS hA 0 7 rfl rfl rfl rfl hl.1 rfl (Nat.le_of_ble_eq_true rfl) dX7_copy_66 ⟨Nat.le_of_ble_eq_true rfl, Nat.le_of_ble_eq_true rfl⟩ (fun r u H locs hq hP hD hS => ?_)
            obtain ⟨rfl, rfl⟩ := hq
            have hP : va_P D vwCl (mW b cI cJ cZ (va_up v 0 (va_up (v 0) 0 (2))) c) H := hP
            have hD : va_D A (mW b cI cJ cZ (va_up v 0 (va_up (v 0) 0 (2))) c) := hD
            exact hret ((-10) - (nI (2))) (va_up v 0 (va_up (v 0) 0 (2)), c) _ _ 69 _ dX7_copy_69 rfl (by exact ⟨MI_rd hI ⟨rfl, rfl, rfl, rfl, rfl, rfl, rfl, rfl, rfl, rfl, rfl, rfl, rfl⟩ (hsp), Or.inr ⟨j_6, j_13, h_6, h_13, rfl, rfl, Or.inr (Or.inl ⟨m_nn hI h_6 c29, m_nn hI h_13 c40, by rw [m_eq c29, m_eq c40]; exact c61, by decide, rfl, rfl, rfl, rfl, rfl, rfl, rfl, rfl, rfl, rfl, rfl, rfl, rfl, rfl⟩)⟩⟩) hP hD hS
        · skip
          refine lv_aload_n hx hb dX7_copy_43 rfl (lv_at hl 0 rfl) ?_
          refine lv_iconst (v := nI (1)) hx hb dX7_copy_44 (by decide) ?_
          refine w_cVi (rest := []) hx hb hml hown hts (m_fails l D b cI cJ cZ A (va_up v 0 (va_up (v 0) 0 (0))) c 1  ) 1 gX7_copy_X7_fails rfl hdX7_fails ⟨Nat.le_of_ble_eq_true rfl, Nat.le_of_ble_eq_true rfl⟩ hK hN hP hD hS hA 0 7 rfl rfl rfl rfl hl.1 rfl (Nat.le_of_ble_eq_true rfl) dX7_copy_45 ⟨Nat.le_of_ble_eq_true rfl, Nat.le_of_ble_eq_true rfl⟩ (fun r u H locs hq hP hD hS => ?_)
          obtain ⟨rfl, rfl⟩ := hq
          have hP : va_P D vwCl (mW b cI cJ cZ (va_up v 0 (va_up (v 0) 0 (1))) c) H := hP
          have hD : va_D A (mW b cI cJ cZ (va_up v 0 (va_up (v 0) 0 (1))) c) := hD
          exact hret ((-10) - (nI (1))) (va_up v 0 (va_up (v 0) 0 (1)), c) _ _ 48 _ dX7_copy_48 rfl (by first | (exact ⟨MI_rd hI ⟨rfl, rfl, rfl, rfl, rfl, rfl, rfl, rfl, rfl, rfl, rfl, rfl, rfl⟩ (hsp), Or.inr ⟨j_6, j_13, h_6, h_13, rfl, rfl, Or.inl ⟨Or.inl (m_no c29), by decide, rfl, rfl, rfl, rfl, rfl, rfl, rfl, rfl, rfl, rfl, rfl, rfl, rfl, rfl⟩⟩⟩) | (exact ⟨MI_rd hI ⟨rfl, rfl, rfl, rfl, rfl, rfl, rfl, rfl, rfl, rfl, rfl, rfl, rfl⟩ (hsp), Or.inr ⟨j_6, j_13, h_6, h_13, rfl, rfl, Or.inl ⟨Or.inr (m_no c40), by decide, rfl, rfl, rfl, rfl, rfl, rfl, rfl, rfl, rfl, rfl, rfl, rfl, rfl, rfl⟩⟩⟩)) hP hD hS
    · skip
      have hP : va_P D vwCl (mW b cI cJ cZ (va_up v 0 (va_up (v 0) 0 (0))) c) H := hP
      have hD : va_D A (mW b cI cJ cZ (va_up v 0 (va_up (v 0) 0 (0))) c) := hD
      refine w_if_ne (x := 0) hx hb dX7_copy_16 (tgt := 21) (by decide) (by decide) (fun h => absurd h (by decide)) (fun _ => ?_)
      refine lv_iconst (v := -1) hx hb dX7_copy_19 (by decide) ?_
      exact hret ((-1)) (va_up v 0 (va_up (v 0) 0 (0)), c) _ _ 20 _ dX7_copy_20 rfl (by first | exact ⟨MI_rd hI ⟨rfl, rfl, rfl, rfl, rfl, rfl, rfl, rfl, rfl, rfl, rfl, rfl, rfl⟩ (hsp), Or.inl ⟨Or.inl (nR_of (by decide) (by omega)), rfl, rfl, rfl, rfl, rfl, rfl, rfl, rfl, rfl, rfl, rfl, rfl, rfl, rfl, rfl⟩⟩ | exact ⟨MI_rd hI ⟨rfl, rfl, rfl, rfl, rfl, rfl, rfl, rfl, rfl, rfl, rfl, rfl, rfl⟩ (hsp), Or.inl ⟨Or.inr (nR_of (by decide) (by omega)), rfl, rfl, rfl, rfl, rfl, rfl, rfl, rfl, rfl, rfl, rfl, rfl, rfl, rfl, rfl⟩⟩) hP hD hS
  · skip
    have hP : va_P D vwCl (mW b cI cJ cZ (va_up v 0 (va_up (v 0) 0 (0))) c) H := hP
    have hD : va_D A (mW b cI cJ cZ (va_up v 0 (va_up (v 0) 0 (0))) c) := hD
    refine w_if_eq (x := 0) hx hb dX7_copy_9 (tgt := 19) (by decide) (by decide) (fun _ => ?_) (fun h => absurd h (by decide))
    refine lv_iconst (v := -1) hx hb dX7_copy_19 (by decide) ?_
    exact hret ((-1)) (va_up v 0 (va_up (v 0) 0 (0)), c) _ _ 20 _ dX7_copy_20 rfl (by first | exact ⟨MI_rd hI ⟨rfl, rfl, rfl, rfl, rfl, rfl, rfl, rfl, rfl, rfl, rfl, rfl, rfl⟩ (hsp), Or.inl ⟨Or.inl (nR_of (by decide) (by omega)), rfl, rfl, rfl, rfl, rfl, rfl, rfl, rfl, rfl, rfl, rfl, rfl, rfl, rfl, rfl⟩⟩ | exact ⟨MI_rd hI ⟨rfl, rfl, rfl, rfl, rfl, rfl, rfl, rfl, rfl, rfl, rfl, rfl, rfl⟩ (hsp), Or.inl ⟨Or.inr (nR_of (by decide) (by omega)), rfl, rfl, rfl, rfl, rfl, rfl, rfl, rfl, rfl, rfl, rfl, rfl, rfl, rfl, rfl⟩⟩) hP hD hS
