/-! ===== the class's calls that only read ===== -/
theorem nR_lt {x : Int32} {n : Nat} (hn : n < 2147483648) (h : nR x n) : x.toInt < 0 ∨ (n : Int) ≤ x.toInt := by
  refine Classical.byContradiction (fun z => h ?_)
  obtain ⟨q, hq, rfl⟩ := r_nat (x := x) (by omega)
  rw [n_tI hq] at z
  exact ⟨q, by omega, rfl⟩
theorem n3_cases (x : Int32) : x = nI 0 ∨ x = nI 1 ∨ x = nI 2 ∨ nR x 3 := by
  by_cases h : ∃ j, j < 3 ∧ x = nI j
  · obtain ⟨j, hj, rfl⟩ := h
    rcases (show j = 0 ∨ j = 1 ∨ j = 2 by omega) with rfl | rfl | rfl
    · exact Or.inl rfl
    · exact Or.inr (Or.inl rfl)
    · exact Or.inr (Or.inr (Or.inl rfl))
  · exact Or.inr (Or.inr (Or.inr h))
theorem n4_cases (x : Int32) : x = nI 0 ∨ x = nI 1 ∨ x = nI 2 ∨ x = nI 3 ∨ nR x 4 := by
  by_cases h : ∃ j, j < 4 ∧ x = nI j
  · obtain ⟨j, hj, rfl⟩ := h
    rcases (show j = 0 ∨ j = 1 ∨ j = 2 ∨ j = 3 by omega) with rfl | rfl | rfl | rfl
    · exact Or.inl rfl
    · exact Or.inr (Or.inl rfl)
    · exact Or.inr (Or.inr (Or.inl rfl))
    · exact Or.inr (Or.inr (Or.inr (Or.inl rfl)))
  · exact Or.inr (Or.inr (Or.inr (Or.inr h)))
set_option maxHeartbeats 4000000 in
set_option maxRecDepth 100000 in
theorem t_ofDancer (l : Launch) (D : va_G) (a : Nat → Nat) (cI cJ cZ : ClassId) (A : Nat → Prop) (v : Nat → Nat → Nat) (c : Nat → Nat → Int32) (x : Int32) (y : Int32) (hI : XI v) :
    mI l yX6_ofDancer wsX6_ofDancer 2 42 [.ref (a 0), .int x, .int y] D (xT cI cJ cZ) A (xW a cI cJ cZ v c) (fun _ : Unit => xW a cI cJ cZ v c)
    (fun (r : Int32) (u : Unit) => sp_ofDancer (v 15 0) (v 16) (v 17) x y r) := by
  refine w_bI cX6_ofDancer 3 .int (by decide) rfl (Nat.le_of_ble_eq_true rfl) (Or.inl rfl) ?_
  intro p e s m args below meth c0 ls Q hx hb hml hts hown hK hN hA hret hP hD hS hl
  have hl : lv_has ls 3 [(0, .ref (a 0)), (1, .int x), (2, .int y)] := hl
  have hinX6 : ∀ w ∈ wsX60, w ∈ wsX6_ofDancer := fun w h => List.mem_cons_of_mem _ (List.mem_append_left _ (List.mem_append_right _ h))
  obtain ⟨hnb, hnd, hbt, hfg, hne, hnc, hdk, hnf, hkn, hln, hst, hdc, hsp⟩ := id hI
  refine lv_aload_n hx hb dX6_ofDancer_0 rfl (lv_at hl 0 rfl) ?_
  refine va_get (D := D) (ci := 6) (v := .ref (a 15)) (C := RX6) (T := TX6) (N := 9) hx hb hts hinX6 hown hK hP 0 rfl rfl 4 (by decide) (hts (.fieldLink RX6 41 "DancedLock" "troupe" "LDancedLock$Troupe;") (List.mem_of_getElem? (i := 1) rfl)) (fun _ h9 => h9) rfl dX6_ofDancer_1 ?_
  refine lv_iload_n hx hb dX6_ofDancer_4 rfl (lv_at hl 1 rfl) ?_
  refine w_cVi (rest := []) hx hb hml hown hts (k_tincl_R l D a cI cJ cZ A v c x  (by first | assumption | omega)) 1 gX6_ofDancer_X5_includes rfl hdX5_includes ⟨Nat.le_of_ble_eq_true rfl, Nat.le_of_ble_eq_true rfl⟩ hK hN hP hD hS hA 15 5 rfl rfl rfl rfl hl.1 rfl (Nat.le_of_ble_eq_true rfl) dX6_ofDancer_5 ⟨Nat.le_of_ble_eq_true rfl, Nat.le_of_ble_eq_true rfl⟩ (fun r u H locs hq hP hD hS => ?_)
  rcases hq with ⟨j_5, rfl, h_5, hs_x_5⟩ | ⟨rfl, h_5⟩
  · skip
    have hP : va_P D vwCl (xW a cI cJ cZ v c) H := hP
    have hD : va_D A (xW a cI cJ cZ v c) := hD
    subst hs_x_5
    have j_5T := n_tI (k := j_5) (by omega)
    refine w_if_ne (x := 1) hx hb dX6_ofDancer_8 (tgt := 13) (by decide) (by decide) (fun _ => ?_) (fun h => absurd h (by decide))
    refine lv_iload_n hx hb dX6_ofDancer_13 rfl (lv_at hl 2 rfl) ?_
    rcases n3_cases y with rfl | rfl | rfl | hno
    · skip
      refine lv_tableIn (tgt := 40) hx hb dX6_ofDancer_14 (by decide) (by decide) (off := 26) (by decide) (by decide) ?_
      refine lv_aload_n hx hb dX6_ofDancer_40 rfl (lv_at hl 0 rfl) ?_
      refine va_get (D := D) (ci := 6) (v := .ref (a 15)) (C := RX6) (T := TX6) (N := 9) hx hb hts hinX6 hown hK hP 0 rfl rfl 4 (by decide) (hts (.fieldLink RX6 41 "DancedLock" "troupe" "LDancedLock$Troupe;") (List.mem_of_getElem? (i := 1) rfl)) (fun _ h9 => h9) rfl dX6_ofDancer_41 ?_
      refine lv_iload_n hx hb dX6_ofDancer_44 rfl (lv_at hl 1 rfl) ?_
      refine w_cVi (rest := []) hx hb hml hown hts (k_kindOf l D a cI cJ cZ A v c j_5  (by first | assumption | omega) (by first | assumption | omega)) 1 gX6_ofDancer_X5_kindOf rfl hdX5_kindOf ⟨Nat.le_of_ble_eq_true rfl, Nat.le_of_ble_eq_true rfl⟩ hK hN hP hD hS hA 15 5 rfl rfl rfl rfl hl.1 rfl (Nat.le_of_ble_eq_true rfl) dX6_ofDancer_45 ⟨Nat.le_of_ble_eq_true rfl, Nat.le_of_ble_eq_true rfl⟩ (fun r u H locs hq hP hD hS => ?_)
      obtain rfl := hq
      have hP : va_P D vwCl (xW a cI cJ cZ v c) H := hP
      have hD : va_D A (xW a cI cJ cZ v c) := hD
      exact hret (nI ((v 16) j_5)) () _ _ 48 _ dX6_ofDancer_48 rfl (by exact Or.inl ⟨j_5, h_5, rfl, Or.inl ⟨rfl, rfl⟩⟩) hP hD hS
    · skip
      refine lv_tableIn (tgt := 49) hx hb dX6_ofDancer_14 (by decide) (by decide) (off := 35) (by decide) (by decide) ?_
      refine lv_aload_n hx hb dX6_ofDancer_49 rfl (lv_at hl 0 rfl) ?_
      refine va_get (D := D) (ci := 6) (v := .ref (a 15)) (C := RX6) (T := TX6) (N := 9) hx hb hts hinX6 hown hK hP 0 rfl rfl 4 (by decide) (hts (.fieldLink RX6 41 "DancedLock" "troupe" "LDancedLock$Troupe;") (List.mem_of_getElem? (i := 1) rfl)) (fun _ h9 => h9) rfl dX6_ofDancer_50 ?_
      refine lv_iload_n hx hb dX6_ofDancer_53 rfl (lv_at hl 1 rfl) ?_
      refine w_cVi (rest := []) hx hb hml hown hts (k_weightOf l D a cI cJ cZ A v c j_5  (by first | assumption | omega) (by first | assumption | omega)) 1 gX6_ofDancer_X5_weightOf rfl hdX5_weightOf ⟨Nat.le_of_ble_eq_true rfl, Nat.le_of_ble_eq_true rfl⟩ hK hN hP hD hS hA 15 5 rfl rfl rfl rfl hl.1 rfl (Nat.le_of_ble_eq_true rfl) dX6_ofDancer_54 ⟨Nat.le_of_ble_eq_true rfl, Nat.le_of_ble_eq_true rfl⟩ (fun r u H locs hq hP hD hS => ?_)
      obtain rfl := hq
      have hP : va_P D vwCl (xW a cI cJ cZ v c) H := hP
      have hD : va_D A (xW a cI cJ cZ v c) := hD
      exact hret (nI ((v 17) j_5)) () _ _ 57 _ dX6_ofDancer_57 rfl (by exact Or.inl ⟨j_5, h_5, rfl, Or.inr (Or.inl ⟨rfl, rfl⟩)⟩) hP hD hS
    · skip
      refine lv_tableIn (tgt := 58) hx hb dX6_ofDancer_14 (by decide) (by decide) (off := 44) (by decide) (by decide) ?_
      refine lv_aload_n hx hb dX6_ofDancer_58 rfl (lv_at hl 0 rfl) ?_
      refine va_get (D := D) (ci := 6) (v := .ref (a 15)) (C := RX6) (T := TX6) (N := 9) hx hb hts hinX6 hown hK hP 0 rfl rfl 4 (by decide) (hts (.fieldLink RX6 41 "DancedLock" "troupe" "LDancedLock$Troupe;") (List.mem_of_getElem? (i := 1) rfl)) (fun _ h9 => h9) rfl dX6_ofDancer_59 ?_
      refine lv_iload_n hx hb dX6_ofDancer_62 rfl (lv_at hl 1 rfl) ?_
      refine w_cVi (rest := []) hx hb hml hown hts (k_kindOf l D a cI cJ cZ A v c j_5  (by first | assumption | omega) (by first | assumption | omega)) 1 gX6_ofDancer_X5_kindOf rfl hdX5_kindOf ⟨Nat.le_of_ble_eq_true rfl, Nat.le_of_ble_eq_true rfl⟩ hK hN hP hD hS hA 15 5 rfl rfl rfl rfl hl.1 rfl (Nat.le_of_ble_eq_true rfl) dX6_ofDancer_63 ⟨Nat.le_of_ble_eq_true rfl, Nat.le_of_ble_eq_true rfl⟩ (fun r u H locs hq hP hD hS => ?_)
      obtain rfl := hq
      have hP : va_P D vwCl (xW a cI cJ cZ v c) H := hP
      have hD : va_D A (xW a cI cJ cZ v c) := hD
      refine lv_aload_n hx hb dX6_ofDancer_66 rfl (lv_at hl 0 rfl) ?_
      refine va_get (D := D) (ci := 6) (v := .ref (a 15)) (C := RX6) (T := TX6) (N := 9) hx hb hts hinX6 hown hK hP 0 rfl rfl 4 (by decide) (hts (.fieldLink RX6 41 "DancedLock" "troupe" "LDancedLock$Troupe;") (List.mem_of_getElem? (i := 1) rfl)) (fun _ h9 => h9) rfl dX6_ofDancer_67 ?_
      refine lv_iload_n hx hb dX6_ofDancer_70 rfl (lv_at hl 1 rfl) ?_
      refine w_cVi (rest := [.int (nI ((v 16) j_5))]) hx hb hml hown hts (k_weightOf l D a cI cJ cZ A v c j_5  (by first | assumption | omega) (by first | assumption | omega)) 1 gX6_ofDancer_X5_weightOf rfl hdX5_weightOf ⟨Nat.le_of_ble_eq_true rfl, Nat.le_of_ble_eq_true rfl⟩ hK hN hP hD hS hA 15 5 rfl rfl rfl rfl hl.1 rfl (Nat.le_of_ble_eq_true rfl) dX6_ofDancer_71 ⟨Nat.le_of_ble_eq_true rfl, Nat.le_of_ble_eq_true rfl⟩ (fun r u H locs hq hP hD hS => ?_)
      obtain rfl := hq
      have hP : va_P D vwCl (xW a cI cJ cZ v c) H := hP
      have hD : va_D A (xW a cI cJ cZ v c) := hD
      have hkd := hdk j_5 h_5
      refine w_cSi (rest := []) hx hb hml hown hts (k_pull l D a cI cJ cZ A v c ((v 16) j_5) ((v 17) j_5)  (by first | assumption | omega) (by first | assumption | omega)) 2 gX6_ofDancer_X5_pull rfl hdX5_pull ⟨Nat.le_of_ble_eq_true rfl, Nat.le_of_ble_eq_true rfl⟩ hK hN hP hD hS hA rfl hl.1 rfl (Nat.le_of_ble_eq_true rfl) dX6_ofDancer_74 ⟨Nat.le_of_ble_eq_true rfl, Nat.le_of_ble_eq_true rfl⟩ (fun r u H locs hq hP hD hS => ?_)
      obtain rfl := hq
      have hP : va_P D vwCl (xW a cI cJ cZ v c) H := hP
      have hD : va_D A (xW a cI cJ cZ v c) := hD
      exact hret (nI (if ((v 16) j_5) = 2 then ((v 17) j_5) / 2 else ((v 17) j_5))) () _ _ 77 _ dX6_ofDancer_77 rfl (by exact Or.inl ⟨j_5, h_5, rfl, Or.inr (Or.inr (Or.inl ⟨rfl, rfl⟩))⟩) hP hD hS
    · skip
      refine lv_tableOut (tgt := 78) hx hb dX6_ofDancer_14 (by have h9 := nR_lt (by decide) hno; omega) (by decide) ?_
      refine lv_bipush (v := -2) hx hb dX6_ofDancer_78 (by decide) ?_
      exact hret ((-2)) () _ _ 80 _ dX6_ofDancer_80 rfl (by exact Or.inl ⟨j_5, h_5, rfl, Or.inr (Or.inr (Or.inr ⟨hno, rfl⟩))⟩) hP hD hS
  · skip
    have hP : va_P D vwCl (xW a cI cJ cZ v c) H := hP
    have hD : va_D A (xW a cI cJ cZ v c) := hD
    refine w_if_ne (x := 0) hx hb dX6_ofDancer_8 (tgt := 13) (by decide) (by decide) (fun h => absurd h (by decide)) (fun _ => ?_)
    refine lv_iconst (v := -1) hx hb dX6_ofDancer_11 (by decide) ?_
    exact hret ((-1)) () _ _ 12 _ dX6_ofDancer_12 rfl (by exact Or.inr ⟨nR_of (by omega) h_5, rfl⟩) hP hD hS
