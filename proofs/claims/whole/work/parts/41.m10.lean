/-! ===== the model's lock ===== -/
set_option maxHeartbeats 1600000 in
set_option maxRecDepth 100000 in
theorem s_lock (l : Launch) (D : va_G) (b : Nat → Nat) (cI cJ cZ : ClassId) (A : Nat → Prop) (v : Nat → Nat → Nat) (c : Nat → Nat → Int32) (sh : Int32) (so : Int32) (ii : Int32) (qq : Int32) (hI : MI v c) :
    mI l yX7_lock wsX7_lock 5 115 [.ref (b 0), .int sh, .int so, .int ii, .int qq] D (xT cI cJ cZ) A (mW b cI cJ cZ v c) (fun u : ((Nat → Nat → Nat) × (Nat → Nat → Int32)) => mW b cI cJ cZ u.1 u.2)
    (fun (r : Int32) (u : ((Nat → Nat → Nat) × (Nat → Nat → Int32))) => MI u.1 u.2 ∧ sp_lock (vM v) (cM c) (vM u.1, cM u.2) sh so ii qq r) := by
  refine w_bI cX7_lock 9 .int (by decide) rfl (Nat.le_of_ble_eq_true rfl) (Or.inl rfl) ?_
  intro p e s m args below meth c0 ls Q hx hb hml hts hown hK hN hA hret hP hD hS hl
  have hl : lv_has ls 9 [(0, .ref (b 0)), (1, .int sh), (2, .int so), (3, .int ii), (4, .int qq)] := hl
  have hinX7 : ∀ w ∈ wsX70, w ∈ wsX7_lock := fun w h => List.mem_cons_of_mem _ (List.mem_append_right _ h)
  obtain ⟨hnb, hnd, hbt, hfg, hne, hnc, hdk, hnf, hkn, hln, hst, hdc, hsp⟩ := MI_o hI
  refine lv_aload_n hx hb dX7_lock_0 rfl (lv_at hl 0 rfl) ?_
  refine lv_iconst (v := nI (0)) hx hb dX7_lock_1 (by decide) ?_
  refine va_put (D := D) (ci := 7) (v := .int (nI (0))) (ty := .int) (C := RX7) (T := TX7) (N := 24) hx hb hts hinX7 tyX7 tyX7_ok nmX7 hown hK hP hD hS 0 rfl rfl 0 (by decide) (hts (.fieldLink RX7 53 "DancedLockModel" "fault" "I") (List.mem_of_getElem? (i := 1) rfl)) (fun _ h9 => h9) rfl (by decide +kernel) rfl (rfl) (Nat.le_of_ble_eq_true rfl) dX7_lock_2 (fun H locs hP hD hS => ?_)
  have hP : va_P D vwCl (mW b cI cJ cZ (va_up v 0 (va_up (v 0) 0 (0))) c) H := hP
  have hD : va_D A (mW b cI cJ cZ (va_up v 0 (va_up (v 0) 0 (0))) c) := hD
  refine lv_iload_n hx hb dX7_lock_5 rfl (lv_at hl 1 rfl) ?_
  refine w_cSi (rest := []) hx hb hml hown hts (m_isSheet l D b cI cJ cZ A (va_up v 0 (va_up (v 0) 0 (0))) c sh  ) 1 gX7_lock_X7_isSheet rfl hdX7_isSheet ⟨Nat.le_of_ble_eq_true rfl, Nat.le_of_ble_eq_true rfl⟩ hK hN hP hD hS hA rfl hl.1 rfl (Nat.le_of_ble_eq_true rfl) dX7_lock_6 ⟨Nat.le_of_ble_eq_true rfl, Nat.le_of_ble_eq_true rfl⟩ (fun r u H locs hq hP hD hS => ?_)
  rcases hq with ⟨j_6, rfl, h_6, hs_x_6⟩ | ⟨rfl, h_6⟩
  · skip
    have hP : va_P D vwCl (mW b cI cJ cZ (va_up v 0 (va_up (v 0) 0 (0))) c) H := hP
    have hD : va_D A (mW b cI cJ cZ (va_up v 0 (va_up (v 0) 0 (0))) c) := hD
    subst hs_x_6
    have j_6T := n_tI (k := j_6) (by omega)
    refine w_if_ne (x := 1) hx hb dX7_lock_9 (tgt := 14) (by decide) (by decide) (fun _ => ?_) (fun h => absurd h (by decide))
    refine lv_iload_n hx hb dX7_lock_14 rfl (lv_at hl 2 rfl) ?_
    refine w_cSi (rest := []) hx hb hml hown hts (m_isSort l D b cI cJ cZ A (va_up v 0 (va_up (v 0) 0 (0))) c so  ) 1 gX7_lock_X7_isSort rfl hdX7_isSort ⟨Nat.le_of_ble_eq_true rfl, Nat.le_of_ble_eq_true rfl⟩ hK hN hP hD hS hA rfl hl.1 rfl (Nat.le_of_ble_eq_true rfl) dX7_lock_15 ⟨Nat.le_of_ble_eq_true rfl, Nat.le_of_ble_eq_true rfl⟩ (fun r u H locs hq hP hD hS => ?_)
    rcases hq with ⟨j_15, rfl, h_15, hs_x_15⟩ | ⟨rfl, h_15⟩
    · skip
      have hP : va_P D vwCl (mW b cI cJ cZ (va_up v 0 (va_up (v 0) 0 (0))) c) H := hP
      have hD : va_D A (mW b cI cJ cZ (va_up v 0 (va_up (v 0) 0 (0))) c) := hD
      subst hs_x_15
      have j_15T := n_tI (k := j_15) (by omega)
      refine w_if_ne (x := 1) hx hb dX7_lock_18 (tgt := 24) (by decide) (by decide) (fun _ => ?_) (fun h => absurd h (by decide))
      refine lv_aload_n hx hb dX7_lock_24 rfl (lv_at hl 0 rfl) ?_
      refine lv_iload_n hx hb dX7_lock_25 rfl (lv_at hl 1 rfl) ?_
      refine lv_iload_n hx hb dX7_lock_26 rfl (lv_at hl 2 rfl) ?_
      refine lv_iload_n hx hb dX7_lock_27 rfl (lv_at hl 3 rfl) ?_
      refine lv_iload hx hb dX7_lock_28 (lv_at hl 4 rfl) ?_
      refine w_cVi (rest := []) hx hb hml hown hts (m_against l D b cI cJ cZ A (va_up v 0 (va_up (v 0) 0 (0))) c j_6 j_15 ii qq  (by exact h_6) (by show (v 3) j_6 ≤ 80; exact hln _ h_6)) 4 gX7_lock_X7_against rfl hdX7_against ⟨Nat.le_of_ble_eq_true rfl, Nat.le_of_ble_eq_true rfl⟩ hK hN hP hD hS hA 0 7 rfl rfl rfl rfl hl.1 rfl (Nat.le_of_ble_eq_true rfl) dX7_lock_30 ⟨Nat.le_of_ble_eq_true rfl, Nat.le_of_ble_eq_true rfl⟩ (fun r u H locs hq hP hD hS => ?_)
      rcases hq with ⟨rfl, h1_30, h2_30⟩ | ⟨rfl, h1_30⟩ | ⟨rfl, h1_30, h2_30, h3_30⟩ | ⟨rfl, h1_30, h2_30, h3_30, h4_30⟩ | ⟨rfl, h1_30, h2_30, h3_30, h4_30, h5_30⟩
      · skip
        have h1_30 : ¬ (c 2) j_6 = -9 := h1_30
        have h2_30 : ¬ (c 2) j_6 = nI j_15 := h2_30
        have hP : va_P D vwCl (mW b cI cJ cZ (va_up v 0 (va_up (v 0) 0 (0))) c) H := hP
        have hD : va_D A (mW b cI cJ cZ (va_up v 0 (va_up (v 0) 0 (0))) c) := hD
        refine lv_istore (lv' := [(5, .int (nI (2))), (0, .ref (b 0)), (1, .int (nI (j_6))), (2, .int (nI (j_15))), (3, .int ii), (4, .int qq)]) hx hb dX7_lock_33 hl (by decide) rfl (fun ls hl => ?_)
        refine lv_iload hx hb dX7_lock_35 (lv_at hl 0 rfl) ?_
        refine w_if_eq (x := 2) hx hb dX7_lock_37 (tgt := 47) (by decide) (by decide) (fun h => absurd h (by decide)) (fun _ => ?_)
        refine lv_aload_n hx hb dX7_lock_40 rfl (lv_at hl 1 rfl) ?_
        refine lv_iload hx hb dX7_lock_41 (lv_at hl 0 rfl) ?_
        refine w_cVi (rest := []) hx hb hml hown hts (m_fails l D b cI cJ cZ A (va_up v 0 (va_up (v 0) 0 (0))) c 2  ) 1 gX7_lock_X7_fails rfl hdX7_fails ⟨Nat.le_of_ble_eq_true rfl, Nat.le_of_ble_eq_true rfl⟩ hK hN hP hD hS hA 0 7 rfl rfl rfl rfl hl.1 rfl (Nat.le_of_ble_eq_true rfl) dX7_lock_43 ⟨Nat.le_of_ble_eq_true rfl, Nat.le_of_ble_eq_true rfl⟩ (fun r u H locs hq hP hD hS => ?_)
        obtain ⟨rfl, rfl⟩ := hq
        have hP : va_P D vwCl (mW b cI cJ cZ (va_up v 0 (va_up (v 0) 0 (2))) c) H := hP
        have hD : va_D A (mW b cI cJ cZ (va_up v 0 (va_up (v 0) 0 (2))) c) := hD
        exact hret ((-10) - (nI (2))) (va_up v 0 (va_up (v 0) 0 (2)), c) _ _ 46 _ dX7_lock_46 rfl (by exact ⟨MI_rd hI ⟨rfl, rfl, rfl, rfl, rfl, rfl, rfl, rfl, rfl, rfl, rfl, rfl, rfl⟩ (hsp), Or.inl ⟨_, tbo_3 (c2 := cM c 2) id h_6 h_15 (m_nn hI h_6 h1_30) (m_hn h1_30 h2_30), rfl, rfl, rfl, rfl, rfl, rfl, rfl, rfl, rfl, rfl, rfl, rfl, rfl, rfl⟩⟩) hP hD hS
      · skip
        have h1_30 : (c 2) j_6 = -9 := h1_30
        have hP : va_P D vwCl (mW b cI cJ cZ (va_up v 0 (va_up (v 0) 0 (0))) c) H := hP
        have hD : va_D A (mW b cI cJ cZ (va_up v 0 (va_up (v 0) 0 (0))) c) := hD
        refine lv_istore (lv' := [(5, .int (nI (1))), (0, .ref (b 0)), (1, .int (nI (j_6))), (2, .int (nI (j_15))), (3, .int ii), (4, .int qq)]) hx hb dX7_lock_33 hl (by decide) rfl (fun ls hl => ?_)
        refine lv_iload hx hb dX7_lock_35 (lv_at hl 0 rfl) ?_
        refine w_if_eq (x := 1) hx hb dX7_lock_37 (tgt := 47) (by decide) (by decide) (fun h => absurd h (by decide)) (fun _ => ?_)
        refine lv_aload_n hx hb dX7_lock_40 rfl (lv_at hl 1 rfl) ?_
        refine lv_iload hx hb dX7_lock_41 (lv_at hl 0 rfl) ?_
        refine w_cVi (rest := []) hx hb hml hown hts (m_fails l D b cI cJ cZ A (va_up v 0 (va_up (v 0) 0 (0))) c 1  ) 1 gX7_lock_X7_fails rfl hdX7_fails ⟨Nat.le_of_ble_eq_true rfl, Nat.le_of_ble_eq_true rfl⟩ hK hN hP hD hS hA 0 7 rfl rfl rfl rfl hl.1 rfl (Nat.le_of_ble_eq_true rfl) dX7_lock_43 ⟨Nat.le_of_ble_eq_true rfl, Nat.le_of_ble_eq_true rfl⟩ (fun r u H locs hq hP hD hS => ?_)
        obtain ⟨rfl, rfl⟩ := hq
        have hP : va_P D vwCl (mW b cI cJ cZ (va_up v 0 (va_up (v 0) 0 (1))) c) H := hP
        have hD : va_D A (mW b cI cJ cZ (va_up v 0 (va_up (v 0) 0 (1))) c) := hD
        exact hret ((-10) - (nI (1))) (va_up v 0 (va_up (v 0) 0 (1)), c) _ _ 46 _ dX7_lock_46 rfl (by exact ⟨MI_rd hI ⟨rfl, rfl, rfl, rfl, rfl, rfl, rfl, rfl, rfl, rfl, rfl, rfl, rfl⟩ (hsp), Or.inl ⟨_, tbo_2 (c2 := cM c 2) id h_6 h_15 (m_no h1_30), rfl, rfl, rfl, rfl, rfl, rfl, rfl, rfl, rfl, rfl, rfl, rfl, rfl, rfl⟩⟩) hP hD hS
      · skip
        have h1_30 : ¬ (c 2) j_6 = -9 := h1_30
        have h2_30 : (c 2) j_6 = nI j_15 := h2_30
        have hP : va_P D vwCl (mW b cI cJ cZ (va_up v 0 (va_up (v 0) 0 (0))) c) H := hP
        have hD : va_D A (mW b cI cJ cZ (va_up v 0 (va_up (v 0) 0 (0))) c) := hD
        refine lv_istore (lv' := [(5, .int (nI (4))), (0, .ref (b 0)), (1, .int (nI (j_6))), (2, .int (nI (j_15))), (3, .int ii), (4, .int qq)]) hx hb dX7_lock_33 hl (by decide) rfl (fun ls hl => ?_)
        refine lv_iload hx hb dX7_lock_35 (lv_at hl 0 rfl) ?_
        refine w_if_eq (x := 4) hx hb dX7_lock_37 (tgt := 47) (by decide) (by decide) (fun h => absurd h (by decide)) (fun _ => ?_)
        refine lv_aload_n hx hb dX7_lock_40 rfl (lv_at hl 1 rfl) ?_
        refine lv_iload hx hb dX7_lock_41 (lv_at hl 0 rfl) ?_
        refine w_cVi (rest := []) hx hb hml hown hts (m_fails l D b cI cJ cZ A (va_up v 0 (va_up (v 0) 0 (0))) c 4  ) 1 gX7_lock_X7_fails rfl hdX7_fails ⟨Nat.le_of_ble_eq_true rfl, Nat.le_of_ble_eq_true rfl⟩ hK hN hP hD hS hA 0 7 rfl rfl rfl rfl hl.1 rfl (Nat.le_of_ble_eq_true rfl) dX7_lock_43 ⟨Nat.le_of_ble_eq_true rfl, Nat.le_of_ble_eq_true rfl⟩ (fun r u H locs hq hP hD hS => ?_)
        obtain ⟨rfl, rfl⟩ := hq
        have hP : va_P D vwCl (mW b cI cJ cZ (va_up v 0 (va_up (v 0) 0 (4))) c) H := hP
        have hD : va_D A (mW b cI cJ cZ (va_up v 0 (va_up (v 0) 0 (4))) c) := hD
        exact hret ((-10) - (nI (4))) (va_up v 0 (va_up (v 0) 0 (4)), c) _ _ 46 _ dX7_lock_46 rfl (by exact ⟨MI_rd hI ⟨rfl, rfl, rfl, rfl, rfl, rfl, rfl, rfl, rfl, rfl, rfl, rfl, rfl⟩ (hsp), Or.inl ⟨_, tbo_4 (c2 := cM c 2) id h_6 h_15 (m_has h_15 h2_30) h3_30, rfl, rfl, rfl, rfl, rfl, rfl, rfl, rfl, rfl, rfl, rfl, rfl, rfl, rfl⟩⟩) hP hD hS
      · skip
        have h1_30 : ¬ (c 2) j_6 = -9 := h1_30
        have h2_30 : (c 2) j_6 = nI j_15 := h2_30
        have h4_30 : ii.toInt < 0 ∨ ((v 3) j_6 : Int) < ii.toInt + qq.toInt := h4_30
        have hP : va_P D vwCl (mW b cI cJ cZ (va_up v 0 (va_up (v 0) 0 (0))) c) H := hP
        have hD : va_D A (mW b cI cJ cZ (va_up v 0 (va_up (v 0) 0 (0))) c) := hD
        refine lv_istore (lv' := [(5, .int (nI (3))), (0, .ref (b 0)), (1, .int (nI (j_6))), (2, .int (nI (j_15))), (3, .int ii), (4, .int qq)]) hx hb dX7_lock_33 hl (by decide) rfl (fun ls hl => ?_)
        refine lv_iload hx hb dX7_lock_35 (lv_at hl 0 rfl) ?_
        refine w_if_eq (x := 3) hx hb dX7_lock_37 (tgt := 47) (by decide) (by decide) (fun h => absurd h (by decide)) (fun _ => ?_)
        refine lv_aload_n hx hb dX7_lock_40 rfl (lv_at hl 1 rfl) ?_
        refine lv_iload hx hb dX7_lock_41 (lv_at hl 0 rfl) ?_
        refine w_cVi (rest := []) hx hb hml hown hts (m_fails l D b cI cJ cZ A (va_up v 0 (va_up (v 0) 0 (0))) c 3  ) 1 gX7_lock_X7_fails rfl hdX7_fails ⟨Nat.le_of_ble_eq_true rfl, Nat.le_of_ble_eq_true rfl⟩ hK hN hP hD hS hA 0 7 rfl rfl rfl rfl hl.1 rfl (Nat.le_of_ble_eq_true rfl) dX7_lock_43 ⟨Nat.le_of_ble_eq_true rfl, Nat.le_of_ble_eq_true rfl⟩ (fun r u H locs hq hP hD hS => ?_)
        obtain ⟨rfl, rfl⟩ := hq
        have hP : va_P D vwCl (mW b cI cJ cZ (va_up v 0 (va_up (v 0) 0 (3))) c) H := hP
        have hD : va_D A (mW b cI cJ cZ (va_up v 0 (va_up (v 0) 0 (3))) c) := hD
        exact hret ((-10) - (nI (3))) (va_up v 0 (va_up (v 0) 0 (3)), c) _ _ 46 _ dX7_lock_46 rfl (by exact ⟨MI_rd hI ⟨rfl, rfl, rfl, rfl, rfl, rfl, rfl, rfl, rfl, rfl, rfl, rfl, rfl⟩ (hsp), Or.inl ⟨_, tbo_5 (c2 := cM c 2) id h_6 h_15 (m_has h_15 h2_30) h3_30 h4_30, rfl, rfl, rfl, rfl, rfl, rfl, rfl, rfl, rfl, rfl, rfl, rfl, rfl, rfl⟩⟩) hP hD hS
      · skip
        have h1_30 : ¬ (c 2) j_6 = -9 := h1_30
        have h2_30 : (c 2) j_6 = nI j_15 := h2_30
        have h5_30 : ii.toInt + qq.toInt ≤ (v 3) j_6 := h5_30
        have hP : va_P D vwCl (mW b cI cJ cZ (va_up v 0 (va_up (v 0) 0 (0))) c) H := hP
        have hD : va_D A (mW b cI cJ cZ (va_up v 0 (va_up (v 0) 0 (0))) c) := hD
        refine lv_istore (lv' := [(5, .int (nI (0))), (0, .ref (b 0)), (1, .int (nI (j_6))), (2, .int (nI (j_15))), (3, .int ii), (4, .int qq)]) hx hb dX7_lock_33 hl (by decide) rfl (fun ls hl => ?_)
        refine lv_iload hx hb dX7_lock_35 (lv_at hl 0 rfl) ?_
        refine w_if_eq (x := 0) hx hb dX7_lock_37 (tgt := 47) (by decide) (by decide) (fun _ => ?_) (fun h => absurd h (by decide))
        obtain ⟨ia, iaB, rfl⟩ := r_nat h3_30
        have iaT := n_tI iaB
        obtain ⟨na, naB, rfl⟩ := r_nat h4_30
        have naT := n_tI naB
        have hlk := hln j_6 h_6
        have hjn : ia + na ≤ v 3 j_6 := by omega
        refine lv_bipush (v := nI (80)) hx hb dX7_lock_47 (by decide) ?_
        refine lv_iload_n hx hb dX7_lock_49 rfl (lv_at hl 2 rfl) ?_
        refine w_imul (x := 80) (y := j_6) hx hb dX7_lock_50  ?_
        refine lv_iload_n hx hb dX7_lock_51 rfl (lv_at hl 4 rfl) ?_
        refine w_iadd (x := 80 * j_6) (y := ia) hx hb dX7_lock_52  ?_
        refine lv_istore (lv' := [(6, .int (nI (80 * j_6 + ia))), (5, .int (nI (0))), (0, .ref (b 0)), (1, .int (nI (j_6))), (2, .int (nI (j_15))), (3, .int (nI (ia))), (4, .int (nI (na)))]) hx hb dX7_lock_53 hl (by decide) rfl (fun ls hl => ?_)
        refine lv_aload_n hx hb dX7_lock_55 rfl (lv_at hl 2 rfl) ?_
        refine lv_iload hx hb dX7_lock_56 (lv_at hl 0 rfl) ?_
        refine va_put (D := D) (ci := 7) (v := .int (nI (80 * j_6 + ia))) (ty := .int) (C := RX7) (T := TX7) (N := 24) hx hb hts hinX7 tyX7 tyX7_ok nmX7 hown hK hP hD hS 0 rfl rfl 10 (by decide) (hts (.fieldLink RX7 73 "DancedLockModel" "at" "I") (List.mem_of_getElem? (i := 2) rfl)) (fun _ h9 => h9) rfl (by decide +kernel) rfl (rfl) (Nat.le_of_ble_eq_true rfl) dX7_lock_58 (fun H locs hP hD hS => ?_)
        have hP : va_P D vwCl (mW b cI cJ cZ (va_up (va_up v 0 (va_up (v 0) 0 (0))) 10 (va_up (v 10) 0 (80 * j_6 + ia))) c) H := hP
        have hD : va_D A (mW b cI cJ cZ (va_up (va_up v 0 (va_up (v 0) 0 (0))) 10 (va_up (v 10) 0 (80 * j_6 + ia))) c) := hD
        refine lv_aload_n hx hb dX7_lock_61 rfl (lv_at hl 2 rfl) ?_
        refine lv_iload hx hb dX7_lock_62 (lv_at hl 0 rfl) ?_
        refine lv_iload hx hb dX7_lock_64 (lv_at hl 6 rfl) ?_
        refine w_iadd (x := 80 * j_6 + ia) (y := na) hx hb dX7_lock_66  ?_
        refine w_cVi (rest := []) hx hb hml hown hts (m_readLock l D b cI cJ cZ A (va_up (va_up v 0 (va_up (v 0) 0 (0))) 10 (va_up (v 10) 0 (80 * j_6 + ia))) c (80 * j_6 + ia + na)  (by omega) (by show (80 * j_6 + ia) ≤ (80 * j_6 + ia + na); omega)) 1 gX7_lock_X7_readLock rfl hdX7_readLock ⟨Nat.le_of_ble_eq_true rfl, Nat.le_of_ble_eq_true rfl⟩ hK hN hP hD hS hA 0 7 rfl rfl rfl rfl hl.1 rfl (Nat.le_of_ble_eq_true rfl) dX7_lock_67 ⟨Nat.le_of_ble_eq_true rfl, Nat.le_of_ble_eq_true rfl⟩ (fun r u H locs hq hP hD hS => ?_)
        rcases hq with ⟨at1_67, rb_67, rd_67, g13_67, g14_67, g15_67, need_67, S_67, nb_67, rfl, rfl, hrb_67, hT_67, hA_67, hDb_67, hg_67⟩ | ⟨at1_67, rb_67, rd_67, g13_67, g14_67, g15_67, q_67, rfl, rfl, hq_67, hFL_67⟩
        · skip
          have hT_67 : TKN (fun e => (c 4) ((80 * j_6 + ia) + e)) ((80 * j_6 + ia + na) - (80 * j_6 + ia)) nb_67 need_67 S_67 := hT_67
          have hP : va_P D vwCl (mW b cI cJ cZ (va_up (va_up (va_up (va_up (va_up v 0 (va_up (v 0) 0 (0))) 10 (va_up (v 10) 0 (at1_67))) 12 (va_up (v 12) 0 (rd_67))) 14 (g14_67)) 15 (g15_67)) (va_up (va_up c 11 (va_up (c 11) 0 (rb_67))) 13 (g13_67))) H := hP
          have hD : va_D A (mW b cI cJ cZ (va_up (va_up (va_up (va_up (va_up v 0 (va_up (v 0) 0 (0))) 10 (va_up (v 10) 0 (at1_67))) 12 (va_up (v 12) 0 (rd_67))) 14 (g14_67)) 15 (g15_67)) (va_up (va_up c 11 (va_up (c 11) 0 (rb_67))) 13 (g13_67))) := hD
          refine w_if_ne (x := 1) hx hb dX7_lock_70 (tgt := 84) (by decide) (by decide) (fun _ => ?_) (fun h => absurd h (by decide))
          rw [Nat.add_sub_cancel_left] at hT_67
          have hn7 := hT_67.1.2.2.2.1
          have hd4 := hDb_67.1
          have hb6 : ∀ e, e < rd_67 → g14_67 e ≤ 6 := fun e he => (hDb_67.2.1 e he).2
          refine lv_aload_n hx hb dX7_lock_84 rfl (lv_at hl 2 rfl) ?_
          refine lv_aload_n hx hb dX7_lock_85 rfl (lv_at hl 2 rfl) ?_
          refine va_get (D := D) (ci := 7) (v := .int rb_67) (C := RX7) (T := TX7) (N := 24) hx hb hts hinX7 hown hK hP 0 rfl rfl 11 (by decide) (hts (.fieldLink RX7 93 "DancedLockModel" "readBoards" "I") (List.mem_of_getElem? (i := 3) rfl)) (fun _ h9 => h9) rfl dX7_lock_86 ?_
          rw [show rb_67 = (nI (nb_67)) from hrb_67]
          refine va_put (D := D) (ci := 7) (v := .int (nI (nb_67))) (ty := .int) (C := RX7) (T := TX7) (N := 24) hx hb hts hinX7 tyX7 tyX7_ok nmX7 hown hK hP hD hS 0 rfl rfl 5 (by decide) (hts (.fieldLink RX7 63 "DancedLockModel" "boards" "I") (List.mem_of_getElem? (i := 4) rfl)) (fun _ h9 => h9) rfl (by decide +kernel) rfl (rfl) (Nat.le_of_ble_eq_true rfl) dX7_lock_89 (fun H locs hP hD hS => ?_)
          have hP : va_P D vwCl (mW b cI cJ cZ (va_up (va_up (va_up (va_up (va_up (va_up v 0 (va_up (v 0) 0 (0))) 5 (va_up (v 5) 0 (nb_67))) 10 (va_up (v 10) 0 (at1_67))) 12 (va_up (v 12) 0 (rd_67))) 14 (g14_67)) 15 (g15_67)) (va_up (va_up c 11 (va_up (c 11) 0 (rb_67))) 13 (g13_67))) H := hP
          have hD : va_D A (mW b cI cJ cZ (va_up (va_up (va_up (va_up (va_up (va_up v 0 (va_up (v 0) 0 (0))) 5 (va_up (v 5) 0 (nb_67))) 10 (va_up (v 10) 0 (at1_67))) 12 (va_up (v 12) 0 (rd_67))) 14 (g14_67)) 15 (g15_67)) (va_up (va_up c 11 (va_up (c 11) 0 (rb_67))) 13 (g13_67))) := hD
          refine lv_aload_n hx hb dX7_lock_92 rfl (lv_at hl 2 rfl) ?_
          refine lv_aload_n hx hb dX7_lock_93 rfl (lv_at hl 2 rfl) ?_
          refine va_get (D := D) (ci := 7) (v := .int (nI (rd_67))) (C := RX7) (T := TX7) (N := 24) hx hb hts hinX7 hown hK hP 0 rfl rfl 12 (by decide) (hts (.fieldLink RX7 96 "DancedLockModel" "readDoors" "I") (List.mem_of_getElem? (i := 5) rfl)) (fun _ h9 => h9) rfl dX7_lock_94 ?_
          refine va_put (D := D) (ci := 7) (v := .int (nI (rd_67))) (ty := .int) (C := RX7) (T := TX7) (N := 24) hx hb hts hinX7 tyX7 tyX7_ok nmX7 hown hK hP hD hS 0 rfl rfl 6 (by decide) (hts (.fieldLink RX7 66 "DancedLockModel" "doors" "I") (List.mem_of_getElem? (i := 6) rfl)) (fun _ h9 => h9) rfl (by decide +kernel) rfl (rfl) (Nat.le_of_ble_eq_true rfl) dX7_lock_97 (fun H locs hP hD hS => ?_)
          have hP : va_P D vwCl (mW b cI cJ cZ (va_up (va_up (va_up (va_up (va_up (va_up (va_up v 0 (va_up (v 0) 0 (0))) 5 (va_up (v 5) 0 (nb_67))) 6 (va_up (v 6) 0 (rd_67))) 10 (va_up (v 10) 0 (at1_67))) 12 (va_up (v 12) 0 (rd_67))) 14 (g14_67)) 15 (g15_67)) (va_up (va_up c 11 (va_up (c 11) 0 (rb_67))) 13 (g13_67))) H := hP
          have hD : va_D A (mW b cI cJ cZ (va_up (va_up (va_up (va_up (va_up (va_up (va_up v 0 (va_up (v 0) 0 (0))) 5 (va_up (v 5) 0 (nb_67))) 6 (va_up (v 6) 0 (rd_67))) 10 (va_up (v 10) 0 (at1_67))) 12 (va_up (v 12) 0 (rd_67))) 14 (g14_67)) 15 (g15_67)) (va_up (va_up c 11 (va_up (c 11) 0 (rb_67))) 13 (g13_67))) := hD
          refine lv_iconst (v := nI (0)) hx hb dX7_lock_100 (by decide) ?_
          refine lv_istore (lv' := [(7, .int (nI (0))), (6, .int (nI (80 * j_6 + ia))), (5, .int (nI (0))), (0, .ref (b 0)), (1, .int (nI (j_6))), (2, .int (nI (j_15))), (3, .int (nI (ia))), (4, .int (nI (na)))]) hx hb dX7_lock_101 hl (by decide) rfl (fun ls hl => ?_)
          have L103 : ∀ (n : Nat) (i : Nat) (g7 : Nat → Nat) (H : Heap) (locs : List Loc) (ls : Array Slot), nb_67 - i < n → (i ≤ nb_67) → (∀ e, e < i → g7 e = need_67 e) → va_P D vwCl (mW b cI cJ cZ (va_up (va_up (va_up (va_up (va_up (va_up (va_up (va_up v 0 (va_up (v 0) 0 (0))) 5 (va_up (v 5) 0 (nb_67))) 6 (va_up (v 6) 0 (rd_67))) 7 (g7)) 10 (va_up (v 10) 0 (at1_67))) 12 (va_up (v 12) 0 (rd_67))) 14 (g14_67)) 15 (g15_67)) (va_up (va_up c 11 (va_up (c 11) 0 (rb_67))) 13 (g13_67))) H → va_D A (mW b cI cJ cZ (va_up (va_up (va_up (va_up (va_up (va_up (va_up (va_up v 0 (va_up (v 0) 0 (0))) 5 (va_up (v 5) 0 (nb_67))) 6 (va_up (v 6) 0 (rd_67))) 7 (g7)) 10 (va_up (v 10) 0 (at1_67))) 12 (va_up (v 12) 0 (rd_67))) 14 (g14_67)) 15 (g15_67)) (va_up (va_up c 11 (va_up (c 11) 0 (rb_67))) 13 (g13_67))) → va_S A s.heap H locs → lv_has ls 9 [(7, .int (nI (i))), (0, .ref (b 0)), (1, .int (nI (j_6))), (2, .int (nI (j_15))), (3, .int (nI (ia))), (4, .int (nI (na))), (5, .int (nI (0))), (6, .int (nI (80 * j_6 + ia)))] → W p l e { frames := 5, cells := 0, slots := 0, locals := 115 } s m args below meth c0 H locs 0 0 Q (F0 m 103 ls []) := by
            intro n
            induction n with
            | zero => intro i g7 H locs ls hm; exact absurd hm (Nat.not_lt_zero _)
            | succ n ih103 =>
              intro i g7 H locs ls hm103 hi h7 hP hD hS hl
              refine lv_iload hx hb dX7_lock_103 (lv_at hl 0 rfl) ?_
              refine lv_aload_n hx hb dX7_lock_105 rfl (lv_at hl 1 rfl) ?_
              refine va_get (D := D) (ci := 7) (v := .int (nI (nb_67))) (C := RX7) (T := TX7) (N := 24) hx hb hts hinX7 hown hK hP 0 rfl rfl 5 (by decide) (hts (.fieldLink RX7 63 "DancedLockModel" "boards" "I") (List.mem_of_getElem? (i := 4) rfl)) (fun _ h9 => h9) rfl dX7_lock_106 ?_
              refine w_icmp_ge (x := i) (y := nb_67) hx hb dX7_lock_109 (tgt := 132) (by decide) (by omega) (by omega) (fun c109 => ?_) (fun c109 => ?_)
              · skip
                have e7 : i = nb_67 := (by omega)
                refine lv_iconst (v := nI (0)) hx hb dX7_lock_132 (by decide) ?_
                refine lv_istore (lv' := [(7, .int (nI (0))), (0, .ref (b 0)), (1, .int (nI (j_6))), (2, .int (nI (j_15))), (3, .int (nI (ia))), (4, .int (nI (na))), (5, .int (nI (0))), (6, .int (nI (80 * j_6 + ia)))]) hx hb dX7_lock_133 hl (by decide) rfl (fun ls hl => ?_)
                have L135 : ∀ (n : Nat) (dd : Nat) (g8 : Nat → Nat) (g9 : Nat → Nat) (H : Heap) (locs : List Loc) (ls : Array Slot), rd_67 - dd < n → (dd ≤ rd_67) → (∀ e, e < dd → g8 e = g14_67 e) → (FGo g14_67 g15_67 g9 dd) → va_P D vwCl (mW b cI cJ cZ (va_up (va_up (va_up (va_up (va_up (va_up (va_up (va_up (va_up (va_up v 0 (va_up (v 0) 0 (0))) 5 (va_up (v 5) 0 (nb_67))) 6 (va_up (v 6) 0 (rd_67))) 7 (g7)) 8 (g8)) 9 (g9)) 10 (va_up (v 10) 0 (at1_67))) 12 (va_up (v 12) 0 (rd_67))) 14 (g14_67)) 15 (g15_67)) (va_up (va_up c 11 (va_up (c 11) 0 (rb_67))) 13 (g13_67))) H → va_D A (mW b cI cJ cZ (va_up (va_up (va_up (va_up (va_up (va_up (va_up (va_up (va_up (va_up v 0 (va_up (v 0) 0 (0))) 5 (va_up (v 5) 0 (nb_67))) 6 (va_up (v 6) 0 (rd_67))) 7 (g7)) 8 (g8)) 9 (g9)) 10 (va_up (v 10) 0 (at1_67))) 12 (va_up (v 12) 0 (rd_67))) 14 (g14_67)) 15 (g15_67)) (va_up (va_up c 11 (va_up (c 11) 0 (rb_67))) 13 (g13_67))) → va_S A s.heap H locs → lv_has ls 9 [(7, .int (nI (dd))), (0, .ref (b 0)), (1, .int (nI (j_6))), (2, .int (nI (j_15))), (3, .int (nI (ia))), (4, .int (nI (na))), (5, .int (nI (0))), (6, .int (nI (80 * j_6 + ia)))] → W p l e { frames := 5, cells := 0, slots := 0, locals := 115 } s m args below meth c0 H locs 0 0 Q (F0 m 135 ls []) := by
                  intro n
                  induction n with
                  | zero => intro dd g8 g9 H locs ls hm; exact absurd hm (Nat.not_lt_zero _)
                  | succ n ih135 =>
                    intro dd g8 g9 H locs ls hm135 hdr h8 h9 hP hD hS hl
                    refine lv_iload hx hb dX7_lock_135 (lv_at hl 0 rfl) ?_
                    refine lv_aload_n hx hb dX7_lock_137 rfl (lv_at hl 1 rfl) ?_
                    refine va_get (D := D) (ci := 7) (v := .int (nI (rd_67))) (C := RX7) (T := TX7) (N := 24) hx hb hts hinX7 hown hK hP 0 rfl rfl 6 (by decide) (hts (.fieldLink RX7 66 "DancedLockModel" "doors" "I") (List.mem_of_getElem? (i := 6) rfl)) (fun _ h9 => h9) rfl dX7_lock_138 ?_
                    refine w_icmp_ge (x := dd) (y := rd_67) hx hb dX7_lock_141 (tgt := 209) (by decide) (by omega) (by omega) (fun c141 => ?_) (fun c141 => ?_)
                    · skip
                      have e9 : dd = rd_67 := (by omega)
                      rw [e7] at h7
                      rw [e9] at h8 h9
                      have hT2 := TKN_need hT_67 h7
                      have hD2 := DIb_eq hDb_67 h8 h9
                      have hA2 := AGR_eq hA_67 h8 h9
                      refine lv_aload_n hx hb dX7_lock_209 rfl (lv_at hl 1 rfl) ?_
                      refine lv_iconst (v := nI (0)) hx hb dX7_lock_210 (by decide) ?_
                      refine va_put (D := D) (ci := 7) (v := .int (nI (0))) (ty := .int) (C := RX7) (T := TX7) (N := 24) hx hb hts hinX7 tyX7 tyX7_ok nmX7 hown hK hP hD hS 0 rfl rfl 16 (by decide) (hts (.fieldLink RX7 103 "DancedLockModel" "dancers" "I") (List.mem_of_getElem? (i := 13) rfl)) (fun _ h9 => h9) rfl (by decide +kernel) rfl (rfl) (Nat.le_of_ble_eq_true rfl) dX7_lock_211 (fun H locs hP hD hS => ?_)
                      have hP : va_P D vwCl (mW b cI cJ cZ (va_up (va_up (va_up (va_up (va_up (va_up (va_up (va_up (va_up (va_up (va_up v 0 (va_up (v 0) 0 (0))) 5 (va_up (v 5) 0 (nb_67))) 6 (va_up (v 6) 0 (rd_67))) 7 (g7)) 8 (g8)) 9 (g9)) 10 (va_up (v 10) 0 (at1_67))) 12 (va_up (v 12) 0 (rd_67))) 14 (g14_67)) 15 (g15_67)) 16 (va_up (v 16) 0 (0))) (va_up (va_up c 11 (va_up (c 11) 0 (rb_67))) 13 (g13_67))) H := hP
                      have hD : va_D A (mW b cI cJ cZ (va_up (va_up (va_up (va_up (va_up (va_up (va_up (va_up (va_up (va_up (va_up v 0 (va_up (v 0) 0 (0))) 5 (va_up (v 5) 0 (nb_67))) 6 (va_up (v 6) 0 (rd_67))) 7 (g7)) 8 (g8)) 9 (g9)) 10 (va_up (v 10) 0 (at1_67))) 12 (va_up (v 12) 0 (rd_67))) 14 (g14_67)) 15 (g15_67)) 16 (va_up (v 16) 0 (0))) (va_up (va_up c 11 (va_up (c 11) 0 (rb_67))) 13 (g13_67))) := hD
                      refine lv_aload_n hx hb dX7_lock_214 rfl (lv_at hl 1 rfl) ?_
                      refine lv_iconst (v := nI (0)) hx hb dX7_lock_215 (by decide) ?_
                      refine va_put (D := D) (ci := 7) (v := .int (nI (0))) (ty := .int) (C := RX7) (T := TX7) (N := 24) hx hb hts hinX7 tyX7 tyX7_ok nmX7 hown hK hP hD hS 0 rfl rfl 22 (by decide) (hts (.fieldLink RX7 106 "DancedLockModel" "families" "I") (List.mem_of_getElem? (i := 14) rfl)) (fun _ h9 => h9) rfl (by decide +kernel) rfl (rfl) (Nat.le_of_ble_eq_true rfl) dX7_lock_216 (fun H locs hP hD hS => ?_)
                      have hP : va_P D vwCl (mW b cI cJ cZ (va_up (va_up (va_up (va_up (va_up (va_up (va_up (va_up (va_up (va_up (va_up (va_up v 0 (va_up (v 0) 0 (0))) 5 (va_up (v 5) 0 (nb_67))) 6 (va_up (v 6) 0 (rd_67))) 7 (g7)) 8 (g8)) 9 (g9)) 10 (va_up (v 10) 0 (at1_67))) 12 (va_up (v 12) 0 (rd_67))) 14 (g14_67)) 15 (g15_67)) 16 (va_up (v 16) 0 (0))) 22 (va_up (v 22) 0 (0))) (va_up (va_up c 11 (va_up (c 11) 0 (rb_67))) 13 (g13_67))) H := hP
                      have hD : va_D A (mW b cI cJ cZ (va_up (va_up (va_up (va_up (va_up (va_up (va_up (va_up (va_up (va_up (va_up (va_up v 0 (va_up (v 0) 0 (0))) 5 (va_up (v 5) 0 (nb_67))) 6 (va_up (v 6) 0 (rd_67))) 7 (g7)) 8 (g8)) 9 (g9)) 10 (va_up (v 10) 0 (at1_67))) 12 (va_up (v 12) 0 (rd_67))) 14 (g14_67)) 15 (g15_67)) 16 (va_up (v 16) 0 (0))) 22 (va_up (v 22) 0 (0))) (va_up (va_up c 11 (va_up (c 11) 0 (rb_67))) 13 (g13_67))) := hD
                      refine lv_aload_n hx hb dX7_lock_219 rfl (lv_at hl 1 rfl) ?_
                      refine va_get (D := D) (ci := 7) (v := .int (nI (rd_67))) (C := RX7) (T := TX7) (N := 24) hx hb hts hinX7 hown hK hP 0 rfl rfl 6 (by decide) (hts (.fieldLink RX7 66 "DancedLockModel" "doors" "I") (List.mem_of_getElem? (i := 6) rfl)) (fun _ h9 => h9) rfl dX7_lock_220 ?_
                      exact hret (nI (rd_67)) (va_up (va_up (va_up (va_up (va_up (va_up (va_up (va_up (va_up (va_up (va_up (va_up v 0 (va_up (v 0) 0 (0))) 5 (va_up (v 5) 0 (nb_67))) 6 (va_up (v 6) 0 (rd_67))) 7 (g7)) 8 (g8)) 9 (g9)) 10 (va_up (v 10) 0 (at1_67))) 12 (va_up (v 12) 0 (rd_67))) 14 (g14_67)) 15 (g15_67)) 16 (va_up (v 16) 0 (0))) 22 (va_up (v 22) 0 (0)), va_up (va_up c 11 (va_up (c 11) 0 (rb_67))) 13 (g13_67)) _ _ 223 _ dX7_lock_223 rfl (by exact ⟨MI_lock hI hT2 hD2 ⟨rfl, rfl, rfl, rfl, rfl, rfl⟩, Or.inr ⟨_, _, ia, na, tky_o (c2 := cM c 2) id h_6 h_15 (m_has h_15 h2_30) hjn rfl, rfl, (fun e => c 4 (80 * j_6 + ia + e)), fun e _ => by show c 4 (80 * j_6 + ia + e) = c 4 (j_6 * 80 + (ia + e)); exact congrArg (c 4) (by omega), Or.inr ⟨S_67, hT2, hA2, rfl, rfl, rfl, rfl, rfl, rfl, rfl⟩⟩⟩) hP hD hS
                    · skip
                      refine lv_aload_n hx hb dX7_lock_144 rfl (lv_at hl 1 rfl) ?_
                      refine va_get (D := D) (ci := 7) (v := .ref (b 8)) (C := RX7) (T := TX7) (N := 24) hx hb hts hinX7 hown hK hP 0 rfl rfl 8 (by decide) (hts (.fieldLink RX7 22 "DancedLockModel" "beats" "[I") (List.mem_of_getElem? (i := 9) rfl)) (fun _ h9 => h9) rfl dX7_lock_145 ?_
                      refine lv_iload hx hb dX7_lock_148 (lv_at hl 0 rfl) ?_
                      refine lv_aload_n hx hb dX7_lock_150 rfl (lv_at hl 1 rfl) ?_
                      refine va_get (D := D) (ci := 7) (v := .ref (b 14)) (C := RX7) (T := TX7) (N := 24) hx hb hts hinX7 hown hK hP 0 rfl rfl 14 (by decide) (hts (.fieldLink RX7 31 "DancedLockModel" "readBeats" "[I") (List.mem_of_getElem? (i := 10) rfl)) (fun _ h9 => h9) rfl dX7_lock_151 ?_
                      refine lv_iload hx hb dX7_lock_154 (lv_at hl 0 rfl) ?_
                      refine w_iald (f := g14_67) hx hb hK hP 8 0 rfl rfl (i := dd) (by omega) (by decide) dX7_lock_156 ?_
                      refine w_iast (f := g8) (w := g14_67 dd) hx hb hK hP hD hS 5 0 rfl rfl (i := dd) (by omega) (by decide) dX7_lock_157 (fun H locs hP hD hS => ?_)
                      have hP : va_P D vwCl (mW b cI cJ cZ (va_up (va_up (va_up (va_up (va_up (va_up (va_up (va_up (va_up (va_up v 0 (va_up (v 0) 0 (0))) 5 (va_up (v 5) 0 (nb_67))) 6 (va_up (v 6) 0 (rd_67))) 7 (g7)) 8 (va_up g8 dd (g14_67 dd))) 9 (g9)) 10 (va_up (v 10) 0 (at1_67))) 12 (va_up (v 12) 0 (rd_67))) 14 (g14_67)) 15 (g15_67)) (va_up (va_up c 11 (va_up (c 11) 0 (rb_67))) 13 (g13_67))) H := hP
                      have hD : va_D A (mW b cI cJ cZ (va_up (va_up (va_up (va_up (va_up (va_up (va_up (va_up (va_up (va_up v 0 (va_up (v 0) 0 (0))) 5 (va_up (v 5) 0 (nb_67))) 6 (va_up (v 6) 0 (rd_67))) 7 (g7)) 8 (va_up g8 dd (g14_67 dd))) 9 (g9)) 10 (va_up (v 10) 0 (at1_67))) 12 (va_up (v 12) 0 (rd_67))) 14 (g14_67)) 15 (g15_67)) (va_up (va_up c 11 (va_up (c 11) 0 (rb_67))) 13 (g13_67))) := hD
                      refine lv_iconst (v := nI (0)) hx hb dX7_lock_158 (by decide) ?_
                      refine lv_istore (lv' := [(8, .int (nI (0))), (7, .int (nI (dd))), (0, .ref (b 0)), (1, .int (nI (j_6))), (2, .int (nI (j_15))), (3, .int (nI (ia))), (4, .int (nI (na))), (5, .int (nI (0))), (6, .int (nI (80 * j_6 + ia)))]) hx hb dX7_lock_159 hl (by decide) rfl (fun ls hl => ?_)
                      have L161 : ∀ (n : Nat) (k : Nat) (gg : Nat → Nat) (H : Heap) (locs : List Loc) (ls : Array Slot), g14_67 dd - k < n → (k ≤ g14_67 dd) → (FGo g14_67 g15_67 gg dd ∧ ∀ e, e < k → gg (dd * 6 + e) = g15_67 (dd * 6 + e)) → va_P D vwCl (mW b cI cJ cZ (va_up (va_up (va_up (va_up (va_up (va_up (va_up (va_up (va_up (va_up v 0 (va_up (v 0) 0 (0))) 5 (va_up (v 5) 0 (nb_67))) 6 (va_up (v 6) 0 (rd_67))) 7 (g7)) 8 (va_up g8 dd (g14_67 dd))) 9 (gg)) 10 (va_up (v 10) 0 (at1_67))) 12 (va_up (v 12) 0 (rd_67))) 14 (g14_67)) 15 (g15_67)) (va_up (va_up c 11 (va_up (c 11) 0 (rb_67))) 13 (g13_67))) H → va_D A (mW b cI cJ cZ (va_up (va_up (va_up (va_up (va_up (va_up (va_up (va_up (va_up (va_up v 0 (va_up (v 0) 0 (0))) 5 (va_up (v 5) 0 (nb_67))) 6 (va_up (v 6) 0 (rd_67))) 7 (g7)) 8 (va_up g8 dd (g14_67 dd))) 9 (gg)) 10 (va_up (v 10) 0 (at1_67))) 12 (va_up (v 12) 0 (rd_67))) 14 (g14_67)) 15 (g15_67)) (va_up (va_up c 11 (va_up (c 11) 0 (rb_67))) 13 (g13_67))) → va_S A s.heap H locs → lv_has ls 9 [(8, .int (nI (k))), (0, .ref (b 0)), (1, .int (nI (j_6))), (2, .int (nI (j_15))), (3, .int (nI (ia))), (4, .int (nI (na))), (5, .int (nI (0))), (6, .int (nI (80 * j_6 + ia))), (7, .int (nI (dd)))] → W p l e { frames := 5, cells := 0, slots := 0, locals := 115 } s m args below meth c0 H locs 0 0 Q (F0 m 161 ls []) := by
                        intro n
                        induction n with
                        | zero => intro k gg H locs ls hm; exact absurd hm (Nat.not_lt_zero _)
                        | succ n ih161 =>
                          intro k gg H locs ls hm161 hkb k9 hP hD hS hl
                          have hb6d := hb6 dd (by omega)
                          refine lv_iload hx hb dX7_lock_161 (lv_at hl 0 rfl) ?_
                          refine lv_aload_n hx hb dX7_lock_163 rfl (lv_at hl 1 rfl) ?_
                          refine va_get (D := D) (ci := 7) (v := .ref (b 8)) (C := RX7) (T := TX7) (N := 24) hx hb hts hinX7 hown hK hP 0 rfl rfl 8 (by decide) (hts (.fieldLink RX7 22 "DancedLockModel" "beats" "[I") (List.mem_of_getElem? (i := 9) rfl)) (fun _ h9 => h9) rfl dX7_lock_164 ?_
                          refine lv_iload hx hb dX7_lock_167 (lv_at hl 8 rfl) ?_
                          refine w_iald (f := va_up g8 dd (g14_67 dd)) hx hb hK hP 5 0 rfl rfl (i := dd) (by omega) (by decide) dX7_lock_169 ?_
                          rw [show (nI ((va_up g8 dd (g14_67 dd)) dd)) = (nI (g14_67 dd)) from by rw [up_eq]]
                          refine w_icmp_ge (x := k) (y := g14_67 dd) hx hb dX7_lock_170 (tgt := 203) (by decide) (by omega) (by omega) (fun c170 => ?_) (fun c170 => ?_)
                          · skip
                            refine lv_iinc (v := nI (dd + 1)) (lv' := [(7, .int (nI (dd + 1))), (8, .int (nI (k))), (0, .ref (b 0)), (1, .int (nI (j_6))), (2, .int (nI (j_15))), (3, .int (nI (ia))), (4, .int (nI (na))), (5, .int (nI (0))), (6, .int (nI (80 * j_6 + ia)))]) hx hb dX7_lock_203 hl (k := 8) rfl (nI_add dd 1) (by decide) rfl (fun ls hl => ?_)
                            refine lv_goto (tgt := 135) hx hb dX7_lock_206 (by decide) ?_
                            exact ih135 (dd + 1) (va_up g8 dd (g14_67 dd)) gg _ _ _ (by omega) (by omega) (by exact eq_s h8) (by exact fg_d k9.1 k9.2 c170) hP hD hS (lv_sub hl [0, 2, 3, 4, 5, 6, 7, 8] rfl)
                          · skip
                            refine lv_aload_n hx hb dX7_lock_173 rfl (lv_at hl 1 rfl) ?_
                            refine va_get (D := D) (ci := 7) (v := .ref (b 9)) (C := RX7) (T := TX7) (N := 24) hx hb hts hinX7 hown hK hP 0 rfl rfl 9 (by decide) (hts (.fieldLink RX7 25 "DancedLockModel" "figure" "[I") (List.mem_of_getElem? (i := 11) rfl)) (fun _ h9 => h9) rfl dX7_lock_174 ?_
                            refine lv_iload hx hb dX7_lock_177 (lv_at hl 8 rfl) ?_
                            refine lv_iload hx hb dX7_lock_179 (lv_at hl 0 rfl) ?_
                            refine w_cSi (rest := [.ref (b 9)]) hx hb hml hown hts (m_spot l D b cI cJ cZ A (va_up (va_up (va_up (va_up (va_up (va_up (va_up (va_up (va_up (va_up v 0 (va_up (v 0) 0 (0))) 5 (va_up (v 5) 0 (nb_67))) 6 (va_up (v 6) 0 (rd_67))) 7 (g7)) 8 (va_up g8 dd (g14_67 dd))) 9 (gg)) 10 (va_up (v 10) 0 (at1_67))) 12 (va_up (v 12) 0 (rd_67))) 14 (g14_67)) 15 (g15_67)) (va_up (va_up c 11 (va_up (c 11) 0 (rb_67))) 13 (g13_67)) dd k  ) 2 gX7_lock_X7_spot rfl hdX7_spot ⟨Nat.le_of_ble_eq_true rfl, Nat.le_of_ble_eq_true rfl⟩ hK hN hP hD hS hA rfl hl.1 rfl (Nat.le_of_ble_eq_true rfl) dX7_lock_181 ⟨Nat.le_of_ble_eq_true rfl, Nat.le_of_ble_eq_true rfl⟩ (fun r u H locs hq hP hD hS => ?_)
                            obtain rfl := hq
                            have hP : va_P D vwCl (mW b cI cJ cZ (va_up (va_up (va_up (va_up (va_up (va_up (va_up (va_up (va_up (va_up v 0 (va_up (v 0) 0 (0))) 5 (va_up (v 5) 0 (nb_67))) 6 (va_up (v 6) 0 (rd_67))) 7 (g7)) 8 (va_up g8 dd (g14_67 dd))) 9 (gg)) 10 (va_up (v 10) 0 (at1_67))) 12 (va_up (v 12) 0 (rd_67))) 14 (g14_67)) 15 (g15_67)) (va_up (va_up c 11 (va_up (c 11) 0 (rb_67))) 13 (g13_67))) H := hP
                            have hD : va_D A (mW b cI cJ cZ (va_up (va_up (va_up (va_up (va_up (va_up (va_up (va_up (va_up (va_up v 0 (va_up (v 0) 0 (0))) 5 (va_up (v 5) 0 (nb_67))) 6 (va_up (v 6) 0 (rd_67))) 7 (g7)) 8 (va_up g8 dd (g14_67 dd))) 9 (gg)) 10 (va_up (v 10) 0 (at1_67))) 12 (va_up (v 12) 0 (rd_67))) 14 (g14_67)) 15 (g15_67)) (va_up (va_up c 11 (va_up (c 11) 0 (rb_67))) 13 (g13_67))) := hD
                            refine lv_aload_n hx hb dX7_lock_184 rfl (lv_at hl 1 rfl) ?_
                            refine va_get (D := D) (ci := 7) (v := .ref (b 15)) (C := RX7) (T := TX7) (N := 24) hx hb hts hinX7 hown hK hP 0 rfl rfl 15 (by decide) (hts (.fieldLink RX7 34 "DancedLockModel" "readFigure" "[I") (List.mem_of_getElem? (i := 12) rfl)) (fun _ h9 => h9) rfl dX7_lock_185 ?_
                            refine lv_iload hx hb dX7_lock_188 (lv_at hl 8 rfl) ?_
                            refine lv_iload hx hb dX7_lock_190 (lv_at hl 0 rfl) ?_
                            refine w_cSi (rest := [.ref (b 15), .int (nI (dd * 6 + k)), .ref (b 9)]) hx hb hml hown hts (m_spot l D b cI cJ cZ A (va_up (va_up (va_up (va_up (va_up (va_up (va_up (va_up (va_up (va_up v 0 (va_up (v 0) 0 (0))) 5 (va_up (v 5) 0 (nb_67))) 6 (va_up (v 6) 0 (rd_67))) 7 (g7)) 8 (va_up g8 dd (g14_67 dd))) 9 (gg)) 10 (va_up (v 10) 0 (at1_67))) 12 (va_up (v 12) 0 (rd_67))) 14 (g14_67)) 15 (g15_67)) (va_up (va_up c 11 (va_up (c 11) 0 (rb_67))) 13 (g13_67)) dd k  ) 2 gX7_lock_X7_spot rfl hdX7_spot ⟨Nat.le_of_ble_eq_true rfl, Nat.le_of_ble_eq_true rfl⟩ hK hN hP hD hS hA rfl hl.1 rfl (Nat.le_of_ble_eq_true rfl) dX7_lock_192 ⟨Nat.le_of_ble_eq_true rfl, Nat.le_of_ble_eq_true rfl⟩ (fun r u H locs hq hP hD hS => ?_)
                            obtain rfl := hq
                            have hP : va_P D vwCl (mW b cI cJ cZ (va_up (va_up (va_up (va_up (va_up (va_up (va_up (va_up (va_up (va_up v 0 (va_up (v 0) 0 (0))) 5 (va_up (v 5) 0 (nb_67))) 6 (va_up (v 6) 0 (rd_67))) 7 (g7)) 8 (va_up g8 dd (g14_67 dd))) 9 (gg)) 10 (va_up (v 10) 0 (at1_67))) 12 (va_up (v 12) 0 (rd_67))) 14 (g14_67)) 15 (g15_67)) (va_up (va_up c 11 (va_up (c 11) 0 (rb_67))) 13 (g13_67))) H := hP
                            have hD : va_D A (mW b cI cJ cZ (va_up (va_up (va_up (va_up (va_up (va_up (va_up (va_up (va_up (va_up v 0 (va_up (v 0) 0 (0))) 5 (va_up (v 5) 0 (nb_67))) 6 (va_up (v 6) 0 (rd_67))) 7 (g7)) 8 (va_up g8 dd (g14_67 dd))) 9 (gg)) 10 (va_up (v 10) 0 (at1_67))) 12 (va_up (v 12) 0 (rd_67))) 14 (g14_67)) 15 (g15_67)) (va_up (va_up c 11 (va_up (c 11) 0 (rb_67))) 13 (g13_67))) := hD
                            refine w_iald (f := g15_67) hx hb hK hP 9 0 rfl rfl (i := dd * 6 + k) (by omega) (by decide) dX7_lock_195 ?_
                            refine w_iast (f := gg) (w := g15_67 (dd * 6 + k)) hx hb hK hP hD hS 6 0 rfl rfl (i := dd * 6 + k) (by omega) (by decide) dX7_lock_196 (fun H locs hP hD hS => ?_)
                            have hP : va_P D vwCl (mW b cI cJ cZ (va_up (va_up (va_up (va_up (va_up (va_up (va_up (va_up (va_up (va_up v 0 (va_up (v 0) 0 (0))) 5 (va_up (v 5) 0 (nb_67))) 6 (va_up (v 6) 0 (rd_67))) 7 (g7)) 8 (va_up g8 dd (g14_67 dd))) 9 (va_up gg (dd * 6 + k) (g15_67 (dd * 6 + k)))) 10 (va_up (v 10) 0 (at1_67))) 12 (va_up (v 12) 0 (rd_67))) 14 (g14_67)) 15 (g15_67)) (va_up (va_up c 11 (va_up (c 11) 0 (rb_67))) 13 (g13_67))) H := hP
                            have hD : va_D A (mW b cI cJ cZ (va_up (va_up (va_up (va_up (va_up (va_up (va_up (va_up (va_up (va_up v 0 (va_up (v 0) 0 (0))) 5 (va_up (v 5) 0 (nb_67))) 6 (va_up (v 6) 0 (rd_67))) 7 (g7)) 8 (va_up g8 dd (g14_67 dd))) 9 (va_up gg (dd * 6 + k) (g15_67 (dd * 6 + k)))) 10 (va_up (v 10) 0 (at1_67))) 12 (va_up (v 12) 0 (rd_67))) 14 (g14_67)) 15 (g15_67)) (va_up (va_up c 11 (va_up (c 11) 0 (rb_67))) 13 (g13_67))) := hD
                            refine lv_iinc (v := nI (k + 1)) (lv' := [(8, .int (nI (k + 1))), (0, .ref (b 0)), (1, .int (nI (j_6))), (2, .int (nI (j_15))), (3, .int (nI (ia))), (4, .int (nI (na))), (5, .int (nI (0))), (6, .int (nI (80 * j_6 + ia))), (7, .int (nI (dd)))]) hx hb dX7_lock_197 hl (k := 0) rfl (nI_add k 1) (by decide) rfl (fun ls hl => ?_)
                            refine lv_goto (tgt := 161) hx hb dX7_lock_200 (by decide) ?_
                            exact ih161 (k + 1) (va_up gg (dd * 6 + k) (g15_67 (dd * 6 + k))) _ _ _ (by omega) (by omega) (by exact fg_s (fun e he => hb6 e (by omega)) k9.1 k9.2) hP hD hS (lv_sub hl [0, 1, 2, 3, 4, 5, 6, 7, 8] rfl)
                      exact L161 ((g14_67 dd - 0) + 1) 0 g9 _ _ _ (Nat.lt_succ_self _) (by omega) (by exact ⟨h9, fun e he => absurd he (Nat.not_lt_zero _)⟩) hP hD hS (lv_sub hl [0, 2, 3, 4, 5, 6, 7, 8, 1] rfl)
                exact L135 ((rd_67 - 0) + 1) 0 (v 8) (v 9) _ _ _ (Nat.lt_succ_self _) (by omega) (by exact fun e he => absurd he (Nat.not_lt_zero _)) (by exact fun e k he => absurd he (Nat.not_lt_zero _)) hP hD hS (lv_sub hl [0, 1, 2, 3, 4, 5, 6, 7] rfl)
              · skip
                refine lv_aload_n hx hb dX7_lock_112 rfl (lv_at hl 1 rfl) ?_
                refine va_get (D := D) (ci := 7) (v := .ref (b 7)) (C := RX7) (T := TX7) (N := 24) hx hb hts hinX7 hown hK hP 0 rfl rfl 7 (by decide) (hts (.fieldLink RX7 19 "DancedLockModel" "feltFrom" "[I") (List.mem_of_getElem? (i := 7) rfl)) (fun _ h9 => h9) rfl dX7_lock_113 ?_
                refine lv_iload hx hb dX7_lock_116 (lv_at hl 0 rfl) ?_
                refine lv_aload_n hx hb dX7_lock_118 rfl (lv_at hl 1 rfl) ?_
                refine va_get (D := D) (ci := 7) (v := .ref (b 13)) (C := RX7) (T := TX7) (N := 24) hx hb hts hinX7 hown hK hP 0 rfl rfl 13 (by decide) (hts (.fieldLink RX7 28 "DancedLockModel" "readFrom" "[I") (List.mem_of_getElem? (i := 8) rfl)) (fun _ h9 => h9) rfl dX7_lock_119 ?_
                refine lv_iload hx hb dX7_lock_122 (lv_at hl 0 rfl) ?_
                refine r_iald (f := g13_67) hx hb hK hP 7 0 rfl rfl (i := i) (by omega) (by decide) dX7_lock_124 ?_
                rw [show (g13_67 i) = (nI (need_67 i)) from hg_67 i (by omega)]
                refine w_iast (f := g7) (w := need_67 i) hx hb hK hP hD hS 4 0 rfl rfl (i := i) (by omega) (by decide) dX7_lock_125 (fun H locs hP hD hS => ?_)
                have hP : va_P D vwCl (mW b cI cJ cZ (va_up (va_up (va_up (va_up (va_up (va_up (va_up (va_up v 0 (va_up (v 0) 0 (0))) 5 (va_up (v 5) 0 (nb_67))) 6 (va_up (v 6) 0 (rd_67))) 7 (va_up g7 i (need_67 i))) 10 (va_up (v 10) 0 (at1_67))) 12 (va_up (v 12) 0 (rd_67))) 14 (g14_67)) 15 (g15_67)) (va_up (va_up c 11 (va_up (c 11) 0 (rb_67))) 13 (g13_67))) H := hP
                have hD : va_D A (mW b cI cJ cZ (va_up (va_up (va_up (va_up (va_up (va_up (va_up (va_up v 0 (va_up (v 0) 0 (0))) 5 (va_up (v 5) 0 (nb_67))) 6 (va_up (v 6) 0 (rd_67))) 7 (va_up g7 i (need_67 i))) 10 (va_up (v 10) 0 (at1_67))) 12 (va_up (v 12) 0 (rd_67))) 14 (g14_67)) 15 (g15_67)) (va_up (va_up c 11 (va_up (c 11) 0 (rb_67))) 13 (g13_67))) := hD
                refine lv_iinc (v := nI (i + 1)) (lv' := [(7, .int (nI (i + 1))), (0, .ref (b 0)), (1, .int (nI (j_6))), (2, .int (nI (j_15))), (3, .int (nI (ia))), (4, .int (nI (na))), (5, .int (nI (0))), (6, .int (nI (80 * j_6 + ia)))]) hx hb dX7_lock_126 hl (k := 0) rfl (nI_add i 1) (by decide) rfl (fun ls hl => ?_)
                refine lv_goto (tgt := 103) hx hb dX7_lock_129 (by decide) ?_
                exact ih103 (i + 1) (va_up g7 i (need_67 i)) _ _ _ (by omega) (by omega) (by exact eq_s h7) hP hD hS (lv_sub hl [0, 1, 2, 3, 4, 5, 6, 7] rfl)
          exact L103 ((nb_67 - 0) + 1) 0 (v 7) _ _ _ (Nat.lt_succ_self _) (by omega) (by exact fun e he => absurd he (Nat.not_lt_zero _)) hP hD hS (lv_sub hl [0, 3, 4, 5, 6, 7, 2, 1] rfl)
        · skip
          have hq_67 : at1_67 = (80 * j_6 + ia) + q_67 := hq_67
          have hFL_67 : FLT (fun e => (c 4) ((80 * j_6 + ia) + e)) ((80 * j_6 + ia + na) - (80 * j_6 + ia)) q_67 := hFL_67
          have hP : va_P D vwCl (mW b cI cJ cZ (va_up (va_up (va_up (va_up (va_up v 0 (va_up (v 0) 0 (0))) 10 (va_up (v 10) 0 (at1_67))) 12 (va_up (v 12) 0 (rd_67))) 14 (g14_67)) 15 (g15_67)) (va_up (va_up c 11 (va_up (c 11) 0 (rb_67))) 13 (g13_67))) H := hP
          have hD : va_D A (mW b cI cJ cZ (va_up (va_up (va_up (va_up (va_up v 0 (va_up (v 0) 0 (0))) 10 (va_up (v 10) 0 (at1_67))) 12 (va_up (v 12) 0 (rd_67))) 14 (g14_67)) 15 (g15_67)) (va_up (va_up c 11 (va_up (c 11) 0 (rb_67))) 13 (g13_67))) := hD
          refine w_if_ne (x := 0) hx hb dX7_lock_70 (tgt := 84) (by decide) (by decide) (fun h => absurd h (by decide)) (fun _ => ?_)
          refine lv_bipush (v := -100) hx hb dX7_lock_73 (by decide) ?_
          refine lv_aload_n hx hb dX7_lock_75 rfl (lv_at hl 2 rfl) ?_
          refine va_get (D := D) (ci := 7) (v := .int (nI (at1_67))) (C := RX7) (T := TX7) (N := 24) hx hb hts hinX7 hown hK hP 0 rfl rfl 10 (by decide) (hts (.fieldLink RX7 73 "DancedLockModel" "at" "I") (List.mem_of_getElem? (i := 2) rfl)) (fun _ h9 => h9) rfl dX7_lock_76 ?_
          refine lv_iload hx hb dX7_lock_79 (lv_at hl 0 rfl) ?_
          refine w_isub (x := at1_67) (y := 80 * j_6 + ia) hx hb dX7_lock_81 (by omega) ?_
          rw [Nat.add_sub_cancel_left] at hFL_67
          rw [show (nI (at1_67 - (80 * j_6 + ia))) = (nI (q_67)) from congrArg nI (by omega)]
          refine lv_isub hx hb dX7_lock_82 ?_
          exact hret ((-100) - (nI (q_67))) (va_up (va_up (va_up (va_up (va_up v 0 (va_up (v 0) 0 (0))) 10 (va_up (v 10) 0 (at1_67))) 12 (va_up (v 12) 0 (rd_67))) 14 (g14_67)) 15 (g15_67), va_up (va_up c 11 (va_up (c 11) 0 (rb_67))) 13 (g13_67)) _ _ 83 _ dX7_lock_83 rfl (by exact ⟨MI_rd hI ⟨rfl, rfl, rfl, rfl, rfl, rfl, rfl, rfl, rfl, rfl, rfl, rfl, rfl⟩ (hsp), Or.inr ⟨_, _, ia, na, tky_o (c2 := cM c 2) id h_6 h_15 (m_has h_15 h2_30) hjn rfl, rfl, (fun e => c 4 (80 * j_6 + ia + e)), fun e _ => by show c 4 (80 * j_6 + ia + e) = c 4 (j_6 * 80 + (ia + e)); exact congrArg (c 4) (by omega), Or.inl ⟨q_67, hFL_67, rfl, rfl, rfl, rfl, rfl, rfl, rfl, rfl, rfl, rfl, rfl, rfl, rfl, rfl⟩⟩⟩) hP hD hS
    · skip
      have hP : va_P D vwCl (mW b cI cJ cZ (va_up v 0 (va_up (v 0) 0 (0))) c) H := hP
      have hD : va_D A (mW b cI cJ cZ (va_up v 0 (va_up (v 0) 0 (0))) c) := hD
      refine w_if_ne (x := 0) hx hb dX7_lock_18 (tgt := 24) (by decide) (by decide) (fun h => absurd h (by decide)) (fun _ => ?_)
      refine lv_bipush (v := -2) hx hb dX7_lock_21 (by decide) ?_
      exact hret ((-2)) (va_up v 0 (va_up (v 0) 0 (0)), c) _ _ 23 _ dX7_lock_23 rfl (by exact ⟨MI_rd hI ⟨rfl, rfl, rfl, rfl, rfl, rfl, rfl, rfl, rfl, rfl, rfl, rfl, rfl⟩ (hsp), Or.inl ⟨_, tb_1 h_6 (by omega), rfl, rfl, rfl, rfl, rfl, rfl, rfl, rfl, rfl, rfl, rfl, rfl, rfl, rfl⟩⟩) hP hD hS
  · skip
    have hP : va_P D vwCl (mW b cI cJ cZ (va_up v 0 (va_up (v 0) 0 (0))) c) H := hP
    have hD : va_D A (mW b cI cJ cZ (va_up v 0 (va_up (v 0) 0 (0))) c) := hD
    refine w_if_ne (x := 0) hx hb dX7_lock_9 (tgt := 14) (by decide) (by decide) (fun h => absurd h (by decide)) (fun _ => ?_)
    refine lv_iconst (v := -1) hx hb dX7_lock_12 (by decide) ?_
    exact hret ((-1)) (va_up v 0 (va_up (v 0) 0 (0)), c) _ _ 13 _ dX7_lock_13 rfl (by exact ⟨MI_rd hI ⟨rfl, rfl, rfl, rfl, rfl, rfl, rfl, rfl, rfl, rfl, rfl, rfl, rfl⟩ (hsp), Or.inl ⟨_, tb_0 (by omega), rfl, rfl, rfl, rfl, rfl, rfl, rfl, rfl, rfl, rfl, rfl, rfl, rfl, rfl⟩⟩) hP hD hS
