/-! ===== the class's calls that read cells ===== -/
theorem bt_no {x : Int32} {ok : Nat → Prop} (h : x.toInt < 1 ∨ 6 < x.toInt) : ¬ ∃ bt, 1 ≤ bt ∧ bt ≤ 6 ∧ x = nI bt ∧ ok bt := fun ⟨b1, q1, q2, q3, _⟩ => by
  rw [q3, n_tI (by omega)] at h
  omega
theorem bt_ex {x : Int32} (h1 : 1 ≤ x.toInt) (h2 : x.toInt ≤ 6) : ∃ bt, 1 ≤ bt ∧ bt ≤ 6 ∧ x = nI bt := by
  obtain ⟨q, hq, rfl⟩ := r_nat (x := x) (by omega)
  rw [n_tI hq] at h1 h2
  exact ⟨q, by omega, by omega, rfl⟩
theorem ft_no {x y : Int32} (h : x.toInt < 1 ∨ 6 < x.toInt ∨ y.toInt < 0 ∨ x.toInt ≤ y.toInt) : ¬ ∃ bt, 1 ≤ bt ∧ bt ≤ 6 ∧ x = nI bt ∧ ∃ j, j < bt ∧ y = nI j := fun ⟨b1, q1, q2, q3, j, q4, q5⟩ => by
  rw [q3, q5, n_tI (by omega), n_tI (by omega)] at h
  omega
theorem jj_ex {y : Int32} {bt : Nat} (h0 : bt ≤ 6) (h1 : 0 ≤ y.toInt) (h2 : y.toInt < bt) : ∃ j, j < bt ∧ y = nI j := by
  obtain ⟨q, hq, rfl⟩ := r_nat (x := y) h1
  rw [n_tI hq] at h2
  exact ⟨q, by omega, rfl⟩
theorem wi_iff {f g : Nat → Int32} {k j n z : Nat} : (∀ e, e < n → va_cpy f g (k * 80 + j) 0 n e ||| nI z = nI z) ↔ WIb (fun k q => f (k * 80 + q)) k j n z := by
  constructor
  · intro h e he
    have h1 := h e he
    rw [cpy_at he, Nat.add_assoc] at h1
    exact h1
  · intro h e he
    rw [cpy_at he, Nat.add_assoc]
    exact h e he
theorem ds_of {f g : Nat → Int32} {k0 j n am nd : Nat} {nbt fig : Nat → Nat} : dset (fun d => nbt d = n ∧ ∀ k, k < n → nI (fig (d * 6 + k) &&& am) = va_cpy f g (k0 * 80 + j) 0 n k) nd = dset (fun d => nbt d = n ∧ ∀ e, e < n → nI (fig (d * 6 + e) &&& am) = f (k0 * 80 + (j + e))) nd :=
  dset_congr nd (fun d _ => and_congr Iff.rfl (forall_congr' (fun e => forall_congr' (fun he => by rw [cpy_at he, Nat.add_assoc]))))
theorem dp_of {f g : Nat → Int32} {k0 j n am nd : Nat} {nbt fig : Nat → Nat} : dset (fun d => ∃ fr, fr + n ≤ nbt d ∧ ∀ k, k < n → nI (fig (d * 6 + (fr + k)) &&& am) = va_cpy f g (k0 * 80 + j) 0 n k) nd = dset (fun d => ∃ fr, fr + n ≤ nbt d ∧ ∀ e, e < n → nI (fig (d * 6 + (fr + e)) &&& am) = f (k0 * 80 + (j + e))) nd :=
  dset_congr nd (fun d _ => exists_congr (fun fr => and_congr Iff.rfl (forall_congr' (fun e => forall_congr' (fun he => by rw [cpy_at he, Nat.add_assoc])))))
set_option maxHeartbeats 4000000 in
set_option maxRecDepth 100000 in
theorem t_opens (l : Launch) (D : va_G) (a : Nat → Nat) (cI cJ cZ : ClassId) (A : Nat → Prop) (v : Nat → Nat → Nat) (c : Nat → Nat → Int32) (x : Int32) (sh : Int32) (so : Int32) (ii : Int32) (hI : XI v) :
    mI l yX6_opens wsX6_opens 6 141 [.ref (a 0), .int x, .int sh, .int so, .int ii] D (xT cI cJ cZ) A (xW a cI cJ cZ v c) (fun u : ((Nat → Nat → Nat) × (Nat → Nat → Int32)) => xW a cI cJ cZ u.1 u.2)
    (fun (r : Int32) (u : ((Nat → Nat → Nat) × (Nat → Nat → Int32))) => ∃ F, sp_bt (xNo c) (xHas c) (v 3) (xCell c) (v 11 0) (v 11 1) (v 15 0) x (fun _ => True) sh so ii (fun bt st r => sp_opd (v 11 0) (v 12) (v 15 0) (lA (v 16)) (pA (v 16) (v 17)) st (v 11 1) (v 13) (xFig v) bt r) r F ∧ XS v c u F) := by
  refine w_bI cX6_opens 6 .int (by decide) rfl (Nat.le_of_ble_eq_true rfl) (Or.inl rfl) ?_
  intro p e s m args below meth c0 ls Q hx hb hml hts hown hK hN hA hret hP hD hS hl
  have hl : lv_has ls 6 [(0, .ref (a 0)), (1, .int x), (2, .int sh), (3, .int so), (4, .int ii)] := hl
  have hinX6 : ∀ w ∈ wsX60, w ∈ wsX6_opens := fun w h => List.mem_cons_of_mem _ (List.mem_append_left _ (List.mem_append_left _ (List.mem_append_left _ (List.mem_append_left _ (List.mem_append_right _ h)))))
  obtain ⟨hnb, hnd, hbt, hfg, hne, hnc, hdk, hnf, hkn, hln, hst, hdc, hsp⟩ := id hI
  have t1 : (nI 1).toInt = 1 := rfl
  have t6 : (nI 6).toInt = 6 := rfl
  refine lv_aload_n hx hb dX6_opens_0 rfl (lv_at hl 0 rfl) ?_
  refine lv_iload_n hx hb dX6_opens_1 rfl (lv_at hl 1 rfl) ?_
  refine lv_iload_n hx hb dX6_opens_2 rfl (lv_at hl 2 rfl) ?_
  refine lv_iload_n hx hb dX6_opens_3 rfl (lv_at hl 3 rfl) ?_
  refine lv_iload_n hx hb dX6_opens_4 rfl (lv_at hl 1 rfl) ?_
  refine lv_iconst (v := nI (1)) hx hb dX6_opens_5 (by decide) ?_
  refine r_icmp_lt (x := x) (y := nI (1)) hx hb dX6_opens_6 (tgt := 15) (by decide) (fun c6 => ?_) (fun c6 => ?_)
  · skip
    have hnx : ¬ ∃ bt, 1 ≤ bt ∧ bt ≤ 6 ∧ x = nI bt ∧ True := bt_no (by omega)
    refine lv_iconst (v := nI (1)) hx hb dX6_opens_15 (by decide) ?_
    refine lv_goto (tgt := 20) hx hb dX6_opens_16 (by decide) ?_
    refine lv_iload hx hb dX6_opens_20 (lv_at hl 4 rfl) ?_
    refine w_cVi (rest := []) hx hb hml hown hts (k_takePlan_R l D a cI cJ cZ A v c x sh so ii  (by first | assumption | omega)) 5 gX6_opens_X6_takePlan rfl hdX6_takePlan ⟨Nat.le_of_ble_eq_true rfl, Nat.le_of_ble_eq_true rfl⟩ hK hN hP hD hS hA 0 6 rfl rfl rfl rfl hl.1 rfl (Nat.le_of_ble_eq_true rfl) dX6_opens_22 ⟨Nat.le_of_ble_eq_true rfl, Nat.le_of_ble_eq_true rfl⟩ (fun r u H locs hq hP hD hS => ?_)
    rcases hq with ⟨rfl, rfl, h_22⟩ | ⟨rfl, rfl, h_22⟩
    · skip
      have hP : va_P D vwCl (xW a cI cJ cZ (va_up v 0 (va_up (v 0) 8 (0))) c) H := hP
      have hD : va_D A (xW a cI cJ cZ (va_up v 0 (va_up (v 0) 8 (0))) c) := hD
      refine lv_istore (lv' := [(5, .int (-1)), (0, .ref (a 0)), (1, .int x), (2, .int sh), (3, .int so), (4, .int ii)]) hx hb dX6_opens_25 hl (by decide) rfl (fun ls hl => ?_)
      refine lv_iload hx hb dX6_opens_27 (lv_at hl 0 rfl) ?_
      refine lv_if_eq hx hb dX6_opens_29 (tgt := 37) (by decide) (fun c29 => absurd c29 (by first | assumption | decide)) (fun c29 => ?_)
      refine lv_iload hx hb dX6_opens_32 (lv_at hl 0 rfl) ?_
      refine lv_goto (tgt := 45) hx hb dX6_opens_34 (by decide) ?_
      exact hret (-1) (va_up v 0 (va_up (v 0) 8 (0)), c) _ _ 45 _ dX6_opens_45 rfl (by exact ⟨_, Or.inr ⟨hnx, rfl, Or.inl ⟨h_22, rfl⟩⟩, XS_of hI hsp rfl ⟨rfl, rfl, rfl, rfl, rfl, rfl, rfl, rfl, rfl, rfl, rfl, rfl, rfl⟩⟩) hP hD hS
    · skip
      have hP : va_P D vwCl (xW a cI cJ cZ (va_up v 0 (va_up (v 0) 8 (0))) c) H := hP
      have hD : va_D A (xW a cI cJ cZ (va_up v 0 (va_up (v 0) 8 (0))) c) := hD
      refine lv_istore (lv' := [(5, .int (-2)), (0, .ref (a 0)), (1, .int x), (2, .int sh), (3, .int so), (4, .int ii)]) hx hb dX6_opens_25 hl (by decide) rfl (fun ls hl => ?_)
      refine lv_iload hx hb dX6_opens_27 (lv_at hl 0 rfl) ?_
      refine lv_if_eq hx hb dX6_opens_29 (tgt := 37) (by decide) (fun c29 => absurd c29 (by first | assumption | decide)) (fun c29 => ?_)
      refine lv_iload hx hb dX6_opens_32 (lv_at hl 0 rfl) ?_
      refine lv_goto (tgt := 45) hx hb dX6_opens_34 (by decide) ?_
      exact hret (-2) (va_up v 0 (va_up (v 0) 8 (0)), c) _ _ 45 _ dX6_opens_45 rfl (by exact ⟨_, Or.inr ⟨hnx, rfl, Or.inr ⟨h_22, rfl⟩⟩, XS_of hI hsp rfl ⟨rfl, rfl, rfl, rfl, rfl, rfl, rfl, rfl, rfl, rfl, rfl, rfl, rfl⟩⟩) hP hD hS
  · skip
    refine lv_iload_n hx hb dX6_opens_9 rfl (lv_at hl 1 rfl) ?_
    refine lv_bipush (v := nI (6)) hx hb dX6_opens_10 (by decide) ?_
    refine r_icmp_le (x := x) (y := nI (6)) hx hb dX6_opens_12 (tgt := 19) (by decide) (fun c12 => ?_) (fun c12 => ?_)
    · skip
      obtain ⟨bt, hb1, hb6, rfl⟩ := bt_ex (x := x) (by omega) (by omega)
      refine lv_iconst (v := nI (0)) hx hb dX6_opens_19 (by decide) ?_
      refine lv_iload hx hb dX6_opens_20 (lv_at hl 4 rfl) ?_
      refine w_cVi (rest := []) hx hb hml hown hts (k_takePlan_N l D a cI cJ cZ A v c bt sh so ii  (by first | assumption | omega) (by first | assumption | omega)) 5 gX6_opens_X6_takePlan rfl hdX6_takePlan ⟨Nat.le_of_ble_eq_true rfl, Nat.le_of_ble_eq_true rfl⟩ hK hN hP hD hS hA 0 6 rfl rfl rfl rfl hl.1 rfl (Nat.le_of_ble_eq_true rfl) dX6_opens_22 ⟨Nat.le_of_ble_eq_true rfl, Nat.le_of_ble_eq_true rfl⟩ (fun r u H locs hq hP hD hS => ?_)
      rcases hq with ⟨r0_22, F_22, hr_22, rfl, h_22, hne_22⟩ | ⟨k1_22, s1_22, j1_22, g25_22, rfl, rfl, h_22, h0_22⟩ | ⟨k1_22, s1_22, j1_22, g25_22, g18_22, rfl, rfl, h_22, h0_22, hN_22, hs_22⟩ | ⟨k1_22, s1_22, j1_22, g25_22, g18_22, rfl, rfl, h_22, h0_22, hP_22, hs_22⟩
      · skip
        rw [hr_22]
        have hP : va_P D vwCl (xW a cI cJ cZ (va_up v 0 (va_up (v 0) 8 (F_22))) c) H := hP
        have hD : va_D A (xW a cI cJ cZ (va_up v 0 (va_up (v 0) 8 (F_22))) c) := hD
        refine lv_istore (lv' := [(5, .int r0_22), (0, .ref (a 0)), (1, .int (nI (bt))), (2, .int sh), (3, .int so), (4, .int ii)]) hx hb dX6_opens_25 hl (by decide) rfl (fun ls hl => ?_)
        refine lv_iload hx hb dX6_opens_27 (lv_at hl 0 rfl) ?_
        refine lv_if_eq hx hb dX6_opens_29 (tgt := 37) (by decide) (fun c29 => absurd c29 (by first | assumption | decide)) (fun c29 => ?_)
        refine lv_iload hx hb dX6_opens_32 (lv_at hl 0 rfl) ?_
        refine lv_goto (tgt := 45) hx hb dX6_opens_34 (by decide) ?_
        exact hret (r0_22) (va_up v 0 (va_up (v 0) 8 (F_22)), c) _ _ 45 _ dX6_opens_45 rfl (by exact ⟨_, Or.inl ⟨bt, hb1, hb6, rfl, trivial, Or.inl h_22⟩, XS_of hI hsp rfl ⟨rfl, rfl, rfl, rfl, rfl, rfl, rfl, rfl, rfl, rfl, rfl, rfl, rfl⟩⟩) hP hD hS
      · skip
        have hP : va_P D vwCl (xW a cI cJ cZ (va_up v 0 (va_up (v 0) 8 (0))) (va_up c 25 (g25_22))) H := hP
        have hD : va_D A (xW a cI cJ cZ (va_up v 0 (va_up (v 0) 8 (0))) (va_up c 25 (g25_22))) := hD
        refine lv_istore (lv' := [(5, .int (-3)), (0, .ref (a 0)), (1, .int (nI (bt))), (2, .int sh), (3, .int so), (4, .int ii)]) hx hb dX6_opens_25 hl (by decide) rfl (fun ls hl => ?_)
        refine lv_iload hx hb dX6_opens_27 (lv_at hl 0 rfl) ?_
        refine lv_if_eq hx hb dX6_opens_29 (tgt := 37) (by decide) (fun c29 => absurd c29 (by first | assumption | decide)) (fun c29 => ?_)
        refine lv_iload hx hb dX6_opens_32 (lv_at hl 0 rfl) ?_
        refine lv_goto (tgt := 45) hx hb dX6_opens_34 (by decide) ?_
        exact hret (-3) (va_up v 0 (va_up (v 0) 8 (0)), va_up c 25 (g25_22)) _ _ 45 _ dX6_opens_45 rfl (by exact ⟨_, Or.inl ⟨bt, hb1, hb6, rfl, trivial, Or.inr ⟨_, _, _, _, h_22, rfl, Or.inl ⟨h0_22, rfl⟩⟩⟩, XS_of hI hsp rfl ⟨rfl, rfl, rfl, rfl, rfl, rfl, rfl, rfl, rfl, rfl, rfl, rfl, rfl⟩⟩) hP hD hS
      · skip
        have hP : va_P D vwCl (xW a cI cJ cZ (va_up (va_up v 0 (va_up (v 0) 8 (0))) 18 (g18_22)) (va_up c 25 (g25_22))) H := hP
        have hD : va_D A (xW a cI cJ cZ (va_up (va_up v 0 (va_up (v 0) 8 (0))) 18 (g18_22)) (va_up c 25 (g25_22))) := hD
        refine lv_istore (lv' := [(5, .int (-1)), (0, .ref (a 0)), (1, .int (nI (bt))), (2, .int sh), (3, .int so), (4, .int ii)]) hx hb dX6_opens_25 hl (by decide) rfl (fun ls hl => ?_)
        refine lv_iload hx hb dX6_opens_27 (lv_at hl 0 rfl) ?_
        refine lv_if_eq hx hb dX6_opens_29 (tgt := 37) (by decide) (fun c29 => absurd c29 (by first | assumption | decide)) (fun c29 => ?_)
        refine lv_iload hx hb dX6_opens_32 (lv_at hl 0 rfl) ?_
        refine lv_goto (tgt := 45) hx hb dX6_opens_34 (by decide) ?_
        exact hret (-1) (va_up (va_up v 0 (va_up (v 0) 8 (0))) 18 (g18_22), va_up c 25 (g25_22)) _ _ 45 _ dX6_opens_45 rfl (by exact ⟨_, Or.inl ⟨bt, hb1, hb6, rfl, trivial, Or.inr ⟨_, _, _, _, h_22, rfl, Or.inr (Or.inl ⟨h0_22, hN_22, rfl⟩)⟩⟩, XS_of hI hs_22 rfl ⟨rfl, rfl, rfl, rfl, rfl, rfl, rfl, rfl, rfl, rfl, rfl, rfl, rfl⟩⟩) hP hD hS
      · skip
        have hP : va_P D vwCl (xW a cI cJ cZ (va_up (va_up v 0 (va_up (v 0) 8 (0))) 18 (g18_22)) (va_up c 25 (g25_22))) H := hP
        have hD : va_D A (xW a cI cJ cZ (va_up (va_up v 0 (va_up (v 0) 8 (0))) 18 (g18_22)) (va_up c 25 (g25_22))) := hD
        refine lv_istore (lv' := [(5, .int (nI (0))), (0, .ref (a 0)), (1, .int (nI (bt))), (2, .int sh), (3, .int so), (4, .int ii)]) hx hb dX6_opens_25 hl (by decide) rfl (fun ls hl => ?_)
        refine lv_iload hx hb dX6_opens_27 (lv_at hl 0 rfl) ?_
        refine w_if_eq (x := 0) hx hb dX6_opens_29 (tgt := 37) (by decide) (by decide) (fun _ => ?_) (fun h => absurd h (by decide))
        refine lv_aload_n hx hb dX6_opens_37 rfl (lv_at hl 1 rfl) ?_
        refine va_get (D := D) (ci := 6) (v := .ref (a 10)) (C := RX6) (T := TX6) (N := 9) hx hb hts hinX6 hown hK hP 0 rfl rfl 2 (by decide) (hts (.fieldLink RX6 28 "DancedLock" "dance" "LDancedLock$Dance;") (List.mem_of_getElem? (i := 1) rfl)) (fun _ h9 => h9) rfl dX6_opens_38 ?_
        refine lv_iload_n hx hb dX6_opens_41 rfl (lv_at hl 2 rfl) ?_
        refine w_cVi (rest := []) hx hb hml hown hts (k_doorOpened l D a cI cJ cZ A (va_up (va_up v 0 (va_up (v 0) 8 (0))) 18 (g18_22)) (va_up c 25 (g25_22)) bt  (by show XI (va_up (va_up v 0 (va_up (v 0) 8 (0))) 18 (g18_22)); have h9 := XI_18 (g := g18_22) hI hs_22; exact h9) (by first | assumption | omega)) 1 gX6_opens_X0_doorOpened rfl hdX0_doorOpened ⟨Nat.le_of_ble_eq_true rfl, Nat.le_of_ble_eq_true rfl⟩ hK hN hP hD hS hA 10 0 rfl rfl rfl rfl hl.1 rfl (Nat.le_of_ble_eq_true rfl) dX6_opens_42 ⟨Nat.le_of_ble_eq_true rfl, Nat.le_of_ble_eq_true rfl⟩ (fun r u H locs hq hP hD hS => ?_)
        rcases hq with ⟨g19_42, g20_42, g21_42, nd_42, d_42, rfl, rfl, h1_42, h2_42, h3_42⟩ | ⟨g19_42, g20_42, g21_42, nd_42, rfl, rfl, h3_42⟩
        · skip
          have h1_42 : d_42 < (v 11 1) := h1_42
          have h2_42 : (v 13) d_42 = bt ∧ ∀ j, j < (v 13) d_42 → FE ((v 11 0)) ((v 12)) ((v 15 0)) (lA ((v 16))) (pA ((v 16)) ((v 17))) (g18_22) j = (v 14) (d_42 * 6 + j) := h2_42
          have h3_42 : ∀ e, e < d_42 → ¬ ((v 13) e = bt ∧ ∀ j, j < (v 13) e → FE ((v 11 0)) ((v 12)) ((v 15 0)) (lA ((v 16))) (pA ((v 16)) ((v 17))) (g18_22) j = (v 14) (e * 6 + j)) := h3_42
          have hP : va_P D vwCl (xW a cI cJ cZ (va_up (va_up (va_up (va_up (va_up (va_up v 0 (va_up (v 0) 8 (0))) 10 (va_up (v 10) 6 (nd_42))) 18 (g18_22)) 19 (g19_42)) 20 (g20_42)) 21 (g21_42)) (va_up c 25 (g25_22))) H := hP
          have hD : va_D A (xW a cI cJ cZ (va_up (va_up (va_up (va_up (va_up (va_up v 0 (va_up (v 0) 8 (0))) 10 (va_up (v 10) 6 (nd_42))) 18 (g18_22)) 19 (g19_42)) 20 (g20_42)) 21 (g21_42)) (va_up c 25 (g25_22))) := hD
          exact hret (nI (d_42)) (va_up (va_up (va_up (va_up (va_up (va_up v 0 (va_up (v 0) 8 (0))) 10 (va_up (v 10) 6 (nd_42))) 18 (g18_22)) 19 (g19_42)) 20 (g20_42)) 21 (g21_42), va_up c 25 (g25_22)) _ _ 45 _ dX6_opens_45 rfl (by exact ⟨_, Or.inl ⟨bt, hb1, hb6, rfl, trivial, Or.inr ⟨_, _, _, _, h_22, rfl, Or.inr (Or.inr ⟨h0_22, g18_22, hP_22, Or.inl ⟨d_42, h1_42, rfl, h2_42, h3_42⟩⟩)⟩⟩, XS_of hI hs_22 rfl ⟨rfl, rfl, rfl, rfl, rfl, rfl, rfl, rfl, rfl, rfl, rfl, rfl, rfl⟩⟩) hP hD hS
        · skip
          have h3_42 : ∀ e, e < (v 11 1) → ¬ ((v 13) e = bt ∧ ∀ j, j < (v 13) e → FE ((v 11 0)) ((v 12)) ((v 15 0)) (lA ((v 16))) (pA ((v 16)) ((v 17))) (g18_22) j = (v 14) (e * 6 + j)) := h3_42
          have hP : va_P D vwCl (xW a cI cJ cZ (va_up (va_up (va_up (va_up (va_up (va_up v 0 (va_up (v 0) 8 (0))) 10 (va_up (v 10) 6 (nd_42))) 18 (g18_22)) 19 (g19_42)) 20 (g20_42)) 21 (g21_42)) (va_up c 25 (g25_22))) H := hP
          have hD : va_D A (xW a cI cJ cZ (va_up (va_up (va_up (va_up (va_up (va_up v 0 (va_up (v 0) 8 (0))) 10 (va_up (v 10) 6 (nd_42))) 18 (g18_22)) 19 (g19_42)) 20 (g20_42)) 21 (g21_42)) (va_up c 25 (g25_22))) := hD
          exact hret (-9) (va_up (va_up (va_up (va_up (va_up (va_up v 0 (va_up (v 0) 8 (0))) 10 (va_up (v 10) 6 (nd_42))) 18 (g18_22)) 19 (g19_42)) 20 (g20_42)) 21 (g21_42), va_up c 25 (g25_22)) _ _ 45 _ dX6_opens_45 rfl (by exact ⟨_, Or.inl ⟨bt, hb1, hb6, rfl, trivial, Or.inr ⟨_, _, _, _, h_22, rfl, Or.inr (Or.inr ⟨h0_22, g18_22, hP_22, Or.inr ⟨rfl, h3_42⟩⟩)⟩⟩, XS_of hI hs_22 rfl ⟨rfl, rfl, rfl, rfl, rfl, rfl, rfl, rfl, rfl, rfl, rfl, rfl, rfl⟩⟩) hP hD hS
    · skip
      have hnx : ¬ ∃ bt, 1 ≤ bt ∧ bt ≤ 6 ∧ x = nI bt ∧ True := bt_no (by omega)
      refine lv_iconst (v := nI (1)) hx hb dX6_opens_15 (by decide) ?_
      refine lv_goto (tgt := 20) hx hb dX6_opens_16 (by decide) ?_
      refine lv_iload hx hb dX6_opens_20 (lv_at hl 4 rfl) ?_
      refine w_cVi (rest := []) hx hb hml hown hts (k_takePlan_R l D a cI cJ cZ A v c x sh so ii  (by first | assumption | omega)) 5 gX6_opens_X6_takePlan rfl hdX6_takePlan ⟨Nat.le_of_ble_eq_true rfl, Nat.le_of_ble_eq_true rfl⟩ hK hN hP hD hS hA 0 6 rfl rfl rfl rfl hl.1 rfl (Nat.le_of_ble_eq_true rfl) dX6_opens_22 ⟨Nat.le_of_ble_eq_true rfl, Nat.le_of_ble_eq_true rfl⟩ (fun r u H locs hq hP hD hS => ?_)
      rcases hq with ⟨rfl, rfl, h_22⟩ | ⟨rfl, rfl, h_22⟩
      · skip
        have hP : va_P D vwCl (xW a cI cJ cZ (va_up v 0 (va_up (v 0) 8 (0))) c) H := hP
        have hD : va_D A (xW a cI cJ cZ (va_up v 0 (va_up (v 0) 8 (0))) c) := hD
        refine lv_istore (lv' := [(5, .int (-1)), (0, .ref (a 0)), (1, .int x), (2, .int sh), (3, .int so), (4, .int ii)]) hx hb dX6_opens_25 hl (by decide) rfl (fun ls hl => ?_)
        refine lv_iload hx hb dX6_opens_27 (lv_at hl 0 rfl) ?_
        refine lv_if_eq hx hb dX6_opens_29 (tgt := 37) (by decide) (fun c29 => absurd c29 (by first | assumption | decide)) (fun c29 => ?_)
        refine lv_iload hx hb dX6_opens_32 (lv_at hl 0 rfl) ?_
        refine lv_goto (tgt := 45) hx hb dX6_opens_34 (by decide) ?_
        exact hret (-1) (va_up v 0 (va_up (v 0) 8 (0)), c) _ _ 45 _ dX6_opens_45 rfl (by exact ⟨_, Or.inr ⟨hnx, rfl, Or.inl ⟨h_22, rfl⟩⟩, XS_of hI hsp rfl ⟨rfl, rfl, rfl, rfl, rfl, rfl, rfl, rfl, rfl, rfl, rfl, rfl, rfl⟩⟩) hP hD hS
      · skip
        have hP : va_P D vwCl (xW a cI cJ cZ (va_up v 0 (va_up (v 0) 8 (0))) c) H := hP
        have hD : va_D A (xW a cI cJ cZ (va_up v 0 (va_up (v 0) 8 (0))) c) := hD
        refine lv_istore (lv' := [(5, .int (-2)), (0, .ref (a 0)), (1, .int x), (2, .int sh), (3, .int so), (4, .int ii)]) hx hb dX6_opens_25 hl (by decide) rfl (fun ls hl => ?_)
        refine lv_iload hx hb dX6_opens_27 (lv_at hl 0 rfl) ?_
        refine lv_if_eq hx hb dX6_opens_29 (tgt := 37) (by decide) (fun c29 => absurd c29 (by first | assumption | decide)) (fun c29 => ?_)
        refine lv_iload hx hb dX6_opens_32 (lv_at hl 0 rfl) ?_
        refine lv_goto (tgt := 45) hx hb dX6_opens_34 (by decide) ?_
        exact hret (-2) (va_up v 0 (va_up (v 0) 8 (0)), c) _ _ 45 _ dX6_opens_45 rfl (by exact ⟨_, Or.inr ⟨hnx, rfl, Or.inr ⟨h_22, rfl⟩⟩, XS_of hI hsp rfl ⟨rfl, rfl, rfl, rfl, rfl, rfl, rfl, rfl, rfl, rfl, rfl, rfl, rfl⟩⟩) hP hD hS

set_option maxHeartbeats 4000000 in
set_option maxRecDepth 100000 in
theorem t_felt (l : Launch) (D : va_G) (a : Nat → Nat) (cI cJ cZ : ClassId) (A : Nat → Prop) (v : Nat → Nat → Nat) (c : Nat → Nat → Int32) (x : Int32) (y : Int32) (sh : Int32) (so : Int32) (ii : Int32) (hI : XI v) :
    mI l yX6_felt wsX6_felt 6 141 [.ref (a 0), .int x, .int y, .int sh, .int so, .int ii] D (xT cI cJ cZ) A (xW a cI cJ cZ v c) (fun u : ((Nat → Nat → Nat) × (Nat → Nat → Int32)) => xW a cI cJ cZ u.1 u.2)
    (fun (r : Int32) (u : ((Nat → Nat → Nat) × (Nat → Nat → Int32))) => ∃ F, sp_bt (xNo c) (xHas c) (v 3) (xCell c) (v 11 0) (v 11 1) (v 15 0) x (fun bt => ∃ j, j < bt ∧ y = nI j) sh so ii (fun bt st r => ∃ j, j < bt ∧ y = nI j ∧ r = nI (FE (v 11 0) (v 12) (v 15 0) (lA (v 16)) (pA (v 16) (v 17)) st j)) r F ∧ XS v c u F) := by
  refine w_bI cX6_felt 8 .int (by decide) rfl (Nat.le_of_ble_eq_true rfl) (Or.inl rfl) ?_
  intro p e s m args below meth c0 ls Q hx hb hml hts hown hK hN hA hret hP hD hS hl
  have hl : lv_has ls 8 [(0, .ref (a 0)), (1, .int x), (2, .int y), (3, .int sh), (4, .int so), (5, .int ii)] := hl
  have hinX6 : ∀ w ∈ wsX60, w ∈ wsX6_felt := fun w h => List.mem_cons_of_mem _ (List.mem_append_left _ (List.mem_append_left _ (List.mem_append_left _ (List.mem_append_left _ (List.mem_append_right _ h)))))
  obtain ⟨hnb, hnd, hbt, hfg, hne, hnc, hdk, hnf, hkn, hln, hst, hdc, hsp⟩ := id hI
  have t1 : (nI 1).toInt = 1 := rfl
  have t6 : (nI 6).toInt = 6 := rfl
  refine lv_iload_n hx hb dX6_felt_0 rfl (lv_at hl 1 rfl) ?_
  refine lv_iconst (v := nI (1)) hx hb dX6_felt_1 (by decide) ?_
  refine r_icmp_lt (x := x) (y := nI (1)) hx hb dX6_felt_2 (tgt := 20) (by decide) (fun c2 => ?_) (fun c2 => ?_)
  · skip
    have hnx : ¬ ∃ bt, 1 ≤ bt ∧ bt ≤ 6 ∧ x = nI bt ∧ (fun bt => ∃ j, j < bt ∧ y = nI j) bt := ft_no (by omega)
    refine lv_iconst (v := nI (1)) hx hb dX6_felt_20 (by decide) ?_
    refine lv_goto (tgt := 25) hx hb dX6_felt_21 (by decide) ?_
    refine lv_istore (lv' := [(6, .int (nI (1))), (0, .ref (a 0)), (1, .int x), (2, .int y), (3, .int sh), (4, .int so), (5, .int ii)]) hx hb dX6_felt_25 hl (by decide) rfl (fun ls hl => ?_)
    refine lv_aload_n hx hb dX6_felt_27 rfl (lv_at hl 1 rfl) ?_
    refine lv_iload_n hx hb dX6_felt_28 rfl (lv_at hl 2 rfl) ?_
    refine lv_iload_n hx hb dX6_felt_29 rfl (lv_at hl 4 rfl) ?_
    refine lv_iload hx hb dX6_felt_30 (lv_at hl 5 rfl) ?_
    refine lv_iload hx hb dX6_felt_32 (lv_at hl 0 rfl) ?_
    refine lv_iload hx hb dX6_felt_34 (lv_at hl 6 rfl) ?_
    refine w_cVi (rest := []) hx hb hml hown hts (k_takePlan_R l D a cI cJ cZ A v c x sh so ii  (by first | assumption | omega)) 5 gX6_felt_X6_takePlan rfl hdX6_takePlan ⟨Nat.le_of_ble_eq_true rfl, Nat.le_of_ble_eq_true rfl⟩ hK hN hP hD hS hA 0 6 rfl rfl rfl rfl hl.1 rfl (Nat.le_of_ble_eq_true rfl) dX6_felt_36 ⟨Nat.le_of_ble_eq_true rfl, Nat.le_of_ble_eq_true rfl⟩ (fun r u H locs hq hP hD hS => ?_)
    rcases hq with ⟨rfl, rfl, h_36⟩ | ⟨rfl, rfl, h_36⟩
    · skip
      have hP : va_P D vwCl (xW a cI cJ cZ (va_up v 0 (va_up (v 0) 8 (0))) c) H := hP
      have hD : va_D A (xW a cI cJ cZ (va_up v 0 (va_up (v 0) 8 (0))) c) := hD
      refine lv_istore (lv' := [(7, .int (-1)), (6, .int (nI (1))), (0, .ref (a 0)), (1, .int x), (2, .int y), (3, .int sh), (4, .int so), (5, .int ii)]) hx hb dX6_felt_39 hl (by decide) rfl (fun ls hl => ?_)
      refine lv_iload hx hb dX6_felt_41 (lv_at hl 0 rfl) ?_
      refine lv_if_eq hx hb dX6_felt_43 (tgt := 51) (by decide) (fun c43 => absurd c43 (by first | assumption | decide)) (fun c43 => ?_)
      refine lv_iload hx hb dX6_felt_46 (lv_at hl 0 rfl) ?_
      refine lv_goto (tgt := 59) hx hb dX6_felt_48 (by decide) ?_
      exact hret (-1) (va_up v 0 (va_up (v 0) 8 (0)), c) _ _ 59 _ dX6_felt_59 rfl (by exact ⟨_, Or.inr ⟨hnx, rfl, Or.inl ⟨h_36, rfl⟩⟩, XS_of hI hsp rfl ⟨rfl, rfl, rfl, rfl, rfl, rfl, rfl, rfl, rfl, rfl, rfl, rfl, rfl⟩⟩) hP hD hS
    · skip
      have hP : va_P D vwCl (xW a cI cJ cZ (va_up v 0 (va_up (v 0) 8 (0))) c) H := hP
      have hD : va_D A (xW a cI cJ cZ (va_up v 0 (va_up (v 0) 8 (0))) c) := hD
      refine lv_istore (lv' := [(7, .int (-2)), (6, .int (nI (1))), (0, .ref (a 0)), (1, .int x), (2, .int y), (3, .int sh), (4, .int so), (5, .int ii)]) hx hb dX6_felt_39 hl (by decide) rfl (fun ls hl => ?_)
      refine lv_iload hx hb dX6_felt_41 (lv_at hl 0 rfl) ?_
      refine lv_if_eq hx hb dX6_felt_43 (tgt := 51) (by decide) (fun c43 => absurd c43 (by first | assumption | decide)) (fun c43 => ?_)
      refine lv_iload hx hb dX6_felt_46 (lv_at hl 0 rfl) ?_
      refine lv_goto (tgt := 59) hx hb dX6_felt_48 (by decide) ?_
      exact hret (-2) (va_up v 0 (va_up (v 0) 8 (0)), c) _ _ 59 _ dX6_felt_59 rfl (by exact ⟨_, Or.inr ⟨hnx, rfl, Or.inr ⟨h_36, rfl⟩⟩, XS_of hI hsp rfl ⟨rfl, rfl, rfl, rfl, rfl, rfl, rfl, rfl, rfl, rfl, rfl, rfl, rfl⟩⟩) hP hD hS
  · skip
    refine lv_iload_n hx hb dX6_felt_5 rfl (lv_at hl 1 rfl) ?_
    refine lv_bipush (v := nI (6)) hx hb dX6_felt_6 (by decide) ?_
    refine r_icmp_gt (x := x) (y := nI (6)) hx hb dX6_felt_8 (tgt := 20) (by decide) (fun c8 => ?_) (fun c8 => ?_)
    · skip
      have hnx : ¬ ∃ bt, 1 ≤ bt ∧ bt ≤ 6 ∧ x = nI bt ∧ (fun bt => ∃ j, j < bt ∧ y = nI j) bt := ft_no (by omega)
      refine lv_iconst (v := nI (1)) hx hb dX6_felt_20 (by decide) ?_
      refine lv_goto (tgt := 25) hx hb dX6_felt_21 (by decide) ?_
      refine lv_istore (lv' := [(6, .int (nI (1))), (0, .ref (a 0)), (1, .int x), (2, .int y), (3, .int sh), (4, .int so), (5, .int ii)]) hx hb dX6_felt_25 hl (by decide) rfl (fun ls hl => ?_)
      refine lv_aload_n hx hb dX6_felt_27 rfl (lv_at hl 1 rfl) ?_
      refine lv_iload_n hx hb dX6_felt_28 rfl (lv_at hl 2 rfl) ?_
      refine lv_iload_n hx hb dX6_felt_29 rfl (lv_at hl 4 rfl) ?_
      refine lv_iload hx hb dX6_felt_30 (lv_at hl 5 rfl) ?_
      refine lv_iload hx hb dX6_felt_32 (lv_at hl 0 rfl) ?_
      refine lv_iload hx hb dX6_felt_34 (lv_at hl 6 rfl) ?_
      refine w_cVi (rest := []) hx hb hml hown hts (k_takePlan_R l D a cI cJ cZ A v c x sh so ii  (by first | assumption | omega)) 5 gX6_felt_X6_takePlan rfl hdX6_takePlan ⟨Nat.le_of_ble_eq_true rfl, Nat.le_of_ble_eq_true rfl⟩ hK hN hP hD hS hA 0 6 rfl rfl rfl rfl hl.1 rfl (Nat.le_of_ble_eq_true rfl) dX6_felt_36 ⟨Nat.le_of_ble_eq_true rfl, Nat.le_of_ble_eq_true rfl⟩ (fun r u H locs hq hP hD hS => ?_)
      rcases hq with ⟨rfl, rfl, h_36⟩ | ⟨rfl, rfl, h_36⟩
      · skip
        have hP : va_P D vwCl (xW a cI cJ cZ (va_up v 0 (va_up (v 0) 8 (0))) c) H := hP
        have hD : va_D A (xW a cI cJ cZ (va_up v 0 (va_up (v 0) 8 (0))) c) := hD
        refine lv_istore (lv' := [(7, .int (-1)), (6, .int (nI (1))), (0, .ref (a 0)), (1, .int x), (2, .int y), (3, .int sh), (4, .int so), (5, .int ii)]) hx hb dX6_felt_39 hl (by decide) rfl (fun ls hl => ?_)
        refine lv_iload hx hb dX6_felt_41 (lv_at hl 0 rfl) ?_
        refine lv_if_eq hx hb dX6_felt_43 (tgt := 51) (by decide) (fun c43 => absurd c43 (by first | assumption | decide)) (fun c43 => ?_)
        refine lv_iload hx hb dX6_felt_46 (lv_at hl 0 rfl) ?_
        refine lv_goto (tgt := 59) hx hb dX6_felt_48 (by decide) ?_
        exact hret (-1) (va_up v 0 (va_up (v 0) 8 (0)), c) _ _ 59 _ dX6_felt_59 rfl (by exact ⟨_, Or.inr ⟨hnx, rfl, Or.inl ⟨h_36, rfl⟩⟩, XS_of hI hsp rfl ⟨rfl, rfl, rfl, rfl, rfl, rfl, rfl, rfl, rfl, rfl, rfl, rfl, rfl⟩⟩) hP hD hS
      · skip
        have hP : va_P D vwCl (xW a cI cJ cZ (va_up v 0 (va_up (v 0) 8 (0))) c) H := hP
        have hD : va_D A (xW a cI cJ cZ (va_up v 0 (va_up (v 0) 8 (0))) c) := hD
        refine lv_istore (lv' := [(7, .int (-2)), (6, .int (nI (1))), (0, .ref (a 0)), (1, .int x), (2, .int y), (3, .int sh), (4, .int so), (5, .int ii)]) hx hb dX6_felt_39 hl (by decide) rfl (fun ls hl => ?_)
        refine lv_iload hx hb dX6_felt_41 (lv_at hl 0 rfl) ?_
        refine lv_if_eq hx hb dX6_felt_43 (tgt := 51) (by decide) (fun c43 => absurd c43 (by first | assumption | decide)) (fun c43 => ?_)
        refine lv_iload hx hb dX6_felt_46 (lv_at hl 0 rfl) ?_
        refine lv_goto (tgt := 59) hx hb dX6_felt_48 (by decide) ?_
        exact hret (-2) (va_up v 0 (va_up (v 0) 8 (0)), c) _ _ 59 _ dX6_felt_59 rfl (by exact ⟨_, Or.inr ⟨hnx, rfl, Or.inr ⟨h_36, rfl⟩⟩, XS_of hI hsp rfl ⟨rfl, rfl, rfl, rfl, rfl, rfl, rfl, rfl, rfl, rfl, rfl, rfl, rfl⟩⟩) hP hD hS
    · skip
      refine lv_iload_n hx hb dX6_felt_11 rfl (lv_at hl 2 rfl) ?_
      refine r_if_lt hx hb dX6_felt_12 (tgt := 20) (by decide) (fun c12 => ?_) (fun c12 => ?_)
      · skip
        have hnx : ¬ ∃ bt, 1 ≤ bt ∧ bt ≤ 6 ∧ x = nI bt ∧ (fun bt => ∃ j, j < bt ∧ y = nI j) bt := ft_no (by omega)
        refine lv_iconst (v := nI (1)) hx hb dX6_felt_20 (by decide) ?_
        refine lv_goto (tgt := 25) hx hb dX6_felt_21 (by decide) ?_
        refine lv_istore (lv' := [(6, .int (nI (1))), (0, .ref (a 0)), (1, .int x), (2, .int y), (3, .int sh), (4, .int so), (5, .int ii)]) hx hb dX6_felt_25 hl (by decide) rfl (fun ls hl => ?_)
        refine lv_aload_n hx hb dX6_felt_27 rfl (lv_at hl 1 rfl) ?_
        refine lv_iload_n hx hb dX6_felt_28 rfl (lv_at hl 2 rfl) ?_
        refine lv_iload_n hx hb dX6_felt_29 rfl (lv_at hl 4 rfl) ?_
        refine lv_iload hx hb dX6_felt_30 (lv_at hl 5 rfl) ?_
        refine lv_iload hx hb dX6_felt_32 (lv_at hl 0 rfl) ?_
        refine lv_iload hx hb dX6_felt_34 (lv_at hl 6 rfl) ?_
        refine w_cVi (rest := []) hx hb hml hown hts (k_takePlan_R l D a cI cJ cZ A v c x sh so ii  (by first | assumption | omega)) 5 gX6_felt_X6_takePlan rfl hdX6_takePlan ⟨Nat.le_of_ble_eq_true rfl, Nat.le_of_ble_eq_true rfl⟩ hK hN hP hD hS hA 0 6 rfl rfl rfl rfl hl.1 rfl (Nat.le_of_ble_eq_true rfl) dX6_felt_36 ⟨Nat.le_of_ble_eq_true rfl, Nat.le_of_ble_eq_true rfl⟩ (fun r u H locs hq hP hD hS => ?_)
        rcases hq with ⟨rfl, rfl, h_36⟩ | ⟨rfl, rfl, h_36⟩
        · skip
          have hP : va_P D vwCl (xW a cI cJ cZ (va_up v 0 (va_up (v 0) 8 (0))) c) H := hP
          have hD : va_D A (xW a cI cJ cZ (va_up v 0 (va_up (v 0) 8 (0))) c) := hD
          refine lv_istore (lv' := [(7, .int (-1)), (6, .int (nI (1))), (0, .ref (a 0)), (1, .int x), (2, .int y), (3, .int sh), (4, .int so), (5, .int ii)]) hx hb dX6_felt_39 hl (by decide) rfl (fun ls hl => ?_)
          refine lv_iload hx hb dX6_felt_41 (lv_at hl 0 rfl) ?_
          refine lv_if_eq hx hb dX6_felt_43 (tgt := 51) (by decide) (fun c43 => absurd c43 (by first | assumption | decide)) (fun c43 => ?_)
          refine lv_iload hx hb dX6_felt_46 (lv_at hl 0 rfl) ?_
          refine lv_goto (tgt := 59) hx hb dX6_felt_48 (by decide) ?_
          exact hret (-1) (va_up v 0 (va_up (v 0) 8 (0)), c) _ _ 59 _ dX6_felt_59 rfl (by exact ⟨_, Or.inr ⟨hnx, rfl, Or.inl ⟨h_36, rfl⟩⟩, XS_of hI hsp rfl ⟨rfl, rfl, rfl, rfl, rfl, rfl, rfl, rfl, rfl, rfl, rfl, rfl, rfl⟩⟩) hP hD hS
        · skip
          have hP : va_P D vwCl (xW a cI cJ cZ (va_up v 0 (va_up (v 0) 8 (0))) c) H := hP
          have hD : va_D A (xW a cI cJ cZ (va_up v 0 (va_up (v 0) 8 (0))) c) := hD
          refine lv_istore (lv' := [(7, .int (-2)), (6, .int (nI (1))), (0, .ref (a 0)), (1, .int x), (2, .int y), (3, .int sh), (4, .int so), (5, .int ii)]) hx hb dX6_felt_39 hl (by decide) rfl (fun ls hl => ?_)
          refine lv_iload hx hb dX6_felt_41 (lv_at hl 0 rfl) ?_
          refine lv_if_eq hx hb dX6_felt_43 (tgt := 51) (by decide) (fun c43 => absurd c43 (by first | assumption | decide)) (fun c43 => ?_)
          refine lv_iload hx hb dX6_felt_46 (lv_at hl 0 rfl) ?_
          refine lv_goto (tgt := 59) hx hb dX6_felt_48 (by decide) ?_
          exact hret (-2) (va_up v 0 (va_up (v 0) 8 (0)), c) _ _ 59 _ dX6_felt_59 rfl (by exact ⟨_, Or.inr ⟨hnx, rfl, Or.inr ⟨h_36, rfl⟩⟩, XS_of hI hsp rfl ⟨rfl, rfl, rfl, rfl, rfl, rfl, rfl, rfl, rfl, rfl, rfl, rfl, rfl⟩⟩) hP hD hS
      · skip
        refine lv_iload_n hx hb dX6_felt_15 rfl (lv_at hl 2 rfl) ?_
        refine lv_iload_n hx hb dX6_felt_16 rfl (lv_at hl 1 rfl) ?_
        refine r_icmp_lt (x := y) (y := x) hx hb dX6_felt_17 (tgt := 24) (by decide) (fun c17 => ?_) (fun c17 => ?_)
        · skip
          obtain ⟨bt, hb1, hb6, rfl⟩ := bt_ex (x := x) (by omega) (by omega)
          have bT := n_tI (k := bt) (by omega)
          obtain ⟨jj, hjj, rfl⟩ := jj_ex hb6 (by omega) (by omega)
          refine lv_iconst (v := nI (0)) hx hb dX6_felt_24 (by decide) ?_
          refine lv_istore (lv' := [(6, .int (nI (0))), (0, .ref (a 0)), (1, .int (nI (bt))), (2, .int (nI (jj))), (3, .int sh), (4, .int so), (5, .int ii)]) hx hb dX6_felt_25 hl (by decide) rfl (fun ls hl => ?_)
          refine lv_aload_n hx hb dX6_felt_27 rfl (lv_at hl 1 rfl) ?_
          refine lv_iload_n hx hb dX6_felt_28 rfl (lv_at hl 2 rfl) ?_
          refine lv_iload_n hx hb dX6_felt_29 rfl (lv_at hl 4 rfl) ?_
          refine lv_iload hx hb dX6_felt_30 (lv_at hl 5 rfl) ?_
          refine lv_iload hx hb dX6_felt_32 (lv_at hl 0 rfl) ?_
          refine lv_iload hx hb dX6_felt_34 (lv_at hl 6 rfl) ?_
          refine w_cVi (rest := []) hx hb hml hown hts (k_takePlan_N l D a cI cJ cZ A v c bt sh so ii  (by first | assumption | omega) (by first | assumption | omega)) 5 gX6_felt_X6_takePlan rfl hdX6_takePlan ⟨Nat.le_of_ble_eq_true rfl, Nat.le_of_ble_eq_true rfl⟩ hK hN hP hD hS hA 0 6 rfl rfl rfl rfl hl.1 rfl (Nat.le_of_ble_eq_true rfl) dX6_felt_36 ⟨Nat.le_of_ble_eq_true rfl, Nat.le_of_ble_eq_true rfl⟩ (fun r u H locs hq hP hD hS => ?_)
          rcases hq with ⟨r0_36, F_36, hr_36, rfl, h_36, hne_36⟩ | ⟨k1_36, s1_36, j1_36, g25_36, rfl, rfl, h_36, h0_36⟩ | ⟨k1_36, s1_36, j1_36, g25_36, g18_36, rfl, rfl, h_36, h0_36, hN_36, hs_36⟩ | ⟨k1_36, s1_36, j1_36, g25_36, g18_36, rfl, rfl, h_36, h0_36, hP_36, hs_36⟩
          · skip
            rw [hr_36]
            have hP : va_P D vwCl (xW a cI cJ cZ (va_up v 0 (va_up (v 0) 8 (F_36))) c) H := hP
            have hD : va_D A (xW a cI cJ cZ (va_up v 0 (va_up (v 0) 8 (F_36))) c) := hD
            refine lv_istore (lv' := [(7, .int r0_36), (6, .int (nI (0))), (0, .ref (a 0)), (1, .int (nI (bt))), (2, .int (nI (jj))), (3, .int sh), (4, .int so), (5, .int ii)]) hx hb dX6_felt_39 hl (by decide) rfl (fun ls hl => ?_)
            refine lv_iload hx hb dX6_felt_41 (lv_at hl 0 rfl) ?_
            refine lv_if_eq hx hb dX6_felt_43 (tgt := 51) (by decide) (fun c43 => absurd c43 (by first | assumption | decide)) (fun c43 => ?_)
            refine lv_iload hx hb dX6_felt_46 (lv_at hl 0 rfl) ?_
            refine lv_goto (tgt := 59) hx hb dX6_felt_48 (by decide) ?_
            exact hret (r0_36) (va_up v 0 (va_up (v 0) 8 (F_36)), c) _ _ 59 _ dX6_felt_59 rfl (by exact ⟨_, Or.inl ⟨bt, hb1, hb6, rfl, ⟨jj, hjj, rfl⟩, Or.inl h_36⟩, XS_of hI hsp rfl ⟨rfl, rfl, rfl, rfl, rfl, rfl, rfl, rfl, rfl, rfl, rfl, rfl, rfl⟩⟩) hP hD hS
          · skip
            have hP : va_P D vwCl (xW a cI cJ cZ (va_up v 0 (va_up (v 0) 8 (0))) (va_up c 25 (g25_36))) H := hP
            have hD : va_D A (xW a cI cJ cZ (va_up v 0 (va_up (v 0) 8 (0))) (va_up c 25 (g25_36))) := hD
            refine lv_istore (lv' := [(7, .int (-3)), (6, .int (nI (0))), (0, .ref (a 0)), (1, .int (nI (bt))), (2, .int (nI (jj))), (3, .int sh), (4, .int so), (5, .int ii)]) hx hb dX6_felt_39 hl (by decide) rfl (fun ls hl => ?_)
            refine lv_iload hx hb dX6_felt_41 (lv_at hl 0 rfl) ?_
            refine lv_if_eq hx hb dX6_felt_43 (tgt := 51) (by decide) (fun c43 => absurd c43 (by first | assumption | decide)) (fun c43 => ?_)
            refine lv_iload hx hb dX6_felt_46 (lv_at hl 0 rfl) ?_
            refine lv_goto (tgt := 59) hx hb dX6_felt_48 (by decide) ?_
            exact hret (-3) (va_up v 0 (va_up (v 0) 8 (0)), va_up c 25 (g25_36)) _ _ 59 _ dX6_felt_59 rfl (by exact ⟨_, Or.inl ⟨bt, hb1, hb6, rfl, ⟨jj, hjj, rfl⟩, Or.inr ⟨_, _, _, _, h_36, rfl, Or.inl ⟨h0_36, rfl⟩⟩⟩, XS_of hI hsp rfl ⟨rfl, rfl, rfl, rfl, rfl, rfl, rfl, rfl, rfl, rfl, rfl, rfl, rfl⟩⟩) hP hD hS
          · skip
            have hP : va_P D vwCl (xW a cI cJ cZ (va_up (va_up v 0 (va_up (v 0) 8 (0))) 18 (g18_36)) (va_up c 25 (g25_36))) H := hP
            have hD : va_D A (xW a cI cJ cZ (va_up (va_up v 0 (va_up (v 0) 8 (0))) 18 (g18_36)) (va_up c 25 (g25_36))) := hD
            refine lv_istore (lv' := [(7, .int (-1)), (6, .int (nI (0))), (0, .ref (a 0)), (1, .int (nI (bt))), (2, .int (nI (jj))), (3, .int sh), (4, .int so), (5, .int ii)]) hx hb dX6_felt_39 hl (by decide) rfl (fun ls hl => ?_)
            refine lv_iload hx hb dX6_felt_41 (lv_at hl 0 rfl) ?_
            refine lv_if_eq hx hb dX6_felt_43 (tgt := 51) (by decide) (fun c43 => absurd c43 (by first | assumption | decide)) (fun c43 => ?_)
            refine lv_iload hx hb dX6_felt_46 (lv_at hl 0 rfl) ?_
            refine lv_goto (tgt := 59) hx hb dX6_felt_48 (by decide) ?_
            exact hret (-1) (va_up (va_up v 0 (va_up (v 0) 8 (0))) 18 (g18_36), va_up c 25 (g25_36)) _ _ 59 _ dX6_felt_59 rfl (by exact ⟨_, Or.inl ⟨bt, hb1, hb6, rfl, ⟨jj, hjj, rfl⟩, Or.inr ⟨_, _, _, _, h_36, rfl, Or.inr (Or.inl ⟨h0_36, hN_36, rfl⟩)⟩⟩, XS_of hI hs_36 rfl ⟨rfl, rfl, rfl, rfl, rfl, rfl, rfl, rfl, rfl, rfl, rfl, rfl, rfl⟩⟩) hP hD hS
          · skip
            have hP : va_P D vwCl (xW a cI cJ cZ (va_up (va_up v 0 (va_up (v 0) 8 (0))) 18 (g18_36)) (va_up c 25 (g25_36))) H := hP
            have hD : va_D A (xW a cI cJ cZ (va_up (va_up v 0 (va_up (v 0) 8 (0))) 18 (g18_36)) (va_up c 25 (g25_36))) := hD
            refine lv_istore (lv' := [(7, .int (nI (0))), (6, .int (nI (0))), (0, .ref (a 0)), (1, .int (nI (bt))), (2, .int (nI (jj))), (3, .int sh), (4, .int so), (5, .int ii)]) hx hb dX6_felt_39 hl (by decide) rfl (fun ls hl => ?_)
            refine lv_iload hx hb dX6_felt_41 (lv_at hl 0 rfl) ?_
            refine w_if_eq (x := 0) hx hb dX6_felt_43 (tgt := 51) (by decide) (by decide) (fun _ => ?_) (fun h => absurd h (by decide))
            refine lv_aload_n hx hb dX6_felt_51 rfl (lv_at hl 2 rfl) ?_
            refine va_get (D := D) (ci := 6) (v := .ref (a 10)) (C := RX6) (T := TX6) (N := 9) hx hb hts hinX6 hown hK hP 0 rfl rfl 2 (by decide) (hts (.fieldLink RX6 28 "DancedLock" "dance" "LDancedLock$Dance;") (List.mem_of_getElem? (i := 1) rfl)) (fun _ h9 => h9) rfl dX6_felt_52 ?_
            refine lv_iload_n hx hb dX6_felt_55 rfl (lv_at hl 4 rfl) ?_
            refine w_cVi (rest := []) hx hb hml hown hts (k_feltIn l D a cI cJ cZ A (va_up (va_up v 0 (va_up (v 0) 8 (0))) 18 (g18_36)) (va_up c 25 (g25_36)) jj  (by show XI (va_up (va_up v 0 (va_up (v 0) 8 (0))) 18 (g18_36)); have h9 := XI_18 (g := g18_36) hI hs_36; exact h9) (by omega)) 1 gX6_felt_X0_feltIn rfl hdX0_feltIn ⟨Nat.le_of_ble_eq_true rfl, Nat.le_of_ble_eq_true rfl⟩ hK hN hP hD hS hA 10 0 rfl rfl rfl rfl hl.1 rfl (Nat.le_of_ble_eq_true rfl) dX6_felt_56 ⟨Nat.le_of_ble_eq_true rfl, Nat.le_of_ble_eq_true rfl⟩ (fun r u H locs hq hP hD hS => ?_)
            obtain ⟨g19_56, g20_56, g21_56, hr_56, rfl⟩ := hq
            have hr_56 : r = nI (FE ((v 11 0)) ((v 12)) ((v 15 0)) (lA ((v 16))) (pA ((v 16)) ((v 17))) (g18_36) jj) := hr_56
            subst hr_56
            have hP : va_P D vwCl (xW a cI cJ cZ (va_up (va_up (va_up (va_up (va_up (va_up v 0 (va_up (v 0) 8 (0))) 10 (va_up (v 10) 6 ((v 15 0)))) 18 (g18_36)) 19 (g19_56)) 20 (g20_56)) 21 (g21_56)) (va_up c 25 (g25_36))) H := hP
            have hD : va_D A (xW a cI cJ cZ (va_up (va_up (va_up (va_up (va_up (va_up v 0 (va_up (v 0) 8 (0))) 10 (va_up (v 10) 6 ((v 15 0)))) 18 (g18_36)) 19 (g19_56)) 20 (g20_56)) 21 (g21_56)) (va_up c 25 (g25_36))) := hD
            exact hret (nI (FE ((v 11 0)) ((v 12)) ((v 15 0)) (lA ((v 16))) (pA ((v 16)) ((v 17))) (g18_36) jj)) (va_up (va_up (va_up (va_up (va_up (va_up v 0 (va_up (v 0) 8 (0))) 10 (va_up (v 10) 6 ((v 15 0)))) 18 (g18_36)) 19 (g19_56)) 20 (g20_56)) 21 (g21_56), va_up c 25 (g25_36)) _ _ 59 _ dX6_felt_59 rfl (by exact ⟨_, Or.inl ⟨bt, hb1, hb6, rfl, ⟨jj, hjj, rfl⟩, Or.inr ⟨_, _, _, _, h_36, rfl, Or.inr (Or.inr ⟨h0_36, g18_36, hP_36, ⟨jj, hjj, rfl, rfl⟩⟩)⟩⟩, XS_of hI hs_36 rfl ⟨rfl, rfl, rfl, rfl, rfl, rfl, rfl, rfl, rfl, rfl, rfl, rfl, rfl⟩⟩) hP hD hS
        · skip
          have hnx : ¬ ∃ bt, 1 ≤ bt ∧ bt ≤ 6 ∧ x = nI bt ∧ (fun bt => ∃ j, j < bt ∧ y = nI j) bt := ft_no (by omega)
          refine lv_iconst (v := nI (1)) hx hb dX6_felt_20 (by decide) ?_
          refine lv_goto (tgt := 25) hx hb dX6_felt_21 (by decide) ?_
          refine lv_istore (lv' := [(6, .int (nI (1))), (0, .ref (a 0)), (1, .int x), (2, .int y), (3, .int sh), (4, .int so), (5, .int ii)]) hx hb dX6_felt_25 hl (by decide) rfl (fun ls hl => ?_)
          refine lv_aload_n hx hb dX6_felt_27 rfl (lv_at hl 1 rfl) ?_
          refine lv_iload_n hx hb dX6_felt_28 rfl (lv_at hl 2 rfl) ?_
          refine lv_iload_n hx hb dX6_felt_29 rfl (lv_at hl 4 rfl) ?_
          refine lv_iload hx hb dX6_felt_30 (lv_at hl 5 rfl) ?_
          refine lv_iload hx hb dX6_felt_32 (lv_at hl 0 rfl) ?_
          refine lv_iload hx hb dX6_felt_34 (lv_at hl 6 rfl) ?_
          refine w_cVi (rest := []) hx hb hml hown hts (k_takePlan_R l D a cI cJ cZ A v c x sh so ii  (by first | assumption | omega)) 5 gX6_felt_X6_takePlan rfl hdX6_takePlan ⟨Nat.le_of_ble_eq_true rfl, Nat.le_of_ble_eq_true rfl⟩ hK hN hP hD hS hA 0 6 rfl rfl rfl rfl hl.1 rfl (Nat.le_of_ble_eq_true rfl) dX6_felt_36 ⟨Nat.le_of_ble_eq_true rfl, Nat.le_of_ble_eq_true rfl⟩ (fun r u H locs hq hP hD hS => ?_)
          rcases hq with ⟨rfl, rfl, h_36⟩ | ⟨rfl, rfl, h_36⟩
          · skip
            have hP : va_P D vwCl (xW a cI cJ cZ (va_up v 0 (va_up (v 0) 8 (0))) c) H := hP
            have hD : va_D A (xW a cI cJ cZ (va_up v 0 (va_up (v 0) 8 (0))) c) := hD
            refine lv_istore (lv' := [(7, .int (-1)), (6, .int (nI (1))), (0, .ref (a 0)), (1, .int x), (2, .int y), (3, .int sh), (4, .int so), (5, .int ii)]) hx hb dX6_felt_39 hl (by decide) rfl (fun ls hl => ?_)
            refine lv_iload hx hb dX6_felt_41 (lv_at hl 0 rfl) ?_
            refine lv_if_eq hx hb dX6_felt_43 (tgt := 51) (by decide) (fun c43 => absurd c43 (by first | assumption | decide)) (fun c43 => ?_)
            refine lv_iload hx hb dX6_felt_46 (lv_at hl 0 rfl) ?_
            refine lv_goto (tgt := 59) hx hb dX6_felt_48 (by decide) ?_
            exact hret (-1) (va_up v 0 (va_up (v 0) 8 (0)), c) _ _ 59 _ dX6_felt_59 rfl (by exact ⟨_, Or.inr ⟨hnx, rfl, Or.inl ⟨h_36, rfl⟩⟩, XS_of hI hsp rfl ⟨rfl, rfl, rfl, rfl, rfl, rfl, rfl, rfl, rfl, rfl, rfl, rfl, rfl⟩⟩) hP hD hS
          · skip
            have hP : va_P D vwCl (xW a cI cJ cZ (va_up v 0 (va_up (v 0) 8 (0))) c) H := hP
            have hD : va_D A (xW a cI cJ cZ (va_up v 0 (va_up (v 0) 8 (0))) c) := hD
            refine lv_istore (lv' := [(7, .int (-2)), (6, .int (nI (1))), (0, .ref (a 0)), (1, .int x), (2, .int y), (3, .int sh), (4, .int so), (5, .int ii)]) hx hb dX6_felt_39 hl (by decide) rfl (fun ls hl => ?_)
            refine lv_iload hx hb dX6_felt_41 (lv_at hl 0 rfl) ?_
            refine lv_if_eq hx hb dX6_felt_43 (tgt := 51) (by decide) (fun c43 => absurd c43 (by first | assumption | decide)) (fun c43 => ?_)
            refine lv_iload hx hb dX6_felt_46 (lv_at hl 0 rfl) ?_
            refine lv_goto (tgt := 59) hx hb dX6_felt_48 (by decide) ?_
            exact hret (-2) (va_up v 0 (va_up (v 0) 8 (0)), c) _ _ 59 _ dX6_felt_59 rfl (by exact ⟨_, Or.inr ⟨hnx, rfl, Or.inr ⟨h_36, rfl⟩⟩, XS_of hI hsp rfl ⟨rfl, rfl, rfl, rfl, rfl, rfl, rfl, rfl, rfl, rfl, rfl, rfl, rfl⟩⟩) hP hD hS

set_option maxHeartbeats 4000000 in
set_option maxRecDepth 100000 in
theorem t_wrong (l : Launch) (D : va_G) (a : Nat → Nat) (cI cJ cZ : ClassId) (A : Nat → Prop) (v : Nat → Nat → Nat) (c : Nat → Nat → Int32) (x : Int32) (sh : Int32) (so : Int32) (ii : Int32) (hI : XI v) :
    mI l yX6_wrong wsX6_wrong 6 141 [.ref (a 0), .int x, .int sh, .int so, .int ii] D (xT cI cJ cZ) A (xW a cI cJ cZ v c) (fun u : ((Nat → Nat → Nat) × (Nat → Nat → Int32)) => xW a cI cJ cZ u.1 u.2)
    (fun (r : Int32) (u : ((Nat → Nat → Nat) × (Nat → Nat → Int32))) => ∃ F, sp_wrong (xNo c) (xHas c) (v 3) (xCell c) (v 11 0) (v 11 1) (v 15 0) (v 13) x sh so ii (fun d st r => sp_wrg (v 11 0) (v 12) (v 15 0) (lA (v 16)) (pA (v 16) (v 17)) st (v 13) (xFig v) d r) r F ∧ XS v c u F) := by
  refine w_bI cX6_wrong 6 .int (by decide) rfl (Nat.le_of_ble_eq_true rfl) (Or.inl rfl) ?_
  intro p e s m args below meth c0 ls Q hx hb hml hts hown hK hN hA hret hP hD hS hl
  have hl : lv_has ls 6 [(0, .ref (a 0)), (1, .int x), (2, .int sh), (3, .int so), (4, .int ii)] := hl
  have hinX6 : ∀ w ∈ wsX60, w ∈ wsX6_wrong := fun w h => List.mem_cons_of_mem _ (List.mem_append_left _ (List.mem_append_left _ (List.mem_append_left _ (List.mem_append_left _ (List.mem_append_right _ h)))))
  obtain ⟨hnb, hnd, hbt, hfg, hne, hnc, hdk, hnf, hkn, hln, hst, hdc, hsp⟩ := id hI
  refine lv_aload_n hx hb dX6_wrong_0 rfl (lv_at hl 0 rfl) ?_
  refine lv_iconst (v := nI (0)) hx hb dX6_wrong_1 (by decide) ?_
  refine va_put (D := D) (ci := 6) (v := .int (nI (0))) (ty := .int) (C := RX6) (T := TX6) (N := 9) hx hb hts hinX6 tyX6 tyX6_ok nmX6 hown hK hP hD hS 0 rfl rfl 8 (by decide) (hts (.fieldLink RX6 147 "DancedLock" "latestFault" "I") (List.mem_of_getElem? (i := 1) rfl)) (fun _ h9 => h9) rfl (by decide +kernel) rfl (rfl) (Nat.le_of_ble_eq_true rfl) dX6_wrong_2 (fun H locs hP hD hS => ?_)
  have hP : va_P D vwCl (xW a cI cJ cZ (va_up v 0 (va_up (v 0) 8 (0))) c) H := hP
  have hD : va_D A (xW a cI cJ cZ (va_up v 0 (va_up (v 0) 8 (0))) c) := hD
  refine lv_aload_n hx hb dX6_wrong_5 rfl (lv_at hl 0 rfl) ?_
  refine va_get (D := D) (ci := 6) (v := .ref (a 11)) (C := RX6) (T := TX6) (N := 9) hx hb hts hinX6 hown hK hP 0 rfl rfl 3 (by decide) (hts (.fieldLink RX6 36 "DancedLock" "floor" "LDancedLock$Floor;") (List.mem_of_getElem? (i := 2) rfl)) (fun _ h9 => h9) rfl dX6_wrong_6 ?_
  refine lv_iload_n hx hb dX6_wrong_9 rfl (lv_at hl 1 rfl) ?_
  refine w_cVi (rest := []) hx hb hml hown hts (k_hasDoor_R l D a cI cJ cZ A (va_up v 0 (va_up (v 0) 8 (0))) c x  (by show (v 11 1) ≤ 4; first | assumption | omega)) 1 gX6_wrong_X2_hasDoor rfl hdX2_hasDoor ⟨Nat.le_of_ble_eq_true rfl, Nat.le_of_ble_eq_true rfl⟩ hK hN hP hD hS hA 11 2 rfl rfl rfl rfl hl.1 rfl (Nat.le_of_ble_eq_true rfl) dX6_wrong_10 ⟨Nat.le_of_ble_eq_true rfl, Nat.le_of_ble_eq_true rfl⟩ (fun r u H locs hq hP hD hS => ?_)
  rcases hq with ⟨j_10, rfl, h_10, hs_x_10⟩ | ⟨rfl, h_10⟩
  · skip
    have h_10 : j_10 < (v 11 1) := h_10
    have hP : va_P D vwCl (xW a cI cJ cZ (va_up v 0 (va_up (v 0) 8 (0))) c) H := hP
    have hD : va_D A (xW a cI cJ cZ (va_up v 0 (va_up (v 0) 8 (0))) c) := hD
    subst hs_x_10
    have j_10T := n_tI (k := j_10) (by omega)
    refine w_if_ne (x := 1) hx hb dX6_wrong_13 (tgt := 18) (by decide) (by decide) (fun _ => ?_) (fun h => absurd h (by decide))
    refine lv_aload_n hx hb dX6_wrong_18 rfl (lv_at hl 0 rfl) ?_
    refine lv_aload_n hx hb dX6_wrong_19 rfl (lv_at hl 0 rfl) ?_
    refine va_get (D := D) (ci := 6) (v := .ref (a 11)) (C := RX6) (T := TX6) (N := 9) hx hb hts hinX6 hown hK hP 0 rfl rfl 3 (by decide) (hts (.fieldLink RX6 36 "DancedLock" "floor" "LDancedLock$Floor;") (List.mem_of_getElem? (i := 2) rfl)) (fun _ h9 => h9) rfl dX6_wrong_20 ?_
    refine lv_iload_n hx hb dX6_wrong_23 rfl (lv_at hl 1 rfl) ?_
    refine w_cVi (rest := [.ref (a 0)]) hx hb hml hown hts (k_beatsOf l D a cI cJ cZ A (va_up v 0 (va_up (v 0) 8 (0))) c j_10  (by show (v 11 1) ≤ 4; first | assumption | omega) (by show j_10 < (v 11 1); first | assumption | omega)) 1 gX6_wrong_X2_beatsOf rfl hdX2_beatsOf ⟨Nat.le_of_ble_eq_true rfl, Nat.le_of_ble_eq_true rfl⟩ hK hN hP hD hS hA 11 2 rfl rfl rfl rfl hl.1 rfl (Nat.le_of_ble_eq_true rfl) dX6_wrong_24 ⟨Nat.le_of_ble_eq_true rfl, Nat.le_of_ble_eq_true rfl⟩ (fun r u H locs hq hP hD hS => ?_)
    have hr_24 := hq
    have hr_24 : r = nI ((v 13) j_10) := hr_24
    subst hr_24
    have hP : va_P D vwCl (xW a cI cJ cZ (va_up v 0 (va_up (v 0) 8 (0))) c) H := hP
    have hD : va_D A (xW a cI cJ cZ (va_up v 0 (va_up (v 0) 8 (0))) c) := hD
    refine lv_iload_n hx hb dX6_wrong_27 rfl (lv_at hl 2 rfl) ?_
    refine lv_iload_n hx hb dX6_wrong_28 rfl (lv_at hl 3 rfl) ?_
    refine lv_iconst (v := nI (0)) hx hb dX6_wrong_29 (by decide) ?_
    refine lv_iload hx hb dX6_wrong_30 (lv_at hl 4 rfl) ?_
    refine w_cVi (rest := []) hx hb hml hown hts (k_takePlan_N l D a cI cJ cZ A (va_up v 0 (va_up (v 0) 8 (0))) c ((v 13) j_10) sh so ii  (by show XI (va_up v 0 (va_up (v 0) 8 (0))); exact hI) (by exact (hbt _ h_10).2)) 5 gX6_wrong_X6_takePlan rfl hdX6_takePlan ⟨Nat.le_of_ble_eq_true rfl, Nat.le_of_ble_eq_true rfl⟩ hK hN hP hD hS hA 0 6 rfl rfl rfl rfl hl.1 rfl (Nat.le_of_ble_eq_true rfl) dX6_wrong_32 ⟨Nat.le_of_ble_eq_true rfl, Nat.le_of_ble_eq_true rfl⟩ (fun r u H locs hq hP hD hS => ?_)
    rcases hq with ⟨r0_32, F_32, hr_32, rfl, h_32, hne_32⟩ | ⟨k1_32, s1_32, j1_32, g25_32, rfl, rfl, h_32, h0_32⟩ | ⟨k1_32, s1_32, j1_32, g25_32, g18_32, rfl, rfl, h_32, h0_32, hN_32, hs_32⟩ | ⟨k1_32, s1_32, j1_32, g25_32, g18_32, rfl, rfl, h_32, h0_32, hP_32, hs_32⟩
    · skip
      have h_32 : tkB (xNo c) (xHas c) ((v 3)) sh so False ii (nI (((v 13) j_10) * (v 15 0))) r0_32 F_32 := h_32
      rw [hr_32]
      have hP : va_P D vwCl (xW a cI cJ cZ (va_up v 0 (va_up (v 0) 8 (F_32))) c) H := hP
      have hD : va_D A (xW a cI cJ cZ (va_up v 0 (va_up (v 0) 8 (F_32))) c) := hD
      refine lv_istore (lv' := [(5, .int r0_32), (0, .ref (a 0)), (1, .int (nI (j_10))), (2, .int sh), (3, .int so), (4, .int ii)]) hx hb dX6_wrong_35 hl (by decide) rfl (fun ls hl => ?_)
      refine lv_iload hx hb dX6_wrong_37 (lv_at hl 0 rfl) ?_
      refine lv_if_eq hx hb dX6_wrong_39 (tgt := 47) (by decide) (fun c39 => absurd c39 (by first | assumption | decide)) (fun c39 => ?_)
      refine lv_iload hx hb dX6_wrong_42 (lv_at hl 0 rfl) ?_
      refine lv_goto (tgt := 55) hx hb dX6_wrong_44 (by decide) ?_
      exact hret (r0_32) (va_up v 0 (va_up (v 0) 8 (F_32)), c) _ _ 55 _ dX6_wrong_55 rfl (by exact ⟨_, Or.inl ⟨j_10, h_10, rfl, Or.inl h_32⟩, XS_of hI hsp rfl ⟨rfl, rfl, rfl, rfl, rfl, rfl, rfl, rfl, rfl, rfl, rfl, rfl, rfl⟩⟩) hP hD hS
    · skip
      have h_32 : tkY (xHas c) ((v 3)) sh so False ii (nI (((v 13) j_10) * (v 15 0))) k1_32 s1_32 j1_32 (((v 13) j_10) * (v 15 0)) := h_32
      have h0_32 : (v 11 1) = 0 := h0_32
      have hP : va_P D vwCl (xW a cI cJ cZ (va_up v 0 (va_up (v 0) 8 (0))) (va_up c 25 (g25_32))) H := hP
      have hD : va_D A (xW a cI cJ cZ (va_up v 0 (va_up (v 0) 8 (0))) (va_up c 25 (g25_32))) := hD
      refine lv_istore (lv' := [(5, .int (-3)), (0, .ref (a 0)), (1, .int (nI (j_10))), (2, .int sh), (3, .int so), (4, .int ii)]) hx hb dX6_wrong_35 hl (by decide) rfl (fun ls hl => ?_)
      refine lv_iload hx hb dX6_wrong_37 (lv_at hl 0 rfl) ?_
      refine lv_if_eq hx hb dX6_wrong_39 (tgt := 47) (by decide) (fun c39 => absurd c39 (by first | assumption | decide)) (fun c39 => ?_)
      refine lv_iload hx hb dX6_wrong_42 (lv_at hl 0 rfl) ?_
      refine lv_goto (tgt := 55) hx hb dX6_wrong_44 (by decide) ?_
      exact hret (-3) (va_up v 0 (va_up (v 0) 8 (0)), va_up c 25 (g25_32)) _ _ 55 _ dX6_wrong_55 rfl (by exact ⟨_, Or.inl ⟨j_10, h_10, rfl, Or.inr ⟨_, _, _, _, h_32, rfl, Or.inl ⟨h0_32, rfl⟩⟩⟩, XS_of hI hsp rfl ⟨rfl, rfl, rfl, rfl, rfl, rfl, rfl, rfl, rfl, rfl, rfl, rfl, rfl⟩⟩) hP hD hS
    · skip
      have h_32 : tkY (xHas c) ((v 3)) sh so False ii (nI (((v 13) j_10) * (v 15 0))) k1_32 s1_32 j1_32 (((v 13) j_10) * (v 15 0)) := h_32
      have h0_32 : 0 < (v 11 1) := h0_32
      have hN_32 : cellsN (xCell c) k1_32 j1_32 ((v 11 0)) (((v 13) j_10) * (v 15 0)) := hN_32
      have hP : va_P D vwCl (xW a cI cJ cZ (va_up (va_up v 0 (va_up (v 0) 8 (0))) 18 (g18_32)) (va_up c 25 (g25_32))) H := hP
      have hD : va_D A (xW a cI cJ cZ (va_up (va_up v 0 (va_up (v 0) 8 (0))) 18 (g18_32)) (va_up c 25 (g25_32))) := hD
      refine lv_istore (lv' := [(5, .int (-1)), (0, .ref (a 0)), (1, .int (nI (j_10))), (2, .int sh), (3, .int so), (4, .int ii)]) hx hb dX6_wrong_35 hl (by decide) rfl (fun ls hl => ?_)
      refine lv_iload hx hb dX6_wrong_37 (lv_at hl 0 rfl) ?_
      refine lv_if_eq hx hb dX6_wrong_39 (tgt := 47) (by decide) (fun c39 => absurd c39 (by first | assumption | decide)) (fun c39 => ?_)
      refine lv_iload hx hb dX6_wrong_42 (lv_at hl 0 rfl) ?_
      refine lv_goto (tgt := 55) hx hb dX6_wrong_44 (by decide) ?_
      exact hret (-1) (va_up (va_up v 0 (va_up (v 0) 8 (0))) 18 (g18_32), va_up c 25 (g25_32)) _ _ 55 _ dX6_wrong_55 rfl (by exact ⟨_, Or.inl ⟨j_10, h_10, rfl, Or.inr ⟨_, _, _, _, h_32, rfl, Or.inr (Or.inl ⟨h0_32, hN_32, rfl⟩)⟩⟩, XS_of hI hs_32 rfl ⟨rfl, rfl, rfl, rfl, rfl, rfl, rfl, rfl, rfl, rfl, rfl, rfl, rfl⟩⟩) hP hD hS
    · skip
      have h_32 : tkY (xHas c) ((v 3)) sh so False ii (nI (((v 13) j_10) * (v 15 0))) k1_32 s1_32 j1_32 (((v 13) j_10) * (v 15 0)) := h_32
      have h0_32 : 0 < (v 11 1) := h0_32
      have hP_32 : cellsP (xCell c) k1_32 j1_32 ((v 11 0)) ((v 15 0)) ((v 13) j_10) g18_32 := hP_32
      have hP : va_P D vwCl (xW a cI cJ cZ (va_up (va_up v 0 (va_up (v 0) 8 (0))) 18 (g18_32)) (va_up c 25 (g25_32))) H := hP
      have hD : va_D A (xW a cI cJ cZ (va_up (va_up v 0 (va_up (v 0) 8 (0))) 18 (g18_32)) (va_up c 25 (g25_32))) := hD
      refine lv_istore (lv' := [(5, .int (nI (0))), (0, .ref (a 0)), (1, .int (nI (j_10))), (2, .int sh), (3, .int so), (4, .int ii)]) hx hb dX6_wrong_35 hl (by decide) rfl (fun ls hl => ?_)
      refine lv_iload hx hb dX6_wrong_37 (lv_at hl 0 rfl) ?_
      refine w_if_eq (x := 0) hx hb dX6_wrong_39 (tgt := 47) (by decide) (by decide) (fun _ => ?_) (fun h => absurd h (by decide))
      refine lv_aload_n hx hb dX6_wrong_47 rfl (lv_at hl 1 rfl) ?_
      refine va_get (D := D) (ci := 6) (v := .ref (a 10)) (C := RX6) (T := TX6) (N := 9) hx hb hts hinX6 hown hK hP 0 rfl rfl 2 (by decide) (hts (.fieldLink RX6 28 "DancedLock" "dance" "LDancedLock$Dance;") (List.mem_of_getElem? (i := 3) rfl)) (fun _ h9 => h9) rfl dX6_wrong_48 ?_
      refine lv_iload_n hx hb dX6_wrong_51 rfl (lv_at hl 2 rfl) ?_
      refine w_cVi (rest := []) hx hb hml hown hts (k_firstWrong l D a cI cJ cZ A (va_up (va_up v 0 (va_up (v 0) 8 (0))) 18 (g18_32)) (va_up c 25 (g25_32)) j_10  (by show XI (va_up (va_up v 0 (va_up (v 0) 8 (0))) 18 (g18_32)); have h9 := XI_18 (g := g18_32) hI hs_32; exact h9) (by show j_10 < (v 11 1); first | assumption | omega)) 1 gX6_wrong_X0_firstWrong rfl hdX0_firstWrong ⟨Nat.le_of_ble_eq_true rfl, Nat.le_of_ble_eq_true rfl⟩ hK hN hP hD hS hA 10 0 rfl rfl rfl rfl hl.1 rfl (Nat.le_of_ble_eq_true rfl) dX6_wrong_52 ⟨Nat.le_of_ble_eq_true rfl, Nat.le_of_ble_eq_true rfl⟩ (fun r u H locs hq hP hD hS => ?_)
      rcases hq with ⟨g19_52, g20_52, g21_52, nd_52, k_52, rfl, rfl, h1_52, h2_52, h3_52⟩ | ⟨g19_52, g20_52, g21_52, nd_52, rfl, rfl, h3_52⟩
      · skip
        have h1_52 : k_52 < (v 13) j_10 := h1_52
        have h2_52 : FE ((v 11 0)) ((v 12)) ((v 15 0)) (lA ((v 16))) (pA ((v 16)) ((v 17))) (g18_32) k_52 ≠ (v 14) (j_10 * 6 + k_52) := h2_52
        have h3_52 : ∀ j, j < k_52 → FE ((v 11 0)) ((v 12)) ((v 15 0)) (lA ((v 16))) (pA ((v 16)) ((v 17))) (g18_32) j = (v 14) (j_10 * 6 + j) := h3_52
        have hP : va_P D vwCl (xW a cI cJ cZ (va_up (va_up (va_up (va_up (va_up (va_up v 0 (va_up (v 0) 8 (0))) 10 (va_up (v 10) 6 (nd_52))) 18 (g18_32)) 19 (g19_52)) 20 (g20_52)) 21 (g21_52)) (va_up c 25 (g25_32))) H := hP
        have hD : va_D A (xW a cI cJ cZ (va_up (va_up (va_up (va_up (va_up (va_up v 0 (va_up (v 0) 8 (0))) 10 (va_up (v 10) 6 (nd_52))) 18 (g18_32)) 19 (g19_52)) 20 (g20_52)) 21 (g21_52)) (va_up c 25 (g25_32))) := hD
        exact hret (nI (k_52)) (va_up (va_up (va_up (va_up (va_up (va_up v 0 (va_up (v 0) 8 (0))) 10 (va_up (v 10) 6 (nd_52))) 18 (g18_32)) 19 (g19_52)) 20 (g20_52)) 21 (g21_52), va_up c 25 (g25_32)) _ _ 55 _ dX6_wrong_55 rfl (by exact ⟨_, Or.inl ⟨j_10, h_10, rfl, Or.inr ⟨_, _, _, _, h_32, rfl, Or.inr (Or.inr ⟨h0_32, g18_32, hP_32, Or.inl ⟨k_52, h1_52, rfl, h2_52, h3_52⟩⟩)⟩⟩, XS_of hI hs_32 rfl ⟨rfl, rfl, rfl, rfl, rfl, rfl, rfl, rfl, rfl, rfl, rfl, rfl, rfl⟩⟩) hP hD hS
      · skip
        have h3_52 : ∀ j, j < (v 13) j_10 → FE ((v 11 0)) ((v 12)) ((v 15 0)) (lA ((v 16))) (pA ((v 16)) ((v 17))) (g18_32) j = (v 14) (j_10 * 6 + j) := h3_52
        have hP : va_P D vwCl (xW a cI cJ cZ (va_up (va_up (va_up (va_up (va_up (va_up v 0 (va_up (v 0) 8 (0))) 10 (va_up (v 10) 6 (nd_52))) 18 (g18_32)) 19 (g19_52)) 20 (g20_52)) 21 (g21_52)) (va_up c 25 (g25_32))) H := hP
        have hD : va_D A (xW a cI cJ cZ (va_up (va_up (va_up (va_up (va_up (va_up v 0 (va_up (v 0) 8 (0))) 10 (va_up (v 10) 6 (nd_52))) 18 (g18_32)) 19 (g19_52)) 20 (g20_52)) 21 (g21_52)) (va_up c 25 (g25_32))) := hD
        exact hret (-9) (va_up (va_up (va_up (va_up (va_up (va_up v 0 (va_up (v 0) 8 (0))) 10 (va_up (v 10) 6 (nd_52))) 18 (g18_32)) 19 (g19_52)) 20 (g20_52)) 21 (g21_52), va_up c 25 (g25_32)) _ _ 55 _ dX6_wrong_55 rfl (by exact ⟨_, Or.inl ⟨j_10, h_10, rfl, Or.inr ⟨_, _, _, _, h_32, rfl, Or.inr (Or.inr ⟨h0_32, g18_32, hP_32, Or.inr ⟨rfl, h3_52⟩⟩)⟩⟩, XS_of hI hs_32 rfl ⟨rfl, rfl, rfl, rfl, rfl, rfl, rfl, rfl, rfl, rfl, rfl, rfl, rfl⟩⟩) hP hD hS
  · skip
    have h_10 : x.toInt < 0 ∨ ((v 11 1) : Int) ≤ x.toInt := h_10
    have hP : va_P D vwCl (xW a cI cJ cZ (va_up v 0 (va_up (v 0) 8 (0))) c) H := hP
    have hD : va_D A (xW a cI cJ cZ (va_up v 0 (va_up (v 0) 8 (0))) c) := hD
    refine w_if_ne (x := 0) hx hb dX6_wrong_13 (tgt := 18) (by decide) (by decide) (fun h => absurd h (by decide)) (fun _ => ?_)
    refine lv_iconst (v := -1) hx hb dX6_wrong_16 (by decide) ?_
    exact hret ((-1)) (va_up v 0 (va_up (v 0) 8 (0)), c) _ _ 17 _ dX6_wrong_17 rfl (by exact ⟨_, Or.inr ⟨nR_of (by omega) h_10, rfl, rfl⟩, XS_of hI hsp rfl ⟨rfl, rfl, rfl, rfl, rfl, rfl, rfl, rfl, rfl, rfl, rfl, rfl, rfl⟩⟩) hP hD hS
