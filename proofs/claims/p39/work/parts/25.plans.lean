/-! ===== the class's calls that search, and those that read cells ===== -/
theorem cpy_at {f g : Nat → Int32} {sp n q : Nat} (h : q < n) : va_cpy f g sp 0 n q = f (sp + q) := by
  show (if _ then _ else _) = _
  rw [if_pos ⟨Nat.zero_le _, by omega⟩, Nat.sub_zero]
theorem grid_lt {b e nc bt : Nat} (hb : b < bt) (he : e < nc) : b * nc + e < bt * nc := by
  have h : (b + 1) * nc ≤ bt * nc := Nat.mul_le_mul_right nc hb
  rw [Nat.succ_mul] at h
  omega
theorem cellsP_of {f c25 : Nat → Int32} {k j n nb nc bt : Nat} {st : Nat → Nat} (hn : bt * nc = n) (h : ∀ b e, b < bt → e < nc → va_cpy f c25 (k * 80 + j) 0 n (b * nc + e) = nI (st (b * 4 + e)) ∧ st (b * 4 + e) < nb) : cellsP (fun k q => f (k * 80 + q)) k j nb nc bt st := by
  intro b e hb he
  have h1 := h b e hb he
  rw [cpy_at (by rw [← hn]; exact grid_lt hb he)] at h1
  show f (k * 80 + (j + (b * nc + e))) = _ ∧ _
  rw [← Nat.add_assoc]
  exact h1
theorem cellsN_of {f c25 : Nat → Int32} {k j n nb nc bt q : Nat} (hB : nb < 2147483648) (hn : bt * nc = n) (hq : q < bt * nc) (h : (va_cpy f c25 (k * 80 + j) 0 n q).toInt < 0 ∨ (nb : Int) ≤ (va_cpy f c25 (k * 80 + j) 0 n q).toInt) : cellsN (fun k q => f (k * 80 + q)) k j nb (bt * nc) := by
  refine ⟨q, hq, nR_of hB ?_⟩
  rw [cpy_at (by omega), Nat.add_assoc] at h
  exact h
section
variable {noS : Nat → Prop} {hasS : Nat → Nat → Prop} {len : Nat → Nat} {sh so : Int32} {o : Prop} {i q : Int32} {k s1 : Nat}
theorem tb_0 (h : sh.toInt < 0 ∨ 4 ≤ sh.toInt) : tkB noS hasS len sh so o i q (-1) 0 := Or.inl ⟨nR_of (by decide) h, rfl, rfl⟩
theorem tb_1 (h1 : k < 4) (h : so.toInt < 0 ∨ 3 ≤ so.toInt) : tkB noS hasS len (nI k) so o i q (-2) 0 := Or.inr (Or.inl ⟨k, h1, rfl, Or.inl (nR_of (by decide) h), rfl, rfl⟩)
theorem tb_1o (h1 : k < 4) (h : o) : tkB noS hasS len (nI k) so o i q (-2) 0 := Or.inr (Or.inl ⟨k, h1, rfl, Or.inr h, rfl, rfl⟩)
end
section
variable {c2 : Nat → Int32} {len : Nat → Nat} {i q : Int32} {k s1 : Nat} {o : Prop}
theorem nI_m1 {s1 : Nat} (h2 : s1 < 3) : nI s1 ≠ -1 := by
  rcases (show s1 = 0 ∨ s1 = 1 ∨ s1 = 2 by omega) with rfl | rfl | rfl <;> decide
theorem tbo_2 (ho : ¬ o) (h1 : k < 4) (h2 : s1 < 3) (h4 : c2 k = -1) : tkB (fun k => c2 k = -1) (fun k s => c2 k = nI s) len (nI k) (nI s1) o i q ((-10) - (nI (1))) 1 := Or.inr (Or.inr ⟨k, s1, h1, h2, rfl, rfl, ho, Or.inl ⟨h4, by decide, rfl⟩⟩)
theorem tbo_3 (ho : ¬ o) (h1 : k < 4) (h2 : s1 < 3) (h4 : c2 k ≠ -1) (h5 : c2 k ≠ nI s1) : tkB (fun k => c2 k = -1) (fun k s => c2 k = nI s) len (nI k) (nI s1) o i q ((-10) - (nI (2))) 2 := Or.inr (Or.inr ⟨k, s1, h1, h2, rfl, rfl, ho, Or.inr (Or.inl ⟨h4, h5, by decide, rfl⟩)⟩)
theorem tbo_4 (ho : ¬ o) (h1 : k < 4) (h2 : s1 < 3) (h5 : c2 k = nI s1) (h6 : q.toInt < 0) : tkB (fun k => c2 k = -1) (fun k s => c2 k = nI s) len (nI k) (nI s1) o i q ((-10) - (nI (4))) 4 := Or.inr (Or.inr ⟨k, s1, h1, h2, rfl, rfl, ho, Or.inr (Or.inr (Or.inl ⟨h5, h6, by decide, rfl⟩))⟩)
theorem tbo_5 (ho : ¬ o) (h1 : k < 4) (h2 : s1 < 3) (h5 : c2 k = nI s1) (h6 : 0 ≤ q.toInt) (h7 : i.toInt < 0 ∨ (len k : Int) < i.toInt + q.toInt) : tkB (fun k => c2 k = -1) (fun k s => c2 k = nI s) len (nI k) (nI s1) o i q ((-10) - (nI (3))) 3 := Or.inr (Or.inr ⟨k, s1, h1, h2, rfl, rfl, ho, Or.inr (Or.inr (Or.inr ⟨h5, h6, h7, by decide, rfl⟩))⟩)
theorem tky_o {j n m : Nat} (ho : ¬ o) (h1 : k < 4) (h2 : s1 < 3) (h5 : c2 k = nI s1) (h6 : j + n ≤ len k) (hq : m = n) : tkY (fun k s => c2 k = nI s) len (nI k) (nI s1) o (nI j) (nI m) k s1 j m := ⟨h1, h2, rfl, rfl, ho, h5, rfl, rfl, by omega⟩
end
set_option maxHeartbeats 4000000 in
set_option maxRecDepth 100000 in
theorem t_can (l : Launch) (D : va_G) (a : Nat → Nat) (cI cJ cZ : ClassId) (A : Nat → Prop) (v : Nat → Nat → Nat) (c : Nat → Nat → Int32) (x : Int32) (hI : XI v) :
    mI l yX6_can wsX6_can 15 410 [.ref (a 0), .int x] D (xT cI cJ cZ) A (xW a cI cJ cZ v c) (fun u : ((Nat → Nat → Nat) × (Nat → Nat → Int32)) => xW a cI cJ cZ u.1 u.2)
    (fun (r : Int32) (u : ((Nat → Nat → Nat) × (Nat → Nat → Int32))) => sp_can (v 11 0) (v 12) (v 15 0) (lA (v 16)) (pA (v 16) (v 17)) (v 11 1) (v 13) (xFig v) x r ∧ XS v c u (v 0 8)) := by
  refine w_bI cX6_can 2 .int (by decide) rfl (Nat.le_of_ble_eq_true rfl) (Or.inl rfl) ?_
  intro p e s m args below meth c0 ls Q hx hb hml hts hown hK hN hA hret hP hD hS hl
  have hl : lv_has ls 2 [(0, .ref (a 0)), (1, .int x)] := hl
  have hinX6 : ∀ w ∈ wsX60, w ∈ wsX6_can := fun w h => List.mem_cons_of_mem _ (List.mem_append_left _ (List.mem_append_left _ (List.mem_append_left _ (List.mem_append_right _ h))))
  obtain ⟨hnb, hnd, hbt, hfg, hne, hnc, hdk, hnf, hkn, hln, hst, hdc, hsp⟩ := id hI
  refine lv_aload_n hx hb dX6_can_0 rfl (lv_at hl 0 rfl) ?_
  refine va_get (D := D) (ci := 6) (v := .ref (a 11)) (C := RX6) (T := TX6) (N := 9) hx hb hts hinX6 hown hK hP 0 rfl rfl 3 (by decide) (hts (.fieldLink RX6 36 "DancedLock" "floor" "LDancedLock$Floor;") (List.mem_of_getElem? (i := 1) rfl)) (fun _ h9 => h9) rfl dX6_can_1 ?_
  refine lv_iload_n hx hb dX6_can_4 rfl (lv_at hl 1 rfl) ?_
  refine w_cVi (rest := []) hx hb hml hown hts (k_hasDoor_R l D a cI cJ cZ A v c x  (by first | assumption | omega)) 1 gX6_can_X2_hasDoor rfl hdX2_hasDoor ⟨Nat.le_of_ble_eq_true rfl, Nat.le_of_ble_eq_true rfl⟩ hK hN hP hD hS hA 11 2 rfl rfl rfl rfl hl.1 rfl (Nat.le_of_ble_eq_true rfl) dX6_can_5 ⟨Nat.le_of_ble_eq_true rfl, Nat.le_of_ble_eq_true rfl⟩ (fun r u H locs hq hP hD hS => ?_)
  rcases hq with ⟨j_5, rfl, h_5, hs_x_5⟩ | ⟨rfl, h_5⟩
  · skip
    have hP : va_P D vwCl (xW a cI cJ cZ v c) H := hP
    have hD : va_D A (xW a cI cJ cZ v c) := hD
    subst hs_x_5
    have j_5T := n_tI (k := j_5) (by omega)
    refine w_if_ne (x := 1) hx hb dX6_can_8 (tgt := 13) (by decide) (by decide) (fun _ => ?_) (fun h => absurd h (by decide))
    refine lv_aload_n hx hb dX6_can_13 rfl (lv_at hl 0 rfl) ?_
    refine va_get (D := D) (ci := 6) (v := .ref (a 10)) (C := RX6) (T := TX6) (N := 9) hx hb hts hinX6 hown hK hP 0 rfl rfl 2 (by decide) (hts (.fieldLink RX6 28 "DancedLock" "dance" "LDancedLock$Dance;") (List.mem_of_getElem? (i := 2) rfl)) (fun _ h9 => h9) rfl dX6_can_14 ?_
    refine lv_iload_n hx hb dX6_can_17 rfl (lv_at hl 1 rfl) ?_
    refine lv_iconst (v := nI (0)) hx hb dX6_can_18 (by decide) ?_
    refine w_cVi (rest := []) hx hb hml hown hts (k_findPlan0 l D a cI cJ cZ A v c j_5  (by first | assumption | omega) (by first | assumption | omega)) 2 gX6_can_X0_findPlan rfl hdX0_findPlan ⟨Nat.le_of_ble_eq_true rfl, Nat.le_of_ble_eq_true rfl⟩ hK hN hP hD hS hA 10 0 rfl rfl rfl rfl hl.1 rfl (Nat.le_of_ble_eq_true rfl) dX6_can_19 ⟨Nat.le_of_ble_eq_true rfl, Nat.le_of_ble_eq_true rfl⟩ (fun r u H locs hq hP hD hS => ?_)
    rcases hq with ⟨g18_19, g19_19, g20_19, g21_19, g22_19, rfl, rfl, hs_19, hF_19⟩ | ⟨g18_19, g19_19, g20_19, g21_19, g22_19, j_19, rfl, rfl, hs_19, hj_19, hN_19⟩
    · skip
      have hP : va_P D vwCl (xW a cI cJ cZ (va_up (va_up (va_up (va_up (va_up (va_up v 10 (va_up (v 10) 6 ((v 15 0)))) 18 (g18_19)) 19 (g19_19)) 20 (g20_19)) 21 (g21_19)) 22 (g22_19)) c) H := hP
      have hD : va_D A (xW a cI cJ cZ (va_up (va_up (va_up (va_up (va_up (va_up v 10 (va_up (v 10) 6 ((v 15 0)))) 18 (g18_19)) 19 (g19_19)) 20 (g20_19)) 21 (g21_19)) 22 (g22_19)) c) := hD
      refine w_if_eq (x := 1) hx hb dX6_can_22 (tgt := 29) (by decide) (by decide) (fun h => absurd h (by decide)) (fun _ => ?_)
      refine lv_iconst (v := nI (1)) hx hb dX6_can_25 (by decide) ?_
      refine lv_goto (tgt := 30) hx hb dX6_can_26 (by decide) ?_
      exact hret (nI (1)) (va_up (va_up (va_up (va_up (va_up (va_up v 10 (va_up (v 10) 6 ((v 15 0)))) 18 (g18_19)) 19 (g19_19)) 20 (g20_19)) 21 (g21_19)) 22 (g22_19), c) _ _ 30 _ dX6_can_30 rfl (by exact ⟨Or.inl ⟨j_5, h_5, rfl, Or.inl ⟨⟨g18_19, hF_19⟩, rfl⟩⟩, XS_of hI hs_19 rfl ⟨rfl, rfl, rfl, rfl, rfl, rfl, rfl, rfl, rfl, rfl, rfl, rfl, rfl⟩⟩) hP hD hS
    · skip
      have hP : va_P D vwCl (xW a cI cJ cZ (va_up (va_up (va_up (va_up (va_up (va_up v 10 (va_up (v 10) 6 ((v 15 0)))) 18 (g18_19)) 19 (g19_19)) 20 (g20_19)) 21 (g21_19)) 22 (g22_19)) c) H := hP
      have hD : va_D A (xW a cI cJ cZ (va_up (va_up (va_up (va_up (va_up (va_up v 10 (va_up (v 10) 6 ((v 15 0)))) 18 (g18_19)) 19 (g19_19)) 20 (g20_19)) 21 (g21_19)) 22 (g22_19)) c) := hD
      refine w_if_eq (x := 0) hx hb dX6_can_22 (tgt := 29) (by decide) (by decide) (fun _ => ?_) (fun h => absurd h (by decide))
      refine lv_iconst (v := nI (0)) hx hb dX6_can_29 (by decide) ?_
      exact hret (nI (0)) (va_up (va_up (va_up (va_up (va_up (va_up v 10 (va_up (v 10) 6 ((v 15 0)))) 18 (g18_19)) 19 (g19_19)) 20 (g20_19)) 21 (g21_19)) 22 (g22_19), c) _ _ 30 _ dX6_can_30 rfl (by exact ⟨Or.inl ⟨j_5, h_5, rfl, Or.inr ⟨⟨j_19, hj_19, hN_19⟩, rfl⟩⟩, XS_of hI hs_19 rfl ⟨rfl, rfl, rfl, rfl, rfl, rfl, rfl, rfl, rfl, rfl, rfl, rfl, rfl⟩⟩) hP hD hS
  · skip
    have hP : va_P D vwCl (xW a cI cJ cZ v c) H := hP
    have hD : va_D A (xW a cI cJ cZ v c) := hD
    refine w_if_ne (x := 0) hx hb dX6_can_8 (tgt := 13) (by decide) (by decide) (fun h => absurd h (by decide)) (fun _ => ?_)
    refine lv_iconst (v := -1) hx hb dX6_can_11 (by decide) ?_
    exact hret ((-1)) (v, c) _ _ 12 _ dX6_can_12 rfl (by exact ⟨Or.inr ⟨nR_of (by omega) h_5, rfl⟩, XS_of hI hsp rfl ⟨rfl, rfl, rfl, rfl, rfl, rfl, rfl, rfl, rfl, rfl, rfl, rfl, rfl⟩⟩) hP hD hS

set_option maxHeartbeats 4000000 in
set_option maxRecDepth 100000 in
theorem t_plan (l : Launch) (D : va_G) (a : Nat → Nat) (cI cJ cZ : ClassId) (A : Nat → Prop) (v : Nat → Nat → Nat) (c : Nat → Nat → Int32) (x : Int32) (y : Int32) (z : Int32) (hI : XI v) :
    mI l yX6_plan wsX6_plan 15 410 [.ref (a 0), .int x, .int y, .int z] D (xT cI cJ cZ) A (xW a cI cJ cZ v c) (fun u : ((Nat → Nat → Nat) × (Nat → Nat → Int32)) => xW a cI cJ cZ u.1 u.2)
    (fun (r : Int32) (u : ((Nat → Nat → Nat) × (Nat → Nat → Int32))) => sp_plan (v 11 0) (v 12) (v 15 0) (lA (v 16)) (pA (v 16) (v 17)) (v 11 1) (v 13) (xFig v) x y z r ∧ XS v c u (v 0 8)) := by
  refine w_bI cX6_plan 4 .int (by decide) rfl (Nat.le_of_ble_eq_true rfl) (Or.inl rfl) ?_
  intro p e s m args below meth c0 ls Q hx hb hml hts hown hK hN hA hret hP hD hS hl
  have hl : lv_has ls 4 [(0, .ref (a 0)), (1, .int x), (2, .int y), (3, .int z)] := hl
  have hinX6 : ∀ w ∈ wsX60, w ∈ wsX6_plan := fun w h => List.mem_cons_of_mem _ (List.mem_append_left _ (List.mem_append_left _ (List.mem_append_left _ (List.mem_append_right _ h))))
  obtain ⟨hnb, hnd, hbt, hfg, hne, hnc, hdk, hnf, hkn, hln, hst, hdc, hsp⟩ := id hI
  refine lv_aload_n hx hb dX6_plan_0 rfl (lv_at hl 0 rfl) ?_
  refine va_get (D := D) (ci := 6) (v := .ref (a 11)) (C := RX6) (T := TX6) (N := 9) hx hb hts hinX6 hown hK hP 0 rfl rfl 3 (by decide) (hts (.fieldLink RX6 36 "DancedLock" "floor" "LDancedLock$Floor;") (List.mem_of_getElem? (i := 1) rfl)) (fun _ h9 => h9) rfl dX6_plan_1 ?_
  refine lv_iload_n hx hb dX6_plan_4 rfl (lv_at hl 1 rfl) ?_
  refine lv_iload_n hx hb dX6_plan_5 rfl (lv_at hl 2 rfl) ?_
  refine w_cVi (rest := []) hx hb hml hown hts (k_hasBeat_R l D a cI cJ cZ A v c x y  (by first | assumption | omega) (by first | assumption | omega)) 2 gX6_plan_X2_hasBeat rfl hdX2_hasBeat ⟨Nat.le_of_ble_eq_true rfl, Nat.le_of_ble_eq_true rfl⟩ hK hN hP hD hS hA 11 2 rfl rfl rfl rfl hl.1 rfl (Nat.le_of_ble_eq_true rfl) dX6_plan_6 ⟨Nat.le_of_ble_eq_true rfl, Nat.le_of_ble_eq_true rfl⟩ (fun r u H locs hq hP hD hS => ?_)
  rcases hq with ⟨i_6, j_6, rfl, h_6, hj_6, hs_d_6, hs_k_6⟩ | ⟨rfl, h_6⟩ | ⟨i_6, rfl, h_6, hs_d_6, hk_6⟩
  · skip
    have hP : va_P D vwCl (xW a cI cJ cZ v c) H := hP
    have hD : va_D A (xW a cI cJ cZ v c) := hD
    subst hs_d_6
    have i_6T := n_tI (k := i_6) (by have h9 := hbt _ h_6; omega)
    subst hs_k_6
    have j_6T := n_tI (k := j_6) (by have h9 := hbt _ h_6; omega)
    refine w_if_eq (x := 1) hx hb dX6_plan_9 (tgt := 23) (by decide) (by decide) (fun h => absurd h (by decide)) (fun _ => ?_)
    refine lv_aload_n hx hb dX6_plan_12 rfl (lv_at hl 0 rfl) ?_
    refine va_get (D := D) (ci := 6) (v := .ref (a 15)) (C := RX6) (T := TX6) (N := 9) hx hb hts hinX6 hown hK hP 0 rfl rfl 4 (by decide) (hts (.fieldLink RX6 41 "DancedLock" "troupe" "LDancedLock$Troupe;") (List.mem_of_getElem? (i := 2) rfl)) (fun _ h9 => h9) rfl dX6_plan_13 ?_
    refine lv_iload_n hx hb dX6_plan_16 rfl (lv_at hl 3 rfl) ?_
    refine w_cVi (rest := []) hx hb hml hown hts (k_tincl_R l D a cI cJ cZ A v c z  (by first | assumption | omega)) 1 gX6_plan_X5_includes rfl hdX5_includes ⟨Nat.le_of_ble_eq_true rfl, Nat.le_of_ble_eq_true rfl⟩ hK hN hP hD hS hA 15 5 rfl rfl rfl rfl hl.1 rfl (Nat.le_of_ble_eq_true rfl) dX6_plan_17 ⟨Nat.le_of_ble_eq_true rfl, Nat.le_of_ble_eq_true rfl⟩ (fun r u H locs hq hP hD hS => ?_)
    rcases hq with ⟨j_17, rfl, h_17, hs_x_17⟩ | ⟨rfl, h_17⟩
    · skip
      have hP : va_P D vwCl (xW a cI cJ cZ v c) H := hP
      have hD : va_D A (xW a cI cJ cZ v c) := hD
      subst hs_x_17
      have j_17T := n_tI (k := j_17) (by omega)
      refine w_if_ne (x := 1) hx hb dX6_plan_20 (tgt := 25) (by decide) (by decide) (fun _ => ?_) (fun h => absurd h (by decide))
      refine lv_aload_n hx hb dX6_plan_25 rfl (lv_at hl 0 rfl) ?_
      refine va_get (D := D) (ci := 6) (v := .ref (a 10)) (C := RX6) (T := TX6) (N := 9) hx hb hts hinX6 hown hK hP 0 rfl rfl 2 (by decide) (hts (.fieldLink RX6 28 "DancedLock" "dance" "LDancedLock$Dance;") (List.mem_of_getElem? (i := 3) rfl)) (fun _ h9 => h9) rfl dX6_plan_26 ?_
      refine lv_iload_n hx hb dX6_plan_29 rfl (lv_at hl 1 rfl) ?_
      refine lv_iconst (v := nI (0)) hx hb dX6_plan_30 (by decide) ?_
      refine w_cVi (rest := []) hx hb hml hown hts (k_findPlan0 l D a cI cJ cZ A v c i_6  (by first | assumption | omega) (by first | assumption | omega)) 2 gX6_plan_X0_findPlan rfl hdX0_findPlan ⟨Nat.le_of_ble_eq_true rfl, Nat.le_of_ble_eq_true rfl⟩ hK hN hP hD hS hA 10 0 rfl rfl rfl rfl hl.1 rfl (Nat.le_of_ble_eq_true rfl) dX6_plan_31 ⟨Nat.le_of_ble_eq_true rfl, Nat.le_of_ble_eq_true rfl⟩ (fun r u H locs hq hP hD hS => ?_)
      rcases hq with ⟨g18_31, g19_31, g20_31, g21_31, g22_31, rfl, rfl, hs_31, hF_31⟩ | ⟨g18_31, g19_31, g20_31, g21_31, g22_31, j_31, rfl, rfl, hs_31, hj_31, hN_31⟩
      · skip
        have hP : va_P D vwCl (xW a cI cJ cZ (va_up (va_up (va_up (va_up (va_up (va_up v 10 (va_up (v 10) 6 ((v 15 0)))) 18 (g18_31)) 19 (g19_31)) 20 (g20_31)) 21 (g21_31)) 22 (g22_31)) c) H := hP
        have hD : va_D A (xW a cI cJ cZ (va_up (va_up (va_up (va_up (va_up (va_up v 10 (va_up (v 10) 6 ((v 15 0)))) 18 (g18_31)) 19 (g19_31)) 20 (g20_31)) 21 (g21_31)) 22 (g22_31)) c) := hD
        refine w_if_eq (x := 1) hx hb dX6_plan_34 (tgt := 49) (by decide) (by decide) (fun h => absurd h (by decide)) (fun _ => ?_)
        refine lv_aload_n hx hb dX6_plan_37 rfl (lv_at hl 0 rfl) ?_
        refine va_get (D := D) (ci := 6) (v := .ref (a 10)) (C := RX6) (T := TX6) (N := 9) hx hb hts hinX6 hown hK hP 0 rfl rfl 2 (by decide) (hts (.fieldLink RX6 28 "DancedLock" "dance" "LDancedLock$Dance;") (List.mem_of_getElem? (i := 3) rfl)) (fun _ h9 => h9) rfl dX6_plan_38 ?_
        refine lv_iload_n hx hb dX6_plan_41 rfl (lv_at hl 2 rfl) ?_
        refine lv_iload_n hx hb dX6_plan_42 rfl (lv_at hl 3 rfl) ?_
        refine w_cVi (rest := []) hx hb hml hown hts (k_stepOf l D a cI cJ cZ A (va_up (va_up (va_up (va_up (va_up (va_up v 10 (va_up (v 10) 6 ((v 15 0)))) 18 (g18_31)) 19 (g19_31)) 20 (g20_31)) 21 (g21_31)) 22 (g22_31)) c j_6 j_17  (by have h9 := hbt _ h_6; omega)) 2 gX6_plan_X0_stepOf rfl hdX0_stepOf ⟨Nat.le_of_ble_eq_true rfl, Nat.le_of_ble_eq_true rfl⟩ hK hN hP hD hS hA 10 0 rfl rfl rfl rfl hl.1 rfl (Nat.le_of_ble_eq_true rfl) dX6_plan_43 ⟨Nat.le_of_ble_eq_true rfl, Nat.le_of_ble_eq_true rfl⟩ (fun r u H locs hq hP hD hS => ?_)
        have hr_43 := hq
        have hr_43 : r = nI (g18_31 (j_6 * 4 + j_17)) := hr_43
        subst hr_43
        have hP : va_P D vwCl (xW a cI cJ cZ (va_up (va_up (va_up (va_up (va_up (va_up v 10 (va_up (v 10) 6 ((v 15 0)))) 18 (g18_31)) 19 (g19_31)) 20 (g20_31)) 21 (g21_31)) 22 (g22_31)) c) H := hP
        have hD : va_D A (xW a cI cJ cZ (va_up (va_up (va_up (va_up (va_up (va_up v 10 (va_up (v 10) 6 ((v 15 0)))) 18 (g18_31)) 19 (g19_31)) 20 (g20_31)) 21 (g21_31)) 22 (g22_31)) c) := hD
        refine lv_goto (tgt := 51) hx hb dX6_plan_46 (by decide) ?_
        exact hret (nI (g18_31 (j_6 * 4 + j_17))) (va_up (va_up (va_up (va_up (va_up (va_up v 10 (va_up (v 10) 6 ((v 15 0)))) 18 (g18_31)) 19 (g19_31)) 20 (g20_31)) 21 (g21_31)) 22 (g22_31), c) _ _ 51 _ dX6_plan_51 rfl (by exact ⟨Or.inl ⟨i_6, j_6, j_17, h_6, hj_6, h_17, rfl, rfl, rfl, Or.inl ⟨g18_31, hF_31, rfl⟩⟩, XS_of hI hs_31 rfl ⟨rfl, rfl, rfl, rfl, rfl, rfl, rfl, rfl, rfl, rfl, rfl, rfl, rfl⟩⟩) hP hD hS
      · skip
        have hP : va_P D vwCl (xW a cI cJ cZ (va_up (va_up (va_up (va_up (va_up (va_up v 10 (va_up (v 10) 6 ((v 15 0)))) 18 (g18_31)) 19 (g19_31)) 20 (g20_31)) 21 (g21_31)) 22 (g22_31)) c) H := hP
        have hD : va_D A (xW a cI cJ cZ (va_up (va_up (va_up (va_up (va_up (va_up v 10 (va_up (v 10) 6 ((v 15 0)))) 18 (g18_31)) 19 (g19_31)) 20 (g20_31)) 21 (g21_31)) 22 (g22_31)) c) := hD
        refine w_if_eq (x := 0) hx hb dX6_plan_34 (tgt := 49) (by decide) (by decide) (fun _ => ?_) (fun h => absurd h (by decide))
        refine lv_bipush (v := -9) hx hb dX6_plan_49 (by decide) ?_
        exact hret ((-9)) (va_up (va_up (va_up (va_up (va_up (va_up v 10 (va_up (v 10) 6 ((v 15 0)))) 18 (g18_31)) 19 (g19_31)) 20 (g20_31)) 21 (g21_31)) 22 (g22_31), c) _ _ 51 _ dX6_plan_51 rfl (by exact ⟨Or.inl ⟨i_6, j_6, j_17, h_6, hj_6, h_17, rfl, rfl, rfl, Or.inr ⟨⟨j_31, hj_31, hN_31⟩, rfl⟩⟩, XS_of hI hs_31 rfl ⟨rfl, rfl, rfl, rfl, rfl, rfl, rfl, rfl, rfl, rfl, rfl, rfl, rfl⟩⟩) hP hD hS
    · skip
      have hP : va_P D vwCl (xW a cI cJ cZ v c) H := hP
      have hD : va_D A (xW a cI cJ cZ v c) := hD
      refine w_if_ne (x := 0) hx hb dX6_plan_20 (tgt := 25) (by decide) (by decide) (fun h => absurd h (by decide)) (fun _ => ?_)
      refine lv_iconst (v := -1) hx hb dX6_plan_23 (by decide) ?_
      exact hret ((-1)) (v, c) _ _ 24 _ dX6_plan_24 rfl (by first | exact ⟨Or.inr ⟨fun ⟨d1, j1, e1, q1, q2, q3, q4, q5, q6⟩ => nR_of (by omega) h_17 ⟨e1, q3, q6⟩, rfl⟩, XS_of hI hsp rfl ⟨rfl, rfl, rfl, rfl, rfl, rfl, rfl, rfl, rfl, rfl, rfl, rfl, rfl⟩⟩ | exact ⟨Or.inr ⟨fun ⟨d1, j1, e1, q1, q2, q3, q4, q5, q6⟩ => nR_of (by omega) h_6 ⟨d1, q1, q4⟩, rfl⟩, XS_of hI hsp rfl ⟨rfl, rfl, rfl, rfl, rfl, rfl, rfl, rfl, rfl, rfl, rfl, rfl, rfl⟩⟩ | exact ⟨Or.inr ⟨fun ⟨d1, j1, e1, q1, q2, q3, q4, q5, q6⟩ => nR_of (by have h9 := hbt _ h_6; omega) hk_6 ⟨j1, by rw [(n_inj (a := i_6) (b := d1) (by omega) (by omega)).mp q4]; exact q2, q5⟩, rfl⟩, XS_of hI hsp rfl ⟨rfl, rfl, rfl, rfl, rfl, rfl, rfl, rfl, rfl, rfl, rfl, rfl, rfl⟩⟩) hP hD hS
  · skip
    have hP : va_P D vwCl (xW a cI cJ cZ v c) H := hP
    have hD : va_D A (xW a cI cJ cZ v c) := hD
    refine w_if_eq (x := 0) hx hb dX6_plan_9 (tgt := 23) (by decide) (by decide) (fun _ => ?_) (fun h => absurd h (by decide))
    refine lv_iconst (v := -1) hx hb dX6_plan_23 (by decide) ?_
    exact hret ((-1)) (v, c) _ _ 24 _ dX6_plan_24 rfl (by first | exact ⟨Or.inr ⟨fun ⟨d1, j1, e1, q1, q2, q3, q4, q5, q6⟩ => nR_of (by omega) h_17 ⟨e1, q3, q6⟩, rfl⟩, XS_of hI hsp rfl ⟨rfl, rfl, rfl, rfl, rfl, rfl, rfl, rfl, rfl, rfl, rfl, rfl, rfl⟩⟩ | exact ⟨Or.inr ⟨fun ⟨d1, j1, e1, q1, q2, q3, q4, q5, q6⟩ => nR_of (by omega) h_6 ⟨d1, q1, q4⟩, rfl⟩, XS_of hI hsp rfl ⟨rfl, rfl, rfl, rfl, rfl, rfl, rfl, rfl, rfl, rfl, rfl, rfl, rfl⟩⟩ | exact ⟨Or.inr ⟨fun ⟨d1, j1, e1, q1, q2, q3, q4, q5, q6⟩ => nR_of (by have h9 := hbt _ h_6; omega) hk_6 ⟨j1, by rw [(n_inj (a := i_6) (b := d1) (by omega) (by omega)).mp q4]; exact q2, q5⟩, rfl⟩, XS_of hI hsp rfl ⟨rfl, rfl, rfl, rfl, rfl, rfl, rfl, rfl, rfl, rfl, rfl, rfl, rfl⟩⟩) hP hD hS
  · skip
    have hP : va_P D vwCl (xW a cI cJ cZ v c) H := hP
    have hD : va_D A (xW a cI cJ cZ v c) := hD
    subst hs_d_6
    have i_6T := n_tI (k := i_6) (by have h9 := hbt _ h_6; omega)
    refine w_if_eq (x := 0) hx hb dX6_plan_9 (tgt := 23) (by decide) (by decide) (fun _ => ?_) (fun h => absurd h (by decide))
    refine lv_iconst (v := -1) hx hb dX6_plan_23 (by decide) ?_
    exact hret ((-1)) (v, c) _ _ 24 _ dX6_plan_24 rfl (by first | exact ⟨Or.inr ⟨fun ⟨d1, j1, e1, q1, q2, q3, q4, q5, q6⟩ => nR_of (by omega) h_17 ⟨e1, q3, q6⟩, rfl⟩, XS_of hI hsp rfl ⟨rfl, rfl, rfl, rfl, rfl, rfl, rfl, rfl, rfl, rfl, rfl, rfl, rfl⟩⟩ | exact ⟨Or.inr ⟨fun ⟨d1, j1, e1, q1, q2, q3, q4, q5, q6⟩ => nR_of (by omega) h_6 ⟨d1, q1, q4⟩, rfl⟩, XS_of hI hsp rfl ⟨rfl, rfl, rfl, rfl, rfl, rfl, rfl, rfl, rfl, rfl, rfl, rfl, rfl⟩⟩ | exact ⟨Or.inr ⟨fun ⟨d1, j1, e1, q1, q2, q3, q4, q5, q6⟩ => nR_of (by have h9 := hbt _ h_6; omega) hk_6 ⟨j1, by rw [(n_inj (a := i_6) (b := d1) (by omega) (by omega)).mp q4]; exact q2, q5⟩, rfl⟩, XS_of hI hsp rfl ⟨rfl, rfl, rfl, rfl, rfl, rfl, rfl, rfl, rfl, rfl, rfl, rfl, rfl⟩⟩) hP hD hS

set_option maxHeartbeats 4000000 in
set_option maxRecDepth 100000 in
theorem t_limped (l : Launch) (D : va_G) (a : Nat → Nat) (cI cJ cZ : ClassId) (A : Nat → Prop) (v : Nat → Nat → Nat) (c : Nat → Nat → Int32) (x : Int32) (hI : XI v) :
    mI l yX6_limped wsX6_limped 15 410 [.ref (a 0), .int x] D (xT cI cJ cZ) A (xW a cI cJ cZ v c) (fun u : ((Nat → Nat → Nat) × (Nat → Nat → Int32)) => xW a cI cJ cZ u.1 u.2)
    (fun (r : Int32) (u : ((Nat → Nat → Nat) × (Nat → Nat → Int32))) => sp_limped (v 11 0) (v 12) (v 15 0) (v 16) (v 17) (v 11 1) (v 13) (xFig v) x r ∧ XS v c u (v 0 8)) := by
  refine w_bI cX6_limped 2 .int (by decide) rfl (Nat.le_of_ble_eq_true rfl) (Or.inl rfl) ?_
  intro p e s m args below meth c0 ls Q hx hb hml hts hown hK hN hA hret hP hD hS hl
  have hl : lv_has ls 2 [(0, .ref (a 0)), (1, .int x)] := hl
  have hinX6 : ∀ w ∈ wsX60, w ∈ wsX6_limped := fun w h => List.mem_cons_of_mem _ (List.mem_append_left _ (List.mem_append_left _ (List.mem_append_left _ (List.mem_append_right _ h))))
  obtain ⟨hnb, hnd, hbt, hfg, hne, hnc, hdk, hnf, hkn, hln, hst, hdc, hsp⟩ := id hI
  refine lv_aload_n hx hb dX6_limped_0 rfl (lv_at hl 0 rfl) ?_
  refine va_get (D := D) (ci := 6) (v := .ref (a 11)) (C := RX6) (T := TX6) (N := 9) hx hb hts hinX6 hown hK hP 0 rfl rfl 3 (by decide) (hts (.fieldLink RX6 36 "DancedLock" "floor" "LDancedLock$Floor;") (List.mem_of_getElem? (i := 1) rfl)) (fun _ h9 => h9) rfl dX6_limped_1 ?_
  refine lv_iload_n hx hb dX6_limped_4 rfl (lv_at hl 1 rfl) ?_
  refine w_cVi (rest := []) hx hb hml hown hts (k_hasDoor_R l D a cI cJ cZ A v c x  (by first | assumption | omega)) 1 gX6_limped_X2_hasDoor rfl hdX2_hasDoor ⟨Nat.le_of_ble_eq_true rfl, Nat.le_of_ble_eq_true rfl⟩ hK hN hP hD hS hA 11 2 rfl rfl rfl rfl hl.1 rfl (Nat.le_of_ble_eq_true rfl) dX6_limped_5 ⟨Nat.le_of_ble_eq_true rfl, Nat.le_of_ble_eq_true rfl⟩ (fun r u H locs hq hP hD hS => ?_)
  rcases hq with ⟨j_5, rfl, h_5, hs_x_5⟩ | ⟨rfl, h_5⟩
  · skip
    have hP : va_P D vwCl (xW a cI cJ cZ v c) H := hP
    have hD : va_D A (xW a cI cJ cZ v c) := hD
    subst hs_x_5
    have j_5T := n_tI (k := j_5) (by omega)
    refine w_if_ne (x := 1) hx hb dX6_limped_8 (tgt := 13) (by decide) (by decide) (fun _ => ?_) (fun h => absurd h (by decide))
    refine lv_aload_n hx hb dX6_limped_13 rfl (lv_at hl 0 rfl) ?_
    refine va_get (D := D) (ci := 6) (v := .ref (a 10)) (C := RX6) (T := TX6) (N := 9) hx hb hts hinX6 hown hK hP 0 rfl rfl 2 (by decide) (hts (.fieldLink RX6 28 "DancedLock" "dance" "LDancedLock$Dance;") (List.mem_of_getElem? (i := 2) rfl)) (fun _ h9 => h9) rfl dX6_limped_14 ?_
    refine lv_iload_n hx hb dX6_limped_17 rfl (lv_at hl 1 rfl) ?_
    refine lv_iconst (v := nI (1)) hx hb dX6_limped_18 (by decide) ?_
    refine w_cVi (rest := []) hx hb hml hown hts (k_findPlan1 l D a cI cJ cZ A v c j_5  (by first | assumption | omega) (by first | assumption | omega)) 2 gX6_limped_X0_findPlan rfl hdX0_findPlan ⟨Nat.le_of_ble_eq_true rfl, Nat.le_of_ble_eq_true rfl⟩ hK hN hP hD hS hA 10 0 rfl rfl rfl rfl hl.1 rfl (Nat.le_of_ble_eq_true rfl) dX6_limped_19 ⟨Nat.le_of_ble_eq_true rfl, Nat.le_of_ble_eq_true rfl⟩ (fun r u H locs hq hP hD hS => ?_)
    rcases hq with ⟨g18_19, g19_19, g20_19, g21_19, g22_19, rfl, rfl, hs_19, hF_19⟩ | ⟨g18_19, g19_19, g20_19, g21_19, g22_19, j_19, rfl, rfl, hs_19, hj_19, hN_19⟩
    · skip
      have hP : va_P D vwCl (xW a cI cJ cZ (va_up (va_up (va_up (va_up (va_up (va_up v 10 (va_up (v 10) 6 ((v 15 0)))) 18 (g18_19)) 19 (g19_19)) 20 (g20_19)) 21 (g21_19)) 22 (g22_19)) c) H := hP
      have hD : va_D A (xW a cI cJ cZ (va_up (va_up (va_up (va_up (va_up (va_up v 10 (va_up (v 10) 6 ((v 15 0)))) 18 (g18_19)) 19 (g19_19)) 20 (g20_19)) 21 (g21_19)) 22 (g22_19)) c) := hD
      refine w_if_ne (x := 1) hx hb dX6_limped_22 (tgt := 28) (by decide) (by decide) (fun _ => ?_) (fun h => absurd h (by decide))
      refine lv_aload_n hx hb dX6_limped_28 rfl (lv_at hl 0 rfl) ?_
      refine va_get (D := D) (ci := 6) (v := .ref (a 10)) (C := RX6) (T := TX6) (N := 9) hx hb hts hinX6 hown hK hP 0 rfl rfl 2 (by decide) (hts (.fieldLink RX6 28 "DancedLock" "dance" "LDancedLock$Dance;") (List.mem_of_getElem? (i := 2) rfl)) (fun _ h9 => h9) rfl dX6_limped_29 ?_
      refine lv_aload_n hx hb dX6_limped_32 rfl (lv_at hl 0 rfl) ?_
      refine va_get (D := D) (ci := 6) (v := .ref (a 11)) (C := RX6) (T := TX6) (N := 9) hx hb hts hinX6 hown hK hP 0 rfl rfl 3 (by decide) (hts (.fieldLink RX6 36 "DancedLock" "floor" "LDancedLock$Floor;") (List.mem_of_getElem? (i := 1) rfl)) (fun _ h9 => h9) rfl dX6_limped_33 ?_
      refine lv_iload_n hx hb dX6_limped_36 rfl (lv_at hl 1 rfl) ?_
      refine w_cVi (rest := [.ref (a 10)]) hx hb hml hown hts (k_beatsOf l D a cI cJ cZ A (va_up (va_up (va_up (va_up (va_up (va_up v 10 (va_up (v 10) 6 ((v 15 0)))) 18 (g18_19)) 19 (g19_19)) 20 (g20_19)) 21 (g21_19)) 22 (g22_19)) c j_5  (by show (v 11 1) ≤ 4; first | assumption | omega) (by show j_5 < (v 11 1); first | assumption | omega)) 1 gX6_limped_X2_beatsOf rfl hdX2_beatsOf ⟨Nat.le_of_ble_eq_true rfl, Nat.le_of_ble_eq_true rfl⟩ hK hN hP hD hS hA 11 2 rfl rfl rfl rfl hl.1 rfl (Nat.le_of_ble_eq_true rfl) dX6_limped_37 ⟨Nat.le_of_ble_eq_true rfl, Nat.le_of_ble_eq_true rfl⟩ (fun r u H locs hq hP hD hS => ?_)
      have hr_37 := hq
      have hr_37 : r = nI ((v 13) j_5) := hr_37
      subst hr_37
      have hP : va_P D vwCl (xW a cI cJ cZ (va_up (va_up (va_up (va_up (va_up (va_up v 10 (va_up (v 10) 6 ((v 15 0)))) 18 (g18_19)) 19 (g19_19)) 20 (g20_19)) 21 (g21_19)) 22 (g22_19)) c) H := hP
      have hD : va_D A (xW a cI cJ cZ (va_up (va_up (va_up (va_up (va_up (va_up v 10 (va_up (v 10) 6 ((v 15 0)))) 18 (g18_19)) 19 (g19_19)) 20 (g20_19)) 21 (g21_19)) 22 (g22_19)) c) := hD
      refine w_cVi (rest := []) hx hb hml hown hts (k_doorOpened l D a cI cJ cZ A (va_up (va_up (va_up (va_up (va_up (va_up v 10 (va_up (v 10) 6 ((v 15 0)))) 18 (g18_19)) 19 (g19_19)) 20 (g20_19)) 21 (g21_19)) 22 (g22_19)) c ((v 13) j_5)  (by show XI (va_up (va_up (va_up (va_up (va_up (va_up v 10 (va_up (v 10) 6 ((v 15 0)))) 18 (g18_19)) 19 (g19_19)) 20 (g20_19)) 21 (g21_19)) 22 (g22_19)); have h9 := XI_18 (g := g18_19) hI hs_19; exact h9) (by exact (hbt _ h_5).2)) 1 gX6_limped_X0_doorOpened rfl hdX0_doorOpened ⟨Nat.le_of_ble_eq_true rfl, Nat.le_of_ble_eq_true rfl⟩ hK hN hP hD hS hA 10 0 rfl rfl rfl rfl hl.1 rfl (Nat.le_of_ble_eq_true rfl) dX6_limped_40 ⟨Nat.le_of_ble_eq_true rfl, Nat.le_of_ble_eq_true rfl⟩ (fun r u H locs hq hP hD hS => ?_)
      rcases hq with ⟨g19_40, g20_40, g21_40, nd_40, d_40, rfl, rfl, h1_40, h2_40, h3_40⟩ | ⟨g19_40, g20_40, g21_40, nd_40, rfl, rfl, h3_40⟩
      · skip
        have h1_40 : d_40 < (v 11 1) := h1_40
        have h2_40 : (v 13) d_40 = ((v 13) j_5) ∧ ∀ j, j < (v 13) d_40 → FE ((v 11 0)) ((v 12)) ((v 15 0)) (lA ((v 16))) (pA ((v 16)) ((v 17))) (g18_19) j = (v 14) (d_40 * 6 + j) := h2_40
        have h3_40 : ∀ e, e < d_40 → ¬ ((v 13) e = ((v 13) j_5) ∧ ∀ j, j < (v 13) e → FE ((v 11 0)) ((v 12)) ((v 15 0)) (lA ((v 16))) (pA ((v 16)) ((v 17))) (g18_19) j = (v 14) (e * 6 + j)) := h3_40
        have hP : va_P D vwCl (xW a cI cJ cZ (va_up (va_up (va_up (va_up (va_up (va_up v 10 (va_up (v 10) 6 (nd_40))) 18 (g18_19)) 19 (g19_40)) 20 (g20_40)) 21 (g21_40)) 22 (g22_19)) c) H := hP
        have hD : va_D A (xW a cI cJ cZ (va_up (va_up (va_up (va_up (va_up (va_up v 10 (va_up (v 10) 6 (nd_40))) 18 (g18_19)) 19 (g19_40)) 20 (g20_40)) 21 (g21_40)) 22 (g22_19)) c) := hD
        exact hret (nI (d_40)) (va_up (va_up (va_up (va_up (va_up (va_up v 10 (va_up (v 10) 6 (nd_40))) 18 (g18_19)) 19 (g19_40)) 20 (g20_40)) 21 (g21_40)) 22 (g22_19), c) _ _ 43 _ dX6_limped_43 rfl (by exact ⟨Or.inl ⟨j_5, h_5, rfl, Or.inl ⟨g18_19, hF_19, Or.inl ⟨d_40, h1_40, rfl, h2_40, h3_40⟩⟩⟩, XS_of hI hs_19 rfl ⟨rfl, rfl, rfl, rfl, rfl, rfl, rfl, rfl, rfl, rfl, rfl, rfl, rfl⟩⟩) hP hD hS
      · skip
        have h3_40 : ∀ e, e < (v 11 1) → ¬ ((v 13) e = ((v 13) j_5) ∧ ∀ j, j < (v 13) e → FE ((v 11 0)) ((v 12)) ((v 15 0)) (lA ((v 16))) (pA ((v 16)) ((v 17))) (g18_19) j = (v 14) (e * 6 + j)) := h3_40
        have hP : va_P D vwCl (xW a cI cJ cZ (va_up (va_up (va_up (va_up (va_up (va_up v 10 (va_up (v 10) 6 (nd_40))) 18 (g18_19)) 19 (g19_40)) 20 (g20_40)) 21 (g21_40)) 22 (g22_19)) c) H := hP
        have hD : va_D A (xW a cI cJ cZ (va_up (va_up (va_up (va_up (va_up (va_up v 10 (va_up (v 10) 6 (nd_40))) 18 (g18_19)) 19 (g19_40)) 20 (g20_40)) 21 (g21_40)) 22 (g22_19)) c) := hD
        exact hret (-9) (va_up (va_up (va_up (va_up (va_up (va_up v 10 (va_up (v 10) 6 (nd_40))) 18 (g18_19)) 19 (g19_40)) 20 (g20_40)) 21 (g21_40)) 22 (g22_19), c) _ _ 43 _ dX6_limped_43 rfl (by exact ⟨Or.inl ⟨j_5, h_5, rfl, Or.inl ⟨g18_19, hF_19, Or.inr ⟨rfl, h3_40⟩⟩⟩, XS_of hI hs_19 rfl ⟨rfl, rfl, rfl, rfl, rfl, rfl, rfl, rfl, rfl, rfl, rfl, rfl, rfl⟩⟩) hP hD hS
    · skip
      have hP : va_P D vwCl (xW a cI cJ cZ (va_up (va_up (va_up (va_up (va_up (va_up v 10 (va_up (v 10) 6 ((v 15 0)))) 18 (g18_19)) 19 (g19_19)) 20 (g20_19)) 21 (g21_19)) 22 (g22_19)) c) H := hP
      have hD : va_D A (xW a cI cJ cZ (va_up (va_up (va_up (va_up (va_up (va_up v 10 (va_up (v 10) 6 ((v 15 0)))) 18 (g18_19)) 19 (g19_19)) 20 (g20_19)) 21 (g21_19)) 22 (g22_19)) c) := hD
      refine w_if_ne (x := 0) hx hb dX6_limped_22 (tgt := 28) (by decide) (by decide) (fun h => absurd h (by decide)) (fun _ => ?_)
      refine lv_bipush (v := -3) hx hb dX6_limped_25 (by decide) ?_
      exact hret ((-3)) (va_up (va_up (va_up (va_up (va_up (va_up v 10 (va_up (v 10) 6 ((v 15 0)))) 18 (g18_19)) 19 (g19_19)) 20 (g20_19)) 21 (g21_19)) 22 (g22_19), c) _ _ 27 _ dX6_limped_27 rfl (by exact ⟨Or.inl ⟨j_5, h_5, rfl, Or.inr ⟨⟨j_19, hj_19, hN_19⟩, rfl⟩⟩, XS_of hI hs_19 rfl ⟨rfl, rfl, rfl, rfl, rfl, rfl, rfl, rfl, rfl, rfl, rfl, rfl, rfl⟩⟩) hP hD hS
  · skip
    have hP : va_P D vwCl (xW a cI cJ cZ v c) H := hP
    have hD : va_D A (xW a cI cJ cZ v c) := hD
    refine w_if_ne (x := 0) hx hb dX6_limped_8 (tgt := 13) (by decide) (by decide) (fun h => absurd h (by decide)) (fun _ => ?_)
    refine lv_iconst (v := -1) hx hb dX6_limped_11 (by decide) ?_
    exact hret ((-1)) (v, c) _ _ 12 _ dX6_limped_12 rfl (by exact ⟨Or.inr ⟨nR_of (by omega) h_5, rfl⟩, XS_of hI hsp rfl ⟨rfl, rfl, rfl, rfl, rfl, rfl, rfl, rfl, rfl, rfl, rfl, rfl, rfl⟩⟩) hP hD hS

set_option maxHeartbeats 4000000 in
set_option maxRecDepth 100000 in
theorem t_plans (l : Launch) (D : va_G) (a : Nat → Nat) (cI cJ cZ : ClassId) (A : Nat → Prop) (v : Nat → Nat → Nat) (c : Nat → Nat → Int32) (x : Int32) (y : Int32) (hI : XI v) :
    mJ l yX6_plans wsX6_plans 9 241 [.ref (a 0), .int x, .int y] D (xT cI cJ cZ) A (xW a cI cJ cZ v c) (fun u : ((Nat → Nat → Nat) × (Nat → Nat → Int32)) => xW a cI cJ cZ u.1 u.2)
    (fun (r : Int64) (u : ((Nat → Nat → Nat) × (Nat → Nat → Int32))) => sp_plans (v 11 0) (v 12) (v 15 0) (lA (v 16)) (pA (v 16) (v 17)) (v 11 1) (v 13) (xFig v) x y r ∧ XS v c u (v 0 8)) := by
  refine w_bJ cX6_plans 3 (by decide) rfl (Nat.le_of_ble_eq_true rfl) ?_
  intro p e s m args below meth c0 ls Q hx hb hml hts hown hK hN hA hret hP hD hS hl
  have hl : lv_has ls 3 [(0, .ref (a 0)), (1, .int x), (2, .int y)] := hl
  have hinX6 : ∀ w ∈ wsX60, w ∈ wsX6_plans := fun w h => List.mem_cons_of_mem _ (List.mem_append_left _ (List.mem_append_left _ (List.mem_append_left _ (List.mem_append_right _ h))))
  obtain ⟨hnb, hnd, hbt, hfg, hne, hnc, hdk, hnf, hkn, hln, hst, hdc, hsp⟩ := id hI
  refine lv_aload_n hx hb dX6_plans_0 rfl (lv_at hl 0 rfl) ?_
  refine va_get (D := D) (ci := 6) (v := .ref (a 11)) (C := RX6) (T := TX6) (N := 9) hx hb hts hinX6 hown hK hP 0 rfl rfl 3 (by decide) (hts (.fieldLink RX6 36 "DancedLock" "floor" "LDancedLock$Floor;") (List.mem_of_getElem? (i := 1) rfl)) (fun _ h9 => h9) rfl dX6_plans_1 ?_
  refine lv_iload_n hx hb dX6_plans_4 rfl (lv_at hl 1 rfl) ?_
  refine lv_iload_n hx hb dX6_plans_5 rfl (lv_at hl 2 rfl) ?_
  refine w_cVi (rest := []) hx hb hml hown hts (k_hasBeat_R l D a cI cJ cZ A v c x y  (by first | assumption | omega) (by first | assumption | omega)) 2 gX6_plans_X2_hasBeat rfl hdX2_hasBeat ⟨Nat.le_of_ble_eq_true rfl, Nat.le_of_ble_eq_true rfl⟩ hK hN hP hD hS hA 11 2 rfl rfl rfl rfl hl.1 rfl (Nat.le_of_ble_eq_true rfl) dX6_plans_6 ⟨Nat.le_of_ble_eq_true rfl, Nat.le_of_ble_eq_true rfl⟩ (fun r u H locs hq hP hD hS => ?_)
  rcases hq with ⟨i_6, j_6, rfl, h_6, hj_6, hs_d_6, hs_k_6⟩ | ⟨rfl, h_6⟩ | ⟨i_6, rfl, h_6, hs_d_6, hk_6⟩
  · skip
    have hP : va_P D vwCl (xW a cI cJ cZ v c) H := hP
    have hD : va_D A (xW a cI cJ cZ v c) := hD
    subst hs_d_6
    have i_6T := n_tI (k := i_6) (by have h9 := hbt _ h_6; omega)
    subst hs_k_6
    have j_6T := n_tI (k := j_6) (by have h9 := hbt _ h_6; omega)
    refine w_if_eq (x := 1) hx hb dX6_plans_9 (tgt := 31) (by decide) (by decide) (fun h => absurd h (by decide)) (fun _ => ?_)
    refine lv_aload_n hx hb dX6_plans_12 rfl (lv_at hl 0 rfl) ?_
    refine va_get (D := D) (ci := 6) (v := .ref (a 10)) (C := RX6) (T := TX6) (N := 9) hx hb hts hinX6 hown hK hP 0 rfl rfl 2 (by decide) (hts (.fieldLink RX6 28 "DancedLock" "dance" "LDancedLock$Dance;") (List.mem_of_getElem? (i := 2) rfl)) (fun _ h9 => h9) rfl dX6_plans_13 ?_
    refine lv_aload_n hx hb dX6_plans_16 rfl (lv_at hl 0 rfl) ?_
    refine va_get (D := D) (ci := 6) (v := .ref (a 11)) (C := RX6) (T := TX6) (N := 9) hx hb hts hinX6 hown hK hP 0 rfl rfl 3 (by decide) (hts (.fieldLink RX6 36 "DancedLock" "floor" "LDancedLock$Floor;") (List.mem_of_getElem? (i := 1) rfl)) (fun _ h9 => h9) rfl dX6_plans_17 ?_
    refine lv_iload_n hx hb dX6_plans_20 rfl (lv_at hl 1 rfl) ?_
    refine lv_iload_n hx hb dX6_plans_21 rfl (lv_at hl 2 rfl) ?_
    refine w_cVi (rest := [.ref (a 10)]) hx hb hml hown hts (k_figureAt l D a cI cJ cZ A v c i_6 j_6  (by first | assumption | omega) (by first | assumption | omega) (by first | assumption | omega) (by have h9 := hbt _ h_6; omega)) 2 gX6_plans_X2_figureAt rfl hdX2_figureAt ⟨Nat.le_of_ble_eq_true rfl, Nat.le_of_ble_eq_true rfl⟩ hK hN hP hD hS hA 11 2 rfl rfl rfl rfl hl.1 rfl (Nat.le_of_ble_eq_true rfl) dX6_plans_22 ⟨Nat.le_of_ble_eq_true rfl, Nat.le_of_ble_eq_true rfl⟩ (fun r u H locs hq hP hD hS => ?_)
    obtain rfl := hq
    have hP : va_P D vwCl (xW a cI cJ cZ v c) H := hP
    have hD : va_D A (xW a cI cJ cZ v c) := hD
    rw [show (nI (if j_6 < (v 13) i_6 then (v 14) (i_6 * 6 + j_6) else 0)) = (nI (v 14 (i_6 * 6 + j_6))) from by rw [if_pos hj_6]]
    refine w_cVl (rest := []) hx hb hml hown hts (k_rowsFor l D a cI cJ cZ A v c (v 14 (i_6 * 6 + j_6))  (by first | assumption | omega) (by exact hfg _ _ h_6 hj_6)) 1 gX6_plans_X0_rowsFor rfl hdX0_rowsFor ⟨Nat.le_of_ble_eq_true rfl, Nat.le_of_ble_eq_true rfl⟩ hK hN hP hD hS hA 10 0 rfl rfl rfl rfl hl.1 rfl (Nat.le_of_ble_eq_true rfl) dX6_plans_25 ⟨Nat.le_of_ble_eq_true rfl, Nat.le_of_ble_eq_true rfl⟩ (fun r u H locs hq hP hD hS => ?_)
    obtain ⟨g18_25, g19_25, g20_25, g21_25, rfl, rfl, hs_25⟩ := hq
    have hP : va_P D vwCl (xW a cI cJ cZ (va_up (va_up (va_up (va_up (va_up v 10 (va_up (v 10) 6 ((v 15 0)))) 18 (g18_25)) 19 (g19_25)) 20 (g20_25)) 21 (g21_25)) c) H := hP
    have hD : va_D A (xW a cI cJ cZ (va_up (va_up (va_up (va_up (va_up v 10 (va_up (v 10) 6 ((v 15 0)))) 18 (g18_25)) 19 (g19_25)) 20 (g20_25)) 21 (g21_25)) c) := hD
    refine lv_goto (tgt := 34) hx hb dX6_plans_28 (by decide) ?_
    exact hret (lN (cr ((v 11 0)) ((v 12)) ((v 15 0)) (lA ((v 16))) (pA ((v 16)) ((v 17))) (v 14 (i_6 * 6 + j_6)) ((v 15 0)) ((v 18)))) (va_up (va_up (va_up (va_up (va_up v 10 (va_up (v 10) 6 ((v 15 0)))) 18 (g18_25)) 19 (g19_25)) 20 (g20_25)) 21 (g21_25), c) _ _ 34 _ dX6_plans_34 (by first | exact ⟨Or.inl ⟨i_6, j_6, h_6, hj_6, rfl, rfl, v 18, rfl⟩, XS_of hI hs_25 rfl ⟨rfl, rfl, rfl, rfl, rfl, rfl, rfl, rfl, rfl, rfl, rfl, rfl, rfl⟩⟩ | exact ⟨Or.inr ⟨fun ⟨d1, j1, q1, q2, q4, q5⟩ => nR_of (by omega) h_6 ⟨d1, q1, q4⟩, rfl⟩, XS_of hI hsp rfl ⟨rfl, rfl, rfl, rfl, rfl, rfl, rfl, rfl, rfl, rfl, rfl, rfl, rfl⟩⟩ | exact ⟨Or.inr ⟨fun ⟨d1, j1, q1, q2, q4, q5⟩ => nR_of (by have h9 := hbt _ h_6; omega) hk_6 ⟨j1, by rw [(n_inj (a := i_6) (b := d1) (by omega) (by omega)).mp q4]; exact q2, q5⟩, rfl⟩, XS_of hI hsp rfl ⟨rfl, rfl, rfl, rfl, rfl, rfl, rfl, rfl, rfl, rfl, rfl, rfl, rfl⟩⟩) hP hD hS
  · skip
    have hP : va_P D vwCl (xW a cI cJ cZ v c) H := hP
    have hD : va_D A (xW a cI cJ cZ v c) := hD
    refine w_if_eq (x := 0) hx hb dX6_plans_9 (tgt := 31) (by decide) (by decide) (fun _ => ?_) (fun h => absurd h (by decide))
    refine lv_ldc2 (own := RX6) hx hb hown (hts (.constantLong RX6 215 (-9223372036854775808)) (List.mem_of_getElem? (i := 3) rfl)) dX6_plans_31 ?_
    exact hret ((-9223372036854775808)) (v, c) _ _ 34 _ dX6_plans_34 (by first | exact ⟨Or.inl ⟨i_6, j_6, h_6, hj_6, rfl, rfl, v 18, rfl⟩, XS_of hI hs_25 rfl ⟨rfl, rfl, rfl, rfl, rfl, rfl, rfl, rfl, rfl, rfl, rfl, rfl, rfl⟩⟩ | exact ⟨Or.inr ⟨fun ⟨d1, j1, q1, q2, q4, q5⟩ => nR_of (by omega) h_6 ⟨d1, q1, q4⟩, rfl⟩, XS_of hI hsp rfl ⟨rfl, rfl, rfl, rfl, rfl, rfl, rfl, rfl, rfl, rfl, rfl, rfl, rfl⟩⟩ | exact ⟨Or.inr ⟨fun ⟨d1, j1, q1, q2, q4, q5⟩ => nR_of (by have h9 := hbt _ h_6; omega) hk_6 ⟨j1, by rw [(n_inj (a := i_6) (b := d1) (by omega) (by omega)).mp q4]; exact q2, q5⟩, rfl⟩, XS_of hI hsp rfl ⟨rfl, rfl, rfl, rfl, rfl, rfl, rfl, rfl, rfl, rfl, rfl, rfl, rfl⟩⟩) hP hD hS
  · skip
    have hP : va_P D vwCl (xW a cI cJ cZ v c) H := hP
    have hD : va_D A (xW a cI cJ cZ v c) := hD
    subst hs_d_6
    have i_6T := n_tI (k := i_6) (by have h9 := hbt _ h_6; omega)
    refine w_if_eq (x := 0) hx hb dX6_plans_9 (tgt := 31) (by decide) (by decide) (fun _ => ?_) (fun h => absurd h (by decide))
    refine lv_ldc2 (own := RX6) hx hb hown (hts (.constantLong RX6 215 (-9223372036854775808)) (List.mem_of_getElem? (i := 3) rfl)) dX6_plans_31 ?_
    exact hret ((-9223372036854775808)) (v, c) _ _ 34 _ dX6_plans_34 (by first | exact ⟨Or.inl ⟨i_6, j_6, h_6, hj_6, rfl, rfl, v 18, rfl⟩, XS_of hI hs_25 rfl ⟨rfl, rfl, rfl, rfl, rfl, rfl, rfl, rfl, rfl, rfl, rfl, rfl, rfl⟩⟩ | exact ⟨Or.inr ⟨fun ⟨d1, j1, q1, q2, q4, q5⟩ => nR_of (by omega) h_6 ⟨d1, q1, q4⟩, rfl⟩, XS_of hI hsp rfl ⟨rfl, rfl, rfl, rfl, rfl, rfl, rfl, rfl, rfl, rfl, rfl, rfl, rfl⟩⟩ | exact ⟨Or.inr ⟨fun ⟨d1, j1, q1, q2, q4, q5⟩ => nR_of (by have h9 := hbt _ h_6; omega) hk_6 ⟨j1, by rw [(n_inj (a := i_6) (b := d1) (by omega) (by omega)).mp q4]; exact q2, q5⟩, rfl⟩, XS_of hI hsp rfl ⟨rfl, rfl, rfl, rfl, rfl, rfl, rfl, rfl, rfl, rfl, rfl, rfl, rfl⟩⟩) hP hD hS

set_option maxHeartbeats 4000000 in
set_option maxRecDepth 100000 in
theorem k_takePlan_R (l : Launch) (D : va_G) (a : Nat → Nat) (cI cJ cZ : ClassId) (A : Nat → Prop) (v : Nat → Nat → Nat) (c : Nat → Nat → Int32) (x : Int32) (sh : Int32) (so : Int32) (ii : Int32) (hI : XI v) :
    mI l yX6_takePlan wsX6_takePlan 5 115 [.ref (a 0), .int x, .int sh, .int so, .int (nI 1), .int ii] D (xT cI cJ cZ) A (xW a cI cJ cZ v c) (fun u : ((Nat → Nat → Nat) × (Nat → Nat → Int32)) => xW a cI cJ cZ u.1 u.2)
    (fun (r : Int32) (u : ((Nat → Nat → Nat) × (Nat → Nat → Int32))) => (r = -1 ∧ u = (va_up v 0 (va_up (v 0) 8 (0)), c) ∧ nR sh 4) ∨ (r = -2 ∧ u = (va_up v 0 (va_up (v 0) 8 (0)), c) ∧ (∃ k, k < 4 ∧ sh = nI k))) := by
  refine w_bI cX6_takePlan 7 .int (by decide) rfl (Nat.le_of_ble_eq_true rfl) (Or.inl rfl) ?_
  intro p e s m args below meth c0 ls Q hx hb hml hts hown hK hN hA hret hP hD hS hl
  have hl : lv_has ls 7 [(0, .ref (a 0)), (1, .int x), (2, .int sh), (3, .int so), (4, .int (nI (1))), (5, .int ii)] := hl
  have hinX5 : ∀ w ∈ wsX50, w ∈ wsX6_takePlan := fun w h => List.mem_cons_of_mem _ (List.mem_append_left _ (List.mem_append_left _ (List.mem_append_left _ (List.mem_append_right _ h))))
  have hinX6 : ∀ w ∈ wsX60, w ∈ wsX6_takePlan := fun w h => List.mem_cons_of_mem _ (List.mem_append_left _ (List.mem_append_left _ (List.mem_append_left _ (List.mem_append_left _ (List.mem_append_right _ h)))))
  obtain ⟨hnb, hnd, hbt, hfg, hne, hnc, hdk, hnf, hkn, hln, hst, hdc, hsp⟩ := id hI
  refine lv_aload_n hx hb dX6_takePlan_0 rfl (lv_at hl 0 rfl) ?_
  refine lv_iload_n hx hb dX6_takePlan_1 rfl (lv_at hl 2 rfl) ?_
  refine lv_iload_n hx hb dX6_takePlan_2 rfl (lv_at hl 3 rfl) ?_
  refine lv_iload hx hb dX6_takePlan_3 (lv_at hl 4 rfl) ?_
  refine lv_iload hx hb dX6_takePlan_5 (lv_at hl 5 rfl) ?_
  refine lv_iload_n hx hb dX6_takePlan_7 rfl (lv_at hl 1 rfl) ?_
  refine lv_aload_n hx hb dX6_takePlan_8 rfl (lv_at hl 0 rfl) ?_
  refine va_get (D := D) (ci := 6) (v := .ref (a 15)) (C := RX6) (T := TX6) (N := 9) hx hb hts hinX6 hown hK hP 0 rfl rfl 4 (by decide) (hts (.fieldLink RX6 41 "DancedLock" "troupe" "LDancedLock$Troupe;") (List.mem_of_getElem? (i := 1) rfl)) (fun _ h9 => h9) rfl dX6_takePlan_9 ?_
  refine va_getN (D := D) (ci := 5) (v := .int (nI (v 15 0))) (C := RX5) (T := TX5) (N := 3) hx hb hts hinX5 hown hK hP 15 rfl rfl 0 (by decide) (va_Nw.use rfl (hN (.fieldLinkNest RX6 70 "DancedLock$Troupe" "count" "I" "DancedLock") (List.mem_of_getElem? (i := 7) rfl))) (fun _ h9 => h9) rfl dX6_takePlan_12 ?_
  refine lv_imul hx hb dX6_takePlan_15 ?_
  refine w_cVi (rest := []) hx hb hml hown hts (k_takeRow l D a cI cJ cZ A v c sh so 1 ii (x * (nI (v 15 0)))  (by first | assumption | omega) (by first | assumption | omega)) 5 gX6_takePlan_X6_takeRow rfl hdX6_takeRow ⟨Nat.le_of_ble_eq_true rfl, Nat.le_of_ble_eq_true rfl⟩ hK hN hP hD hS hA 0 6 rfl rfl rfl rfl hl.1 rfl (Nat.le_of_ble_eq_true rfl) dX6_takePlan_16 ⟨Nat.le_of_ble_eq_true rfl, Nat.le_of_ble_eq_true rfl⟩ (fun r u H locs hq hP hD hS => ?_)
  rcases hq with ⟨rfl, rfl, h_16⟩ | ⟨k_16, rfl, rfl, h1_16, hs_sh_16, h_16⟩ | ⟨k_16, s1_16, rfl, rfl, h1_16, hs_sh_16, h2_16, hs_so_16, h3_16, h4_16⟩ | ⟨k_16, s1_16, rfl, rfl, h1_16, hs_sh_16, h2_16, hs_so_16, h3_16, h4_16, h5_16⟩ | ⟨k_16, s1_16, rfl, rfl, h1_16, hs_sh_16, h2_16, hs_so_16, h3_16, h5_16, h6_16⟩ | ⟨k_16, s1_16, rfl, rfl, h1_16, hs_sh_16, h2_16, hs_so_16, h3_16, h5_16, h6_16, h7_16⟩ | ⟨k_16, s1_16, j_16, n1_16, rfl, rfl, h1_16, hs_sh_16, h2_16, hs_so_16, h3_16, h5_16, hl_16, h6_16, hs_i_16, hs_q_16⟩
  · skip
    have hP : va_P D vwCl (xW a cI cJ cZ (va_up v 0 (va_up (v 0) 8 (0))) c) H := hP
    have hD : va_D A (xW a cI cJ cZ (va_up v 0 (va_up (v 0) 8 (0))) c) := hD
    refine lv_istore (lv' := [(6, .int (-1)), (0, .ref (a 0)), (1, .int x), (2, .int sh), (3, .int so), (4, .int (nI (1))), (5, .int ii)]) hx hb dX6_takePlan_19 hl (by decide) rfl (fun ls hl => ?_)
    refine lv_iload hx hb dX6_takePlan_21 (lv_at hl 0 rfl) ?_
    refine lv_if_eq hx hb dX6_takePlan_23 (tgt := 29) (by decide) (fun c23 => absurd c23 (by decide)) (fun c23 => ?_)
    refine lv_iload hx hb dX6_takePlan_26 (lv_at hl 0 rfl) ?_
    exact hret (-1) (va_up v 0 (va_up (v 0) 8 (0)), c) _ _ 28 _ dX6_takePlan_28 rfl (by exact Or.inl ⟨rfl, rfl, nR_of (by decide) (by omega)⟩) hP hD hS
  · skip
    have hP : va_P D vwCl (xW a cI cJ cZ (va_up v 0 (va_up (v 0) 8 (0))) c) H := hP
    have hD : va_D A (xW a cI cJ cZ (va_up v 0 (va_up (v 0) 8 (0))) c) := hD
    subst hs_sh_16
    have k_16T := n_tI (k := k_16) (by omega)
    refine lv_istore (lv' := [(6, .int (-2)), (0, .ref (a 0)), (1, .int x), (2, .int (nI (k_16))), (3, .int so), (4, .int (nI (1))), (5, .int ii)]) hx hb dX6_takePlan_19 hl (by decide) rfl (fun ls hl => ?_)
    refine lv_iload hx hb dX6_takePlan_21 (lv_at hl 0 rfl) ?_
    refine lv_if_eq hx hb dX6_takePlan_23 (tgt := 29) (by decide) (fun c23 => absurd c23 (by decide)) (fun c23 => ?_)
    refine lv_iload hx hb dX6_takePlan_26 (lv_at hl 0 rfl) ?_
    exact hret (-2) (va_up v 0 (va_up (v 0) 8 (0)), c) _ _ 28 _ dX6_takePlan_28 rfl (by exact Or.inr ⟨rfl, rfl, k_16, h1_16, rfl⟩) hP hD hS
  · skip
    exact absurd h3_16 (by decide)
  · skip
    exact absurd h3_16 (by decide)
  · skip
    exact absurd h3_16 (by decide)
  · skip
    exact absurd h3_16 (by decide)
  · skip
    exact absurd h3_16 (by decide)

set_option maxHeartbeats 4000000 in
set_option maxRecDepth 100000 in
theorem k_takePlan_N (l : Launch) (D : va_G) (a : Nat → Nat) (cI cJ cZ : ClassId) (A : Nat → Prop) (v : Nat → Nat → Nat) (c : Nat → Nat → Int32) (bt : Nat) (sh : Int32) (so : Int32) (ii : Int32) (hI : XI v) (hbt6 : bt ≤ 6) :
    mI l yX6_takePlan wsX6_takePlan 5 115 [.ref (a 0), .int (nI bt), .int sh, .int so, .int (nI 0), .int ii] D (xT cI cJ cZ) A (xW a cI cJ cZ v c) (fun u : ((Nat → Nat → Nat) × (Nat → Nat → Int32)) => xW a cI cJ cZ u.1 u.2)
    (fun (r : Int32) (u : ((Nat → Nat → Nat) × (Nat → Nat → Int32))) => (∃ r0 : Int32, ∃ F : Nat, r = r0 ∧ u = (va_up v 0 (va_up (v 0) 8 (F)), c) ∧ tkB (xNo c) (xHas c) (v 3) sh so False ii (nI (bt * v 15 0)) r0 F ∧ ¬ r0 = 0) ∨ (∃ k1 : Nat, ∃ s1 : Nat, ∃ j1 : Nat, ∃ g25 : Nat → Int32, r = -3 ∧ u = (va_up v 0 (va_up (v 0) 8 (0)), va_up c 25 (g25)) ∧ tkY (xHas c) (v 3) sh so False ii (nI (bt * v 15 0)) k1 s1 j1 (bt * v 15 0) ∧ v 11 1 = 0) ∨ (∃ k1 : Nat, ∃ s1 : Nat, ∃ j1 : Nat, ∃ g25 : Nat → Int32, ∃ g18 : Nat → Nat, r = -1 ∧ u = (va_up (va_up v 0 (va_up (v 0) 8 (0))) 18 (g18), va_up c 25 (g25)) ∧ tkY (xHas c) (v 3) sh so False ii (nI (bt * v 15 0)) k1 s1 j1 (bt * v 15 0) ∧ 0 < v 11 1 ∧ cellsN (xCell c) k1 j1 (v 11 0) (bt * v 15 0) ∧ (∀ q, q < 24 → g18 q < 8)) ∨ (∃ k1 : Nat, ∃ s1 : Nat, ∃ j1 : Nat, ∃ g25 : Nat → Int32, ∃ g18 : Nat → Nat, r = nI (0) ∧ u = (va_up (va_up v 0 (va_up (v 0) 8 (0))) 18 (g18), va_up c 25 (g25)) ∧ tkY (xHas c) (v 3) sh so False ii (nI (bt * v 15 0)) k1 s1 j1 (bt * v 15 0) ∧ 0 < v 11 1 ∧ cellsP (xCell c) k1 j1 (v 11 0) (v 15 0) bt g18 ∧ (∀ q, q < 24 → g18 q < 8))) := by
  refine w_bI cX6_takePlan 7 .int (by decide) rfl (Nat.le_of_ble_eq_true rfl) (Or.inl rfl) ?_
  intro p e s m args below meth c0 ls Q hx hb hml hts hown hK hN hA hret hP hD hS hl
  have hl : lv_has ls 7 [(0, .ref (a 0)), (1, .int (nI (bt))), (2, .int sh), (3, .int so), (4, .int (nI (0))), (5, .int ii)] := hl
  have hinX5 : ∀ w ∈ wsX50, w ∈ wsX6_takePlan := fun w h => List.mem_cons_of_mem _ (List.mem_append_left _ (List.mem_append_left _ (List.mem_append_left _ (List.mem_append_right _ h))))
  have hinX6 : ∀ w ∈ wsX60, w ∈ wsX6_takePlan := fun w h => List.mem_cons_of_mem _ (List.mem_append_left _ (List.mem_append_left _ (List.mem_append_left _ (List.mem_append_left _ (List.mem_append_right _ h)))))
  obtain ⟨hnb, hnd, hbt, hfg, hne, hnc, hdk, hnf, hkn, hln, hst, hdc, hsp⟩ := id hI
  have hm : bt * v 15 0 ≤ 24 := Nat.le_trans (Nat.mul_le_mul hbt6 hnc) (by decide)
  refine lv_aload_n hx hb dX6_takePlan_0 rfl (lv_at hl 0 rfl) ?_
  refine lv_iload_n hx hb dX6_takePlan_1 rfl (lv_at hl 2 rfl) ?_
  refine lv_iload_n hx hb dX6_takePlan_2 rfl (lv_at hl 3 rfl) ?_
  refine lv_iload hx hb dX6_takePlan_3 (lv_at hl 4 rfl) ?_
  refine lv_iload hx hb dX6_takePlan_5 (lv_at hl 5 rfl) ?_
  refine lv_iload_n hx hb dX6_takePlan_7 rfl (lv_at hl 1 rfl) ?_
  refine lv_aload_n hx hb dX6_takePlan_8 rfl (lv_at hl 0 rfl) ?_
  refine va_get (D := D) (ci := 6) (v := .ref (a 15)) (C := RX6) (T := TX6) (N := 9) hx hb hts hinX6 hown hK hP 0 rfl rfl 4 (by decide) (hts (.fieldLink RX6 41 "DancedLock" "troupe" "LDancedLock$Troupe;") (List.mem_of_getElem? (i := 1) rfl)) (fun _ h9 => h9) rfl dX6_takePlan_9 ?_
  refine va_getN (D := D) (ci := 5) (v := .int (nI (v 15 0))) (C := RX5) (T := TX5) (N := 3) hx hb hts hinX5 hown hK hP 15 rfl rfl 0 (by decide) (va_Nw.use rfl (hN (.fieldLinkNest RX6 70 "DancedLock$Troupe" "count" "I" "DancedLock") (List.mem_of_getElem? (i := 7) rfl))) (fun _ h9 => h9) rfl dX6_takePlan_12 ?_
  refine w_imul (x := bt) (y := v 15 0) hx hb dX6_takePlan_15  ?_
  refine w_cVi (rest := []) hx hb hml hown hts (k_takeRow l D a cI cJ cZ A v c sh so 0 ii (nI (bt * (v 15 0)))  (by first | assumption | omega) (by first | assumption | omega)) 5 gX6_takePlan_X6_takeRow rfl hdX6_takeRow ⟨Nat.le_of_ble_eq_true rfl, Nat.le_of_ble_eq_true rfl⟩ hK hN hP hD hS hA 0 6 rfl rfl rfl rfl hl.1 rfl (Nat.le_of_ble_eq_true rfl) dX6_takePlan_16 ⟨Nat.le_of_ble_eq_true rfl, Nat.le_of_ble_eq_true rfl⟩ (fun r u H locs hq hP hD hS => ?_)
  rcases hq with ⟨rfl, rfl, h_16⟩ | ⟨k_16, rfl, rfl, h1_16, hs_sh_16, h_16⟩ | ⟨k_16, s1_16, rfl, rfl, h1_16, hs_sh_16, h2_16, hs_so_16, h3_16, h4_16⟩ | ⟨k_16, s1_16, rfl, rfl, h1_16, hs_sh_16, h2_16, hs_so_16, h3_16, h4_16, h5_16⟩ | ⟨k_16, s1_16, rfl, rfl, h1_16, hs_sh_16, h2_16, hs_so_16, h3_16, h5_16, h6_16⟩ | ⟨k_16, s1_16, rfl, rfl, h1_16, hs_sh_16, h2_16, hs_so_16, h3_16, h5_16, h6_16, h7_16⟩ | ⟨k_16, s1_16, j_16, n1_16, rfl, rfl, h1_16, hs_sh_16, h2_16, hs_so_16, h3_16, h5_16, hl_16, h6_16, hs_i_16, hs_q_16⟩
  · skip
    have hP : va_P D vwCl (xW a cI cJ cZ (va_up v 0 (va_up (v 0) 8 (0))) c) H := hP
    have hD : va_D A (xW a cI cJ cZ (va_up v 0 (va_up (v 0) 8 (0))) c) := hD
    refine lv_istore (lv' := [(6, .int (-1)), (0, .ref (a 0)), (1, .int (nI (bt))), (2, .int sh), (3, .int so), (4, .int (nI (0))), (5, .int ii)]) hx hb dX6_takePlan_19 hl (by decide) rfl (fun ls hl => ?_)
    refine lv_iload hx hb dX6_takePlan_21 (lv_at hl 0 rfl) ?_
    refine lv_if_eq hx hb dX6_takePlan_23 (tgt := 29) (by decide) (fun c23 => absurd c23 (by decide)) (fun c23 => ?_)
    refine lv_iload hx hb dX6_takePlan_26 (lv_at hl 0 rfl) ?_
    exact hret (-1) (va_up v 0 (va_up (v 0) 8 (0)), c) _ _ 28 _ dX6_takePlan_28 rfl (by exact Or.inl ⟨_, _, rfl, rfl, by first | exact tb_0 (by omega) | exact tb_1 h1_16 (by omega) | exact tbo_2 id h1_16 h2_16 h4_16 | exact tbo_3 id h1_16 h2_16 h4_16 h5_16 | exact tbo_4 id h1_16 h2_16 h5_16 h6_16 | exact tbo_5 id h1_16 h2_16 h5_16 h6_16 h7_16, by decide⟩) hP hD hS
  · skip
    have hP : va_P D vwCl (xW a cI cJ cZ (va_up v 0 (va_up (v 0) 8 (0))) c) H := hP
    have hD : va_D A (xW a cI cJ cZ (va_up v 0 (va_up (v 0) 8 (0))) c) := hD
    subst hs_sh_16
    have k_16T := n_tI (k := k_16) (by omega)
    refine lv_istore (lv' := [(6, .int (-2)), (0, .ref (a 0)), (1, .int (nI (bt))), (2, .int (nI (k_16))), (3, .int so), (4, .int (nI (0))), (5, .int ii)]) hx hb dX6_takePlan_19 hl (by decide) rfl (fun ls hl => ?_)
    refine lv_iload hx hb dX6_takePlan_21 (lv_at hl 0 rfl) ?_
    refine lv_if_eq hx hb dX6_takePlan_23 (tgt := 29) (by decide) (fun c23 => absurd c23 (by decide)) (fun c23 => ?_)
    refine lv_iload hx hb dX6_takePlan_26 (lv_at hl 0 rfl) ?_
    exact hret (-2) (va_up v 0 (va_up (v 0) 8 (0)), c) _ _ 28 _ dX6_takePlan_28 rfl (by exact Or.inl ⟨_, _, rfl, rfl, by first | exact tb_0 (by omega) | exact tb_1 h1_16 (by omega) | exact tbo_2 id h1_16 h2_16 h4_16 | exact tbo_3 id h1_16 h2_16 h4_16 h5_16 | exact tbo_4 id h1_16 h2_16 h5_16 h6_16 | exact tbo_5 id h1_16 h2_16 h5_16 h6_16 h7_16, by decide⟩) hP hD hS
  · skip
    have hP : va_P D vwCl (xW a cI cJ cZ (va_up v 0 (va_up (v 0) 8 (1))) c) H := hP
    have hD : va_D A (xW a cI cJ cZ (va_up v 0 (va_up (v 0) 8 (1))) c) := hD
    subst hs_sh_16
    have k_16T := n_tI (k := k_16) (by omega)
    subst hs_so_16
    have s1_16T := n_tI (k := s1_16) (by omega)
    refine lv_istore (lv' := [(6, .int ((-10) - (nI (1)))), (0, .ref (a 0)), (1, .int (nI (bt))), (2, .int (nI (k_16))), (3, .int (nI (s1_16))), (4, .int (nI (0))), (5, .int ii)]) hx hb dX6_takePlan_19 hl (by decide) rfl (fun ls hl => ?_)
    refine lv_iload hx hb dX6_takePlan_21 (lv_at hl 0 rfl) ?_
    refine lv_if_eq hx hb dX6_takePlan_23 (tgt := 29) (by decide) (fun c23 => absurd c23 (by decide)) (fun c23 => ?_)
    refine lv_iload hx hb dX6_takePlan_26 (lv_at hl 0 rfl) ?_
    exact hret ((-10) - (nI (1))) (va_up v 0 (va_up (v 0) 8 (1)), c) _ _ 28 _ dX6_takePlan_28 rfl (by exact Or.inl ⟨_, _, rfl, rfl, by first | exact tb_0 (by omega) | exact tb_1 h1_16 (by omega) | exact tbo_2 id h1_16 h2_16 h4_16 | exact tbo_3 id h1_16 h2_16 h4_16 h5_16 | exact tbo_4 id h1_16 h2_16 h5_16 h6_16 | exact tbo_5 id h1_16 h2_16 h5_16 h6_16 h7_16, by decide⟩) hP hD hS
  · skip
    have hP : va_P D vwCl (xW a cI cJ cZ (va_up v 0 (va_up (v 0) 8 (2))) c) H := hP
    have hD : va_D A (xW a cI cJ cZ (va_up v 0 (va_up (v 0) 8 (2))) c) := hD
    subst hs_sh_16
    have k_16T := n_tI (k := k_16) (by omega)
    subst hs_so_16
    have s1_16T := n_tI (k := s1_16) (by omega)
    refine lv_istore (lv' := [(6, .int ((-10) - (nI (2)))), (0, .ref (a 0)), (1, .int (nI (bt))), (2, .int (nI (k_16))), (3, .int (nI (s1_16))), (4, .int (nI (0))), (5, .int ii)]) hx hb dX6_takePlan_19 hl (by decide) rfl (fun ls hl => ?_)
    refine lv_iload hx hb dX6_takePlan_21 (lv_at hl 0 rfl) ?_
    refine lv_if_eq hx hb dX6_takePlan_23 (tgt := 29) (by decide) (fun c23 => absurd c23 (by decide)) (fun c23 => ?_)
    refine lv_iload hx hb dX6_takePlan_26 (lv_at hl 0 rfl) ?_
    exact hret ((-10) - (nI (2))) (va_up v 0 (va_up (v 0) 8 (2)), c) _ _ 28 _ dX6_takePlan_28 rfl (by exact Or.inl ⟨_, _, rfl, rfl, by first | exact tb_0 (by omega) | exact tb_1 h1_16 (by omega) | exact tbo_2 id h1_16 h2_16 h4_16 | exact tbo_3 id h1_16 h2_16 h4_16 h5_16 | exact tbo_4 id h1_16 h2_16 h5_16 h6_16 | exact tbo_5 id h1_16 h2_16 h5_16 h6_16 h7_16, by decide⟩) hP hD hS
  · skip
    have hP : va_P D vwCl (xW a cI cJ cZ (va_up v 0 (va_up (v 0) 8 (4))) c) H := hP
    have hD : va_D A (xW a cI cJ cZ (va_up v 0 (va_up (v 0) 8 (4))) c) := hD
    subst hs_sh_16
    have k_16T := n_tI (k := k_16) (by omega)
    subst hs_so_16
    have s1_16T := n_tI (k := s1_16) (by omega)
    refine lv_istore (lv' := [(6, .int ((-10) - (nI (4)))), (0, .ref (a 0)), (1, .int (nI (bt))), (2, .int (nI (k_16))), (3, .int (nI (s1_16))), (4, .int (nI (0))), (5, .int ii)]) hx hb dX6_takePlan_19 hl (by decide) rfl (fun ls hl => ?_)
    refine lv_iload hx hb dX6_takePlan_21 (lv_at hl 0 rfl) ?_
    refine lv_if_eq hx hb dX6_takePlan_23 (tgt := 29) (by decide) (fun c23 => absurd c23 (by decide)) (fun c23 => ?_)
    refine lv_iload hx hb dX6_takePlan_26 (lv_at hl 0 rfl) ?_
    exact hret ((-10) - (nI (4))) (va_up v 0 (va_up (v 0) 8 (4)), c) _ _ 28 _ dX6_takePlan_28 rfl (by exact Or.inl ⟨_, _, rfl, rfl, by first | exact tb_0 (by omega) | exact tb_1 h1_16 (by omega) | exact tbo_2 id h1_16 h2_16 h4_16 | exact tbo_3 id h1_16 h2_16 h4_16 h5_16 | exact tbo_4 id h1_16 h2_16 h5_16 h6_16 | exact tbo_5 id h1_16 h2_16 h5_16 h6_16 h7_16, by decide⟩) hP hD hS
  · skip
    have hP : va_P D vwCl (xW a cI cJ cZ (va_up v 0 (va_up (v 0) 8 (3))) c) H := hP
    have hD : va_D A (xW a cI cJ cZ (va_up v 0 (va_up (v 0) 8 (3))) c) := hD
    subst hs_sh_16
    have k_16T := n_tI (k := k_16) (by omega)
    subst hs_so_16
    have s1_16T := n_tI (k := s1_16) (by omega)
    refine lv_istore (lv' := [(6, .int ((-10) - (nI (3)))), (0, .ref (a 0)), (1, .int (nI (bt))), (2, .int (nI (k_16))), (3, .int (nI (s1_16))), (4, .int (nI (0))), (5, .int ii)]) hx hb dX6_takePlan_19 hl (by decide) rfl (fun ls hl => ?_)
    refine lv_iload hx hb dX6_takePlan_21 (lv_at hl 0 rfl) ?_
    refine lv_if_eq hx hb dX6_takePlan_23 (tgt := 29) (by decide) (fun c23 => absurd c23 (by decide)) (fun c23 => ?_)
    refine lv_iload hx hb dX6_takePlan_26 (lv_at hl 0 rfl) ?_
    exact hret ((-10) - (nI (3))) (va_up v 0 (va_up (v 0) 8 (3)), c) _ _ 28 _ dX6_takePlan_28 rfl (by exact Or.inl ⟨_, _, rfl, rfl, by first | exact tb_0 (by omega) | exact tb_1 h1_16 (by omega) | exact tbo_2 id h1_16 h2_16 h4_16 | exact tbo_3 id h1_16 h2_16 h4_16 h5_16 | exact tbo_4 id h1_16 h2_16 h5_16 h6_16 | exact tbo_5 id h1_16 h2_16 h5_16 h6_16 h7_16, by decide⟩) hP hD hS
  · skip
    have hP : va_P D vwCl (xW a cI cJ cZ (va_up v 0 (va_up (v 0) 8 (0))) (va_up c 25 (va_cpy ((c 4)) ((c 25)) (k_16 * 80 + j_16) 0 n1_16))) H := hP
    have hD : va_D A (xW a cI cJ cZ (va_up v 0 (va_up (v 0) 8 (0))) (va_up c 25 (va_cpy ((c 4)) ((c 25)) (k_16 * 80 + j_16) 0 n1_16))) := hD
    subst hs_sh_16
    have k_16T := n_tI (k := k_16) (by omega)
    subst hs_so_16
    have s1_16T := n_tI (k := s1_16) (by omega)
    subst hs_i_16
    have j_16T := n_tI (k := j_16) (by omega)
    refine lv_istore (lv' := [(6, .int (nI (0))), (0, .ref (a 0)), (1, .int (nI (bt))), (2, .int (nI (k_16))), (3, .int (nI (s1_16))), (4, .int (nI (0))), (5, .int (nI (j_16)))]) hx hb dX6_takePlan_19 hl (by decide) rfl (fun ls hl => ?_)
    refine lv_iload hx hb dX6_takePlan_21 (lv_at hl 0 rfl) ?_
    refine w_if_eq (x := 0) hx hb dX6_takePlan_23 (tgt := 29) (by decide) (by decide) (fun _ => ?_) (fun h => absurd h (by decide))
    have hq := (n_inj (by omega) (by omega)).mp hs_q_16
    have hY := tky_o id h1_16 h2_16 h5_16 h6_16 hq
    refine lv_aload_n hx hb dX6_takePlan_29 rfl (lv_at hl 1 rfl) ?_
    refine va_get (D := D) (ci := 6) (v := .ref (a 11)) (C := RX6) (T := TX6) (N := 9) hx hb hts hinX6 hown hK hP 0 rfl rfl 3 (by decide) (hts (.fieldLink RX6 36 "DancedLock" "floor" "LDancedLock$Floor;") (List.mem_of_getElem? (i := 2) rfl)) (fun _ h9 => h9) rfl dX6_takePlan_30 ?_
    refine w_cVi (rest := []) hx hb hml hown hts (k_stands l D a cI cJ cZ A (va_up v 0 (va_up (v 0) 8 (0))) (va_up c 25 (va_cpy ((c 4)) ((c 25)) (k_16 * 80 + j_16) 0 n1_16))   (by show (v 11 1) ≤ 4; first | assumption | omega)) 0 gX6_takePlan_X2_stands rfl hdX2_stands ⟨Nat.le_of_ble_eq_true rfl, Nat.le_of_ble_eq_true rfl⟩ hK hN hP hD hS hA 11 2 rfl rfl rfl rfl hl.1 rfl (Nat.le_of_ble_eq_true rfl) dX6_takePlan_33 ⟨Nat.le_of_ble_eq_true rfl, Nat.le_of_ble_eq_true rfl⟩ (fun r u H locs hq hP hD hS => ?_)
    rcases hq with ⟨rfl, h_33⟩ | ⟨rfl, h_33⟩
    · skip
      have h_33 : 0 < (v 11 1) := h_33
      have hP : va_P D vwCl (xW a cI cJ cZ (va_up v 0 (va_up (v 0) 8 (0))) (va_up c 25 (va_cpy ((c 4)) ((c 25)) (k_16 * 80 + j_16) 0 n1_16))) H := hP
      have hD : va_D A (xW a cI cJ cZ (va_up v 0 (va_up (v 0) 8 (0))) (va_up c 25 (va_cpy ((c 4)) ((c 25)) (k_16 * 80 + j_16) 0 n1_16))) := hD
      refine w_if_ne (x := 1) hx hb dX6_takePlan_36 (tgt := 42) (by decide) (by decide) (fun _ => ?_) (fun h => absurd h (by decide))
      refine lv_aload_n hx hb dX6_takePlan_42 rfl (lv_at hl 1 rfl) ?_
      refine va_get (D := D) (ci := 6) (v := .ref (a 10)) (C := RX6) (T := TX6) (N := 9) hx hb hts hinX6 hown hK hP 0 rfl rfl 2 (by decide) (hts (.fieldLink RX6 28 "DancedLock" "dance" "LDancedLock$Dance;") (List.mem_of_getElem? (i := 3) rfl)) (fun _ h9 => h9) rfl dX6_takePlan_43 ?_
      refine lv_aload_n hx hb dX6_takePlan_46 rfl (lv_at hl 1 rfl) ?_
      refine va_get (D := D) (ci := 6) (v := .ref (a 25)) (C := RX6) (T := TX6) (N := 9) hx hb hts hinX6 hown hK hP 0 rfl rfl 6 (by decide) (hts (.fieldLink RX6 49 "DancedLock" "row" "[I") (List.mem_of_getElem? (i := 4) rfl)) (fun _ h9 => h9) rfl dX6_takePlan_47 ?_
      refine lv_iload_n hx hb dX6_takePlan_50 rfl (lv_at hl 2 rfl) ?_
      refine w_cVi (rest := []) hx hb hml hown hts (k_learn l D a cI cJ cZ A (va_up v 0 (va_up (v 0) 8 (0))) (va_up c 25 (va_cpy ((c 4)) ((c 25)) (k_16 * 80 + j_16) 0 n1_16)) bt  (by show (v 11 0) ≤ 7; first | assumption | omega) (by show (v 15 0) ≤ 4; first | assumption | omega) (by show ∀ q, q < 24 → (v 18) q < 8; first | assumption | omega) (by first | assumption | omega)) 2 gX6_takePlan_X0_learn rfl hdX0_learn ⟨Nat.le_of_ble_eq_true rfl, Nat.le_of_ble_eq_true rfl⟩ hK hN hP hD hS hA 10 0 rfl rfl rfl rfl hl.1 rfl (Nat.le_of_ble_eq_true rfl) dX6_takePlan_51 ⟨Nat.le_of_ble_eq_true rfl, Nat.le_of_ble_eq_true rfl⟩ (fun r u H locs hq hP hD hS => ?_)
      rcases hq with ⟨g18_51, rfl, rfl, h1_51, h2_51⟩ | ⟨g18_51, q_51, rfl, rfl, h1_51, h2_51, h3_51⟩
      · skip
        have h1_51 : ∀ j e, j < bt → e < (v 15 0) → (va_cpy ((c 4)) ((c 25)) (k_16 * 80 + j_16) 0 n1_16) (j * (v 15 0) + e) = nI (g18_51 (j * 4 + e)) ∧ g18_51 (j * 4 + e) < (v 11 0) := h1_51
        have hP : va_P D vwCl (xW a cI cJ cZ (va_up (va_up v 0 (va_up (v 0) 8 (0))) 18 (g18_51)) (va_up c 25 (va_cpy ((c 4)) ((c 25)) (k_16 * 80 + j_16) 0 n1_16))) H := hP
        have hD : va_D A (xW a cI cJ cZ (va_up (va_up v 0 (va_up (v 0) 8 (0))) 18 (g18_51)) (va_up c 25 (va_cpy ((c 4)) ((c 25)) (k_16 * 80 + j_16) 0 n1_16))) := hD
        refine w_if_eq (x := 1) hx hb dX6_takePlan_54 (tgt := 61) (by decide) (by decide) (fun h => absurd h (by decide)) (fun _ => ?_)
        refine lv_iconst (v := nI (0)) hx hb dX6_takePlan_57 (by decide) ?_
        refine lv_goto (tgt := 62) hx hb dX6_takePlan_58 (by decide) ?_
        exact hret (nI (0)) (va_up (va_up v 0 (va_up (v 0) 8 (0))) 18 (g18_51), va_up c 25 (va_cpy ((c 4)) ((c 25)) (k_16 * 80 + j_16) 0 n1_16)) _ _ 62 _ dX6_takePlan_62 rfl (by exact Or.inr (Or.inr (Or.inr ⟨_, _, _, _, g18_51, rfl, rfl, hY, h_33, cellsP_of hq h1_51, h2_51⟩))) hP hD hS
      · skip
        have h1_51 : q_51 < bt * (v 15 0) := h1_51
        have h2_51 : ((va_cpy ((c 4)) ((c 25)) (k_16 * 80 + j_16) 0 n1_16) q_51).toInt < 0 ∨ ((v 11 0) : Int) ≤ ((va_cpy ((c 4)) ((c 25)) (k_16 * 80 + j_16) 0 n1_16) q_51).toInt := h2_51
        have hP : va_P D vwCl (xW a cI cJ cZ (va_up (va_up v 0 (va_up (v 0) 8 (0))) 18 (g18_51)) (va_up c 25 (va_cpy ((c 4)) ((c 25)) (k_16 * 80 + j_16) 0 n1_16))) H := hP
        have hD : va_D A (xW a cI cJ cZ (va_up (va_up v 0 (va_up (v 0) 8 (0))) 18 (g18_51)) (va_up c 25 (va_cpy ((c 4)) ((c 25)) (k_16 * 80 + j_16) 0 n1_16))) := hD
        refine w_if_eq (x := 0) hx hb dX6_takePlan_54 (tgt := 61) (by decide) (by decide) (fun _ => ?_) (fun h => absurd h (by decide))
        refine lv_iconst (v := -1) hx hb dX6_takePlan_61 (by decide) ?_
        exact hret ((-1)) (va_up (va_up v 0 (va_up (v 0) 8 (0))) 18 (g18_51), va_up c 25 (va_cpy ((c 4)) ((c 25)) (k_16 * 80 + j_16) 0 n1_16)) _ _ 62 _ dX6_takePlan_62 rfl (by exact Or.inr (Or.inr (Or.inl ⟨_, _, _, _, g18_51, rfl, rfl, hY, h_33, cellsN_of (by omega) hq h1_51 h2_51, h3_51⟩))) hP hD hS
    · skip
      have h_33 : (v 11 1) = 0 := h_33
      have hP : va_P D vwCl (xW a cI cJ cZ (va_up v 0 (va_up (v 0) 8 (0))) (va_up c 25 (va_cpy ((c 4)) ((c 25)) (k_16 * 80 + j_16) 0 n1_16))) H := hP
      have hD : va_D A (xW a cI cJ cZ (va_up v 0 (va_up (v 0) 8 (0))) (va_up c 25 (va_cpy ((c 4)) ((c 25)) (k_16 * 80 + j_16) 0 n1_16))) := hD
      refine w_if_ne (x := 0) hx hb dX6_takePlan_36 (tgt := 42) (by decide) (by decide) (fun h => absurd h (by decide)) (fun _ => ?_)
      refine lv_bipush (v := -3) hx hb dX6_takePlan_39 (by decide) ?_
      exact hret ((-3)) (va_up v 0 (va_up (v 0) 8 (0)), va_up c 25 (va_cpy ((c 4)) ((c 25)) (k_16 * 80 + j_16) 0 n1_16)) _ _ 41 _ dX6_takePlan_41 rfl (by exact Or.inr (Or.inl ⟨_, _, _, _, rfl, rfl, hY, h_33⟩)) hP hD hS
