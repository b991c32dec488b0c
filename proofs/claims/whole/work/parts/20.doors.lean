/-! ===== doors ===== -/
theorem part_y {P : Nat → Prop} {A : Nat → Prop} {y i j w x : Nat} (h : (y = dset P i ||| 2 ^ i ∧ ∃ fr, fr < j ∧ fr + x ≤ w ∧ A fr) ∨ (y = dset P i ∧ ¬ ∃ fr, fr < j ∧ fr + x ≤ w ∧ A fr)) (hj : j + x ≤ w) (ha : A j) {e : Nat} (he : e = 2 ^ i) : (y ||| e = dset P i ||| 2 ^ i ∧ ∃ fr, fr < j + 1 ∧ fr + x ≤ w ∧ A fr) ∨ (y ||| e = dset P i ∧ ¬ ∃ fr, fr < j + 1 ∧ fr + x ≤ w ∧ A fr) := by
  refine Or.inl ⟨?_, j, by omega, hj, ha⟩
  rw [he]
  rcases h with h | h
  · rw [h.1, or_idem]
  · rw [h.1]
theorem part_n {P : Nat → Prop} {A : Nat → Prop} {y i j w x : Nat} (h : (y = dset P i ||| 2 ^ i ∧ ∃ fr, fr < j ∧ fr + x ≤ w ∧ A fr) ∨ (y = dset P i ∧ ¬ ∃ fr, fr < j ∧ fr + x ≤ w ∧ A fr)) (ha : ¬ A j) : (y = dset P i ||| 2 ^ i ∧ ∃ fr, fr < j + 1 ∧ fr + x ≤ w ∧ A fr) ∨ (y = dset P i ∧ ¬ ∃ fr, fr < j + 1 ∧ fr + x ≤ w ∧ A fr) := by
  rcases h with ⟨h1, fr, g1, g2⟩ | ⟨h1, h2⟩
  · exact Or.inl ⟨h1, fr, by omega, g2⟩
  · refine Or.inr ⟨h1, fun z => ?_⟩
    obtain ⟨fr, g1, g2, g3⟩ := z
    by_cases e : fr = j
    · subst e; exact ha g3
    · exact h2 ⟨fr, by omega, g2, g3⟩
theorem two_s {n i : Nat} {B : Nat → Nat → Prop} (h : ∀ a b, a < i → b < n → a ≠ b → ¬ B a b) (hi : ∀ b, b < n → i ≠ b → ¬ B i b) : ∀ a b, a < i + 1 → b < n → a ≠ b → ¬ B a b := by
  intro a b ha hb
  by_cases e : a = i
  · subst e; exact hi b hb
  · exact h a b (by omega) hb
set_option maxHeartbeats 4000000 in
set_option maxRecDepth 100000 in
theorem k_allBars (l : Launch) (D : va_G) (a : Nat → Nat) (cI cJ cZ : ClassId) (A : Nat → Prop) (v : Nat → Nat → Nat) (c : Nat → Nat → Int32) (hI : XI v) :
    mI l yX2_allBars wsX2_allBars 3 63 [.ref (a 11)] D (xT cI cJ cZ) A (xW a cI cJ cZ v c) (fun _ : Unit => xW a cI cJ cZ v c)
    (fun (r : Int32) (u : Unit) => r = nI (abr (v 13) (v 11 1))) := by
  refine w_bI cX2_allBars 3 .int (by decide) rfl (Nat.le_of_ble_eq_true rfl) (Or.inl rfl) ?_
  intro p e s m args below meth c0 ls Q hx hb hml hts hown hK hN hA hret hP hD hS hl
  have hl : lv_has ls 3 [(0, .ref (a 11))] := hl
  have hinX2 : ∀ w ∈ wsX20, w ∈ wsX2_allBars := fun w h => List.mem_cons_of_mem _ (List.mem_append_right _ h)
  obtain ⟨hnb, hnd, hbt, hfg, hne, hnc, hdk, hnf, hkn, hln, hst, hdc, hsp⟩ := id hI
  refine lv_iconst (v := nI (0)) hx hb dX2_allBars_0 (by decide) ?_
  refine lv_istore_n (lv' := [(1, .int (nI (0))), (0, .ref (a 11))]) hx hb dX2_allBars_1 rfl hl (by decide) rfl (fun ls hl => ?_)
  refine lv_iconst (v := nI (0)) hx hb dX2_allBars_2 (by decide) ?_
  refine lv_istore_n (lv' := [(2, .int (nI (0))), (1, .int (nI (0))), (0, .ref (a 11))]) hx hb dX2_allBars_3 rfl hl (by decide) rfl (fun ls hl => ?_)
  have L4 : ∀ (n : Nat) (i : Nat) (g : Nat) (H : Heap) (locs : List Loc) (ls : Array Slot), v 11 1 - i < n → (i ≤ v 11 1) → (g = abr (v 13) i) → va_P D vwCl (xW a cI cJ cZ v c) H → va_D A (xW a cI cJ cZ v c) → va_S A s.heap H locs → lv_has ls 3 [(1, .int (nI (g))), (2, .int (nI (i))), (0, .ref (a 11))] → W p l e { frames := 3, cells := 0, slots := 0, locals := 63 } s m args below meth c0 H locs 0 0 Q (F0 m 4 ls []) := by
    intro n
    induction n with
    | zero => intro i g H locs ls hm; exact absurd hm (Nat.not_lt_zero _)
    | succ n ih4 =>
      intro i g H locs ls hm4 h1 h2 hP hD hS hl
      refine lv_iload_n hx hb dX2_allBars_4 rfl (lv_at hl 1 rfl) ?_
      refine lv_aload_n hx hb dX2_allBars_5 rfl (lv_at hl 2 rfl) ?_
      refine va_get (D := D) (ci := 2) (v := .int (nI (v 11 1))) (C := RX2) (T := TX2) (N := 5) hx hb hts hinX2 hown hK hP 11 rfl rfl 1 (by decide) (hts (.fieldLink RX2 25 "DancedLock$Floor" "doors" "I") (List.mem_of_getElem? (i := 1) rfl)) (fun _ h9 => h9) rfl dX2_allBars_6 ?_
      refine w_icmp_ge (x := i) (y := v 11 1) hx hb dX2_allBars_9 (tgt := 26) (by decide) (by omega) (by omega) (fun c9 => ?_) (fun c9 => ?_)
      · skip
        refine lv_iload_n hx hb dX2_allBars_26 rfl (lv_at hl 0 rfl) ?_
        exact hret (nI (g)) () _ _ 27 _ dX2_allBars_27 rfl (by have e : i = v 11 1 := (by omega); subst e; rw [h2]) hP hD hS
      · skip
        refine lv_iload_n hx hb dX2_allBars_12 rfl (lv_at hl 0 rfl) ?_
        refine lv_aload_n hx hb dX2_allBars_13 rfl (lv_at hl 2 rfl) ?_
        refine lv_iload_n hx hb dX2_allBars_14 rfl (lv_at hl 1 rfl) ?_
        refine w_cVi (rest := [.int (nI (g))]) hx hb hml hown hts (k_barsOfDoor l D a cI cJ cZ A v c i  (by first | assumption | omega) (by first | assumption | omega) (by first | assumption | omega)) 1 gX2_allBars_X2_barsOfDoor rfl hdX2_barsOfDoor ⟨Nat.le_of_ble_eq_true rfl, Nat.le_of_ble_eq_true rfl⟩ hK hN hP hD hS hA 11 2 rfl rfl rfl rfl hl.1 rfl (Nat.le_of_ble_eq_true rfl) dX2_allBars_15 ⟨Nat.le_of_ble_eq_true rfl, Nat.le_of_ble_eq_true rfl⟩ (fun r u H locs hq hP hD hS => ?_)
        obtain rfl := hq
        have hP : va_P D vwCl (xW a cI cJ cZ v c) H := hP
        have hD : va_D A (xW a cI cJ cZ v c) := hD
        refine w_ior (x := g) (y := (2 ^ (v 13) i - 1) * 2 ^ (i * 6)) hx hb dX2_allBars_18  ?_
        refine lv_istore_n (lv' := [(1, .int (nI (g ||| ((2 ^ (v 13) i - 1) * 2 ^ (i * 6))))), (2, .int (nI (i))), (0, .ref (a 11))]) hx hb dX2_allBars_19 rfl hl (by decide) rfl (fun ls hl => ?_)
        refine lv_iinc (v := nI (i + 1)) (lv' := [(2, .int (nI (i + 1))), (1, .int (nI (g ||| ((2 ^ (v 13) i - 1) * 2 ^ (i * 6))))), (0, .ref (a 11))]) hx hb dX2_allBars_20 hl (k := 1) rfl (nI_add i 1) (by decide) rfl (fun ls hl => ?_)
        refine lv_goto (tgt := 4) hx hb dX2_allBars_23 (by decide) ?_
        exact ih4 (i + 1) (g ||| ((2 ^ (v 13) i - 1) * 2 ^ (i * 6))) _ _ _ (by omega) (by omega) (by rw [h2]; rfl) hP hD hS (lv_sub hl [1, 0, 2] rfl)
  exact L4 ((v 11 1 - 0) + 1) 0 0 _ _ _ (Nat.lt_succ_self _) (by omega) (by rfl) hP hD hS (lv_sub hl [1, 0, 2] rfl)

set_option maxHeartbeats 4000000 in
set_option maxRecDepth 100000 in
theorem k_agrees (l : Launch) (D : va_G) (a : Nat → Nat) (cI cJ cZ : ClassId) (A : Nat → Prop) (v : Nat → Nat → Nat) (c : Nat → Nat → Int32) (dd : Nat) (fr : Nat) (am : Nat) (nn : Nat) (hI : XI v) (hdd : dd < v 11 1) (hfn : fr + nn ≤ v 13 dd) :
    mI l yX2_agrees wsX2_agrees 3 65 [.ref (a 11), .int (nI dd), .int (nI fr), .int (nI am), .ref (a 25), .int (nI nn)] D (xT cI cJ cZ) A (xW a cI cJ cZ v c) (fun _ : Unit => xW a cI cJ cZ v c)
    (fun (r : Int32) (u : Unit) => (r = nI (1) ∧ (∀ k, k < nn → nI (v 14 (dd * 6 + (fr + k)) &&& am) = c 25 k)) ∨ (r = nI (0) ∧ (¬ (∀ k, k < nn → nI (v 14 (dd * 6 + (fr + k)) &&& am) = c 25 k)))) := by
  refine w_bI cX2_agrees 7 .boolean (by decide) rfl (Nat.le_of_ble_eq_true rfl) (Or.inr rfl) ?_
  intro p e s m args below meth c0 ls Q hx hb hml hts hown hK hN hA hret hP hD hS hl
  have hl : lv_has ls 7 [(0, .ref (a 11)), (1, .int (nI (dd))), (2, .int (nI (fr))), (3, .int (nI (am))), (4, .ref (a 25)), (5, .int (nI (nn)))] := hl
  obtain ⟨hnb, hnd, hbt, hfg, hne, hnc, hdk, hnf, hkn, hln, hst, hdc, hsp⟩ := id hI
  have hbd := hbt dd hdd
  refine lv_iconst (v := nI (0)) hx hb dX2_agrees_0 (by decide) ?_
  refine lv_istore (lv' := [(6, .int (nI (0))), (0, .ref (a 11)), (1, .int (nI (dd))), (2, .int (nI (fr))), (3, .int (nI (am))), (4, .ref (a 25)), (5, .int (nI (nn)))]) hx hb dX2_agrees_1 hl (by decide) rfl (fun ls hl => ?_)
  have L3 : ∀ (n : Nat) (i : Nat) (H : Heap) (locs : List Loc) (ls : Array Slot), nn - i < n → (i ≤ nn) → (∀ k, k < i → nI (v 14 (dd * 6 + (fr + k)) &&& am) = c 25 k) → va_P D vwCl (xW a cI cJ cZ v c) H → va_D A (xW a cI cJ cZ v c) → va_S A s.heap H locs → lv_has ls 7 [(6, .int (nI (i))), (0, .ref (a 11)), (1, .int (nI (dd))), (2, .int (nI (fr))), (3, .int (nI (am))), (4, .ref (a 25)), (5, .int (nI (nn)))] → W p l e { frames := 3, cells := 0, slots := 0, locals := 65 } s m args below meth c0 H locs 0 0 Q (F0 m 3 ls []) := by
    intro n
    induction n with
    | zero => intro i H locs ls hm; exact absurd hm (Nat.not_lt_zero _)
    | succ n ih3 =>
      intro i H locs ls hm3 h1 h2 hP hD hS hl
      refine lv_iload hx hb dX2_agrees_3 (lv_at hl 0 rfl) ?_
      refine lv_iload hx hb dX2_agrees_5 (lv_at hl 6 rfl) ?_
      refine w_icmp_ge (x := i) (y := nn) hx hb dX2_agrees_7 (tgt := 45) (by decide) (by omega) (by omega) (fun c7 => ?_) (fun c7 => ?_)
      · skip
        refine lv_iconst (v := nI (1)) hx hb dX2_agrees_45 (by decide) ?_
        exact hret (nI (1)) () _ _ 46 _ dX2_agrees_46 rfl (by have e : i = nn := (by omega); exact Or.inl ⟨rfl, by rw [← e]; exact h2⟩) hP hD hS
      · skip
        refine lv_iload hx hb dX2_agrees_10 (lv_at hl 0 rfl) ?_
        refine lv_aload hx hb dX2_agrees_12 (lv_at hl 5 rfl) ?_
        refine va_alen (v := nI 80) hx hb hK hP 25 0 rfl rfl rfl dX2_agrees_14 ?_
        refine w_icmp_ge (x := i) (y := 80) hx hb dX2_agrees_15 (tgt := 45) (by decide) (by omega) (by omega) (fun c15 => absurd c15 (by omega)) (fun c15 => ?_)
        refine lv_aload_n hx hb dX2_agrees_18 rfl (lv_at hl 1 rfl) ?_
        refine lv_iload_n hx hb dX2_agrees_19 rfl (lv_at hl 2 rfl) ?_
        refine lv_iload_n hx hb dX2_agrees_20 rfl (lv_at hl 3 rfl) ?_
        refine lv_iload hx hb dX2_agrees_21 (lv_at hl 0 rfl) ?_
        refine w_iadd (x := fr) (y := i) hx hb dX2_agrees_23  ?_
        refine w_cVi (rest := []) hx hb hml hown hts (k_figureAt l D a cI cJ cZ A v c dd (fr + i)  (by first | assumption | omega) (by first | assumption | omega) (by first | assumption | omega) (by first | assumption | omega)) 2 gX2_agrees_X2_figureAt rfl hdX2_figureAt ⟨Nat.le_of_ble_eq_true rfl, Nat.le_of_ble_eq_true rfl⟩ hK hN hP hD hS hA 11 2 rfl rfl rfl rfl hl.1 rfl (Nat.le_of_ble_eq_true rfl) dX2_agrees_24 ⟨Nat.le_of_ble_eq_true rfl, Nat.le_of_ble_eq_true rfl⟩ (fun r u H locs hq hP hD hS => ?_)
        obtain rfl := hq
        have hP : va_P D vwCl (xW a cI cJ cZ v c) H := hP
        have hD : va_D A (xW a cI cJ cZ v c) := hD
        rw [show (nI (if (fr + i) < (v 13) dd then (v 14) (dd * 6 + (fr + i)) else 0)) = (nI (v 14 (dd * 6 + (fr + i)))) from by rw [if_pos (by omega)]]
        refine lv_iload_n hx hb dX2_agrees_27 rfl (lv_at hl 4 rfl) ?_
        refine w_iand (x := v 14 (dd * 6 + (fr + i))) (y := am) hx hb dX2_agrees_28  ?_
        refine lv_aload hx hb dX2_agrees_29 (lv_at hl 5 rfl) ?_
        refine lv_iload hx hb dX2_agrees_31 (lv_at hl 0 rfl) ?_
        refine r_iald (f := c 25) hx hb hK hP 25 0 rfl rfl (i := i) (by omega) (by decide) dX2_agrees_33 ?_
        refine lv_icmp_eq (x := nI ((v 14 (dd * 6 + (fr + i))) &&& am)) (y := c 25 i) hx hb dX2_agrees_34 (tgt := 39) (by decide) (fun c34 => ?_) (fun c34 => ?_)
        · skip
          refine lv_iinc (v := nI (i + 1)) (lv' := [(6, .int (nI (i + 1))), (0, .ref (a 11)), (1, .int (nI (dd))), (2, .int (nI (fr))), (3, .int (nI (am))), (4, .ref (a 25)), (5, .int (nI (nn)))]) hx hb dX2_agrees_39 hl (k := 0) rfl (nI_add i 1) (by decide) rfl (fun ls hl => ?_)
          refine lv_goto (tgt := 3) hx hb dX2_agrees_42 (by decide) ?_
          exact ih3 (i + 1) _ _ _ (by omega) (by omega) (by exact lt_s h2 c34) hP hD hS (lv_sub hl [0, 1, 2, 3, 4, 5, 6] rfl)
        · skip
          refine lv_iconst (v := nI (0)) hx hb dX2_agrees_37 (by decide) ?_
          exact hret (nI (0)) () _ _ 38 _ dX2_agrees_38 rfl (by exact Or.inr ⟨rfl, fun z => c34 (z i (by omega))⟩) hP hD hS
  exact L3 ((nn - 0) + 1) 0 _ _ _ (Nat.lt_succ_self _) (by omega) (by exact fun k hk => absurd hk (Nat.not_lt_zero _)) hP hD hS (lv_sub hl [0, 1, 2, 3, 4, 5, 6] rfl)

set_option maxHeartbeats 4000000 in
set_option maxRecDepth 100000 in
theorem k_doorsSeen (l : Launch) (D : va_G) (a : Nat → Nat) (cI cJ cZ : ClassId) (A : Nat → Prop) (v : Nat → Nat → Nat) (c : Nat → Nat → Int32) (am : Nat) (nn : Nat) (hI : XI v) (hn : nn ≤ 80) :
    mI l yX2_doorsSeen wsX2_doorsSeen 4 91 [.ref (a 11), .int (nI am), .ref (a 25), .int (nI nn)] D (xT cI cJ cZ) A (xW a cI cJ cZ v c) (fun _ : Unit => xW a cI cJ cZ v c)
    (fun (r : Int32) (u : Unit) => r = nI (dset (fun d => v 13 d = nn ∧ ∀ k, k < nn → nI (v 14 (d * 6 + k) &&& am) = c 25 k) (v 11 1))) := by
  refine w_bI cX2_doorsSeen 6 .int (by decide) rfl (Nat.le_of_ble_eq_true rfl) (Or.inl rfl) ?_
  intro p e s m args below meth c0 ls Q hx hb hml hts hown hK hN hA hret hP hD hS hl
  have hl : lv_has ls 6 [(0, .ref (a 11)), (1, .int (nI (am))), (2, .ref (a 25)), (3, .int (nI (nn)))] := hl
  have hinX2 : ∀ w ∈ wsX20, w ∈ wsX2_doorsSeen := fun w h => List.mem_cons_of_mem _ (List.mem_append_right _ h)
  obtain ⟨hnb, hnd, hbt, hfg, hne, hnc, hdk, hnf, hkn, hln, hst, hdc, hsp⟩ := id hI
  refine lv_iconst (v := nI (0)) hx hb dX2_doorsSeen_0 (by decide) ?_
  refine lv_istore (lv' := [(4, .int (nI (0))), (0, .ref (a 11)), (1, .int (nI (am))), (2, .ref (a 25)), (3, .int (nI (nn)))]) hx hb dX2_doorsSeen_1 hl (by decide) rfl (fun ls hl => ?_)
  refine lv_iconst (v := nI (0)) hx hb dX2_doorsSeen_3 (by decide) ?_
  refine lv_istore (lv' := [(5, .int (nI (0))), (4, .int (nI (0))), (0, .ref (a 11)), (1, .int (nI (am))), (2, .ref (a 25)), (3, .int (nI (nn)))]) hx hb dX2_doorsSeen_4 hl (by decide) rfl (fun ls hl => ?_)
  have L6 : ∀ (n : Nat) (i : Nat) (q : Nat) (H : Heap) (locs : List Loc) (ls : Array Slot), v 11 1 - i < n → (i ≤ v 11 1) → (q = dset (fun d => v 13 d = nn ∧ ∀ k, k < nn → nI (v 14 (d * 6 + k) &&& am) = c 25 k) i) → va_P D vwCl (xW a cI cJ cZ v c) H → va_D A (xW a cI cJ cZ v c) → va_S A s.heap H locs → lv_has ls 6 [(4, .int (nI (q))), (5, .int (nI (i))), (0, .ref (a 11)), (1, .int (nI (am))), (2, .ref (a 25)), (3, .int (nI (nn)))] → W p l e { frames := 4, cells := 0, slots := 0, locals := 91 } s m args below meth c0 H locs 0 0 Q (F0 m 6 ls []) := by
    intro n
    induction n with
    | zero => intro i q H locs ls hm; exact absurd hm (Nat.not_lt_zero _)
    | succ n ih6 =>
      intro i q H locs ls hm6 h1 h2 hP hD hS hl
      refine lv_iload hx hb dX2_doorsSeen_6 (lv_at hl 1 rfl) ?_
      refine lv_aload_n hx hb dX2_doorsSeen_8 rfl (lv_at hl 2 rfl) ?_
      refine va_get (D := D) (ci := 2) (v := .int (nI (v 11 1))) (C := RX2) (T := TX2) (N := 5) hx hb hts hinX2 hown hK hP 11 rfl rfl 1 (by decide) (hts (.fieldLink RX2 25 "DancedLock$Floor" "doors" "I") (List.mem_of_getElem? (i := 1) rfl)) (fun _ h9 => h9) rfl dX2_doorsSeen_9 ?_
      refine w_icmp_ge (x := i) (y := v 11 1) hx hb dX2_doorsSeen_12 (tgt := 53) (by decide) (by omega) (by omega) (fun c12 => ?_) (fun c12 => ?_)
      · skip
        refine lv_iload hx hb dX2_doorsSeen_53 (lv_at hl 0 rfl) ?_
        exact hret (nI (q)) () _ _ 55 _ dX2_doorsSeen_55 rfl (by have e : i = v 11 1 := (by omega); subst e; rw [h2]) hP hD hS
      · skip
        have hbi := hbt i (by omega)
        have hpi := pow_le_128 (show i ≤ 7 by omega)
        refine lv_aload_n hx hb dX2_doorsSeen_15 rfl (lv_at hl 2 rfl) ?_
        refine lv_iload hx hb dX2_doorsSeen_16 (lv_at hl 1 rfl) ?_
        refine w_cVi (rest := []) hx hb hml hown hts (k_beatsOf l D a cI cJ cZ A v c i  (by first | assumption | omega) (by first | assumption | omega)) 1 gX2_doorsSeen_X2_beatsOf rfl hdX2_beatsOf ⟨Nat.le_of_ble_eq_true rfl, Nat.le_of_ble_eq_true rfl⟩ hK hN hP hD hS hA 11 2 rfl rfl rfl rfl hl.1 rfl (Nat.le_of_ble_eq_true rfl) dX2_doorsSeen_18 ⟨Nat.le_of_ble_eq_true rfl, Nat.le_of_ble_eq_true rfl⟩ (fun r u H locs hq hP hD hS => ?_)
        obtain rfl := hq
        have hP : va_P D vwCl (xW a cI cJ cZ v c) H := hP
        have hD : va_D A (xW a cI cJ cZ v c) := hD
        refine lv_iload_n hx hb dX2_doorsSeen_21 rfl (lv_at hl 5 rfl) ?_
        refine w_icmp_ne (x := (v 13) i) (y := nn) hx hb dX2_doorsSeen_22 (tgt := 47) (by decide) (by omega) (by omega) (fun c22 => ?_) (fun c22 => ?_)
        · skip
          refine lv_iinc (v := nI (i + 1)) (lv' := [(5, .int (nI (i + 1))), (4, .int (nI (q))), (0, .ref (a 11)), (1, .int (nI (am))), (2, .ref (a 25)), (3, .int (nI (nn)))]) hx hb dX2_doorsSeen_47 hl (k := 1) rfl (nI_add i 1) (by decide) rfl (fun ls hl => ?_)
          refine lv_goto (tgt := 6) hx hb dX2_doorsSeen_50 (by decide) ?_
          exact ih6 (i + 1) q _ _ _ (by omega) (by omega) (by first | (rw [h2, dset_n (fun z => c22 z.1)]) | (rw [h2, dset_n (fun z => h_32 (fun k hk => by rw [Nat.zero_add]; exact z.2 k hk))]) | (rw [h2, dset_y ⟨c22, fun k hk => by have h9 := h_32 k hk; rw [Nat.zero_add] at h9; exact h9⟩, Nat.one_mul])) hP hD hS (lv_sub hl [1, 0, 2, 3, 4, 5] rfl)
        · skip
          refine lv_aload_n hx hb dX2_doorsSeen_25 rfl (lv_at hl 2 rfl) ?_
          refine lv_iload hx hb dX2_doorsSeen_26 (lv_at hl 1 rfl) ?_
          refine lv_iconst (v := nI (0)) hx hb dX2_doorsSeen_28 (by decide) ?_
          refine lv_iload_n hx hb dX2_doorsSeen_29 rfl (lv_at hl 3 rfl) ?_
          refine lv_aload_n hx hb dX2_doorsSeen_30 rfl (lv_at hl 4 rfl) ?_
          refine lv_iload_n hx hb dX2_doorsSeen_31 rfl (lv_at hl 5 rfl) ?_
          refine w_cVi (rest := []) hx hb hml hown hts (k_agrees l D a cI cJ cZ A v c i 0 am nn  (by first | assumption | omega) (by first | assumption | omega) (by first | assumption | omega)) 5 gX2_doorsSeen_X2_agrees rfl hdX2_agrees ⟨Nat.le_of_ble_eq_true rfl, Nat.le_of_ble_eq_true rfl⟩ hK hN hP hD hS hA 11 2 rfl rfl rfl rfl hl.1 rfl (Nat.le_of_ble_eq_true rfl) dX2_doorsSeen_32 ⟨Nat.le_of_ble_eq_true rfl, Nat.le_of_ble_eq_true rfl⟩ (fun r u H locs hq hP hD hS => ?_)
          rcases hq with ⟨rfl, h_32⟩ | ⟨rfl, h_32⟩
          · skip
            have hP : va_P D vwCl (xW a cI cJ cZ v c) H := hP
            have hD : va_D A (xW a cI cJ cZ v c) := hD
            refine w_if_eq (x := 1) hx hb dX2_doorsSeen_35 (tgt := 47) (by decide) (by decide) (fun h => absurd h (by decide)) (fun _ => ?_)
            refine lv_iload hx hb dX2_doorsSeen_38 (lv_at hl 0 rfl) ?_
            refine lv_iconst (v := nI (1)) hx hb dX2_doorsSeen_40 (by decide) ?_
            refine lv_iload hx hb dX2_doorsSeen_41 (lv_at hl 1 rfl) ?_
            refine w_ishl (x := 1) (y := i) hx hb dX2_doorsSeen_43 (by omega) (by omega) ?_
            refine w_ior (x := q) (y := 1 * 2 ^ i) hx hb dX2_doorsSeen_44  ?_
            refine lv_istore (lv' := [(4, .int (nI (q ||| (1 * 2 ^ i)))), (5, .int (nI (i))), (0, .ref (a 11)), (1, .int (nI (am))), (2, .ref (a 25)), (3, .int (nI (nn)))]) hx hb dX2_doorsSeen_45 hl (by decide) rfl (fun ls hl => ?_)
            refine lv_iinc (v := nI (i + 1)) (lv' := [(5, .int (nI (i + 1))), (4, .int (nI (q ||| (1 * 2 ^ i)))), (0, .ref (a 11)), (1, .int (nI (am))), (2, .ref (a 25)), (3, .int (nI (nn)))]) hx hb dX2_doorsSeen_47 hl (k := 1) rfl (nI_add i 1) (by decide) rfl (fun ls hl => ?_)
            refine lv_goto (tgt := 6) hx hb dX2_doorsSeen_50 (by decide) ?_
            exact ih6 (i + 1) (q ||| (1 * 2 ^ i)) _ _ _ (by omega) (by omega) (by first | (rw [h2, dset_n (fun z => c22 z.1)]) | (rw [h2, dset_n (fun z => h_32 (fun k hk => by rw [Nat.zero_add]; exact z.2 k hk))]) | (rw [h2, dset_y ⟨c22, fun k hk => by have h9 := h_32 k hk; rw [Nat.zero_add] at h9; exact h9⟩, Nat.one_mul])) hP hD hS (lv_sub hl [1, 0, 2, 3, 4, 5] rfl)
          · skip
            have hP : va_P D vwCl (xW a cI cJ cZ v c) H := hP
            have hD : va_D A (xW a cI cJ cZ v c) := hD
            refine w_if_eq (x := 0) hx hb dX2_doorsSeen_35 (tgt := 47) (by decide) (by decide) (fun _ => ?_) (fun h => absurd h (by decide))
            refine lv_iinc (v := nI (i + 1)) (lv' := [(5, .int (nI (i + 1))), (4, .int (nI (q))), (0, .ref (a 11)), (1, .int (nI (am))), (2, .ref (a 25)), (3, .int (nI (nn)))]) hx hb dX2_doorsSeen_47 hl (k := 1) rfl (nI_add i 1) (by decide) rfl (fun ls hl => ?_)
            refine lv_goto (tgt := 6) hx hb dX2_doorsSeen_50 (by decide) ?_
            exact ih6 (i + 1) q _ _ _ (by omega) (by omega) (by first | (rw [h2, dset_n (fun z => c22 z.1)]) | (rw [h2, dset_n (fun z => h_32 (fun k hk => by rw [Nat.zero_add]; exact z.2 k hk))]) | (rw [h2, dset_y ⟨c22, fun k hk => by have h9 := h_32 k hk; rw [Nat.zero_add] at h9; exact h9⟩, Nat.one_mul])) hP hD hS (lv_sub hl [1, 0, 2, 3, 4, 5] rfl)
  exact L6 ((v 11 1 - 0) + 1) 0 0 _ _ _ (Nat.lt_succ_self _) (by omega) (by rfl) hP hD hS (lv_sub hl [1, 0, 2, 3, 4, 5] rfl)

set_option maxHeartbeats 4000000 in
set_option maxRecDepth 100000 in
theorem k_doorsWithPart (l : Launch) (D : va_G) (a : Nat → Nat) (cI cJ cZ : ClassId) (A : Nat → Prop) (v : Nat → Nat → Nat) (c : Nat → Nat → Int32) (nn : Nat) (hI : XI v) (hn : nn ≤ 80) :
    mI l yX2_doorsWithPart wsX2_doorsWithPart 4 91 [.ref (a 11), .ref (a 25), .int (nI nn)] D (xT cI cJ cZ) A (xW a cI cJ cZ v c) (fun _ : Unit => xW a cI cJ cZ v c)
    (fun (r : Int32) (u : Unit) => r = nI (dset (fun d => ∃ fr, fr + nn ≤ v 13 d ∧ ∀ k, k < nn → nI (v 14 (d * 6 + (fr + k)) &&& (2 ^ v 11 0 - 1)) = c 25 k) (v 11 1))) := by
  refine w_bI cX2_doorsWithPart 6 .int (by decide) rfl (Nat.le_of_ble_eq_true rfl) (Or.inl rfl) ?_
  intro p e s m args below meth c0 ls Q hx hb hml hts hown hK hN hA hret hP hD hS hl
  have hl : lv_has ls 6 [(0, .ref (a 11)), (1, .ref (a 25)), (2, .int (nI (nn)))] := hl
  have hinX2 : ∀ w ∈ wsX20, w ∈ wsX2_doorsWithPart := fun w h => List.mem_cons_of_mem _ (List.mem_append_right _ h)
  obtain ⟨hnb, hnd, hbt, hfg, hne, hnc, hdk, hnf, hkn, hln, hst, hdc, hsp⟩ := id hI
  refine lv_iconst (v := nI (0)) hx hb dX2_doorsWithPart_0 (by decide) ?_
  refine lv_istore_n (lv' := [(3, .int (nI (0))), (0, .ref (a 11)), (1, .ref (a 25)), (2, .int (nI (nn)))]) hx hb dX2_doorsWithPart_1 rfl hl (by decide) rfl (fun ls hl => ?_)
  refine lv_iconst (v := nI (0)) hx hb dX2_doorsWithPart_2 (by decide) ?_
  refine lv_istore (lv' := [(4, .int (nI (0))), (3, .int (nI (0))), (0, .ref (a 11)), (1, .ref (a 25)), (2, .int (nI (nn)))]) hx hb dX2_doorsWithPart_3 hl (by decide) rfl (fun ls hl => ?_)
  have L5 : ∀ (n : Nat) (i : Nat) (q : Nat) (H : Heap) (locs : List Loc) (ls : Array Slot), v 11 1 - i < n → (i ≤ v 11 1) → (q = dset (fun d => ∃ fr, fr + nn ≤ v 13 d ∧ ∀ k, k < nn → nI (v 14 (d * 6 + (fr + k)) &&& (2 ^ v 11 0 - 1)) = c 25 k) i) → va_P D vwCl (xW a cI cJ cZ v c) H → va_D A (xW a cI cJ cZ v c) → va_S A s.heap H locs → lv_has ls 6 [(3, .int (nI (q))), (4, .int (nI (i))), (0, .ref (a 11)), (1, .ref (a 25)), (2, .int (nI (nn)))] → W p l e { frames := 4, cells := 0, slots := 0, locals := 91 } s m args below meth c0 H locs 0 0 Q (F0 m 5 ls []) := by
    intro n
    induction n with
    | zero => intro i q H locs ls hm; exact absurd hm (Nat.not_lt_zero _)
    | succ n ih5 =>
      intro i q H locs ls hm5 h1 h2 hP hD hS hl
      refine lv_iload hx hb dX2_doorsWithPart_5 (lv_at hl 1 rfl) ?_
      refine lv_aload_n hx hb dX2_doorsWithPart_7 rfl (lv_at hl 2 rfl) ?_
      refine va_get (D := D) (ci := 2) (v := .int (nI (v 11 1))) (C := RX2) (T := TX2) (N := 5) hx hb hts hinX2 hown hK hP 11 rfl rfl 1 (by decide) (hts (.fieldLink RX2 25 "DancedLock$Floor" "doors" "I") (List.mem_of_getElem? (i := 1) rfl)) (fun _ h9 => h9) rfl dX2_doorsWithPart_8 ?_
      refine w_icmp_ge (x := i) (y := v 11 1) hx hb dX2_doorsWithPart_11 (tgt := 66) (by decide) (by omega) (by omega) (fun c11 => ?_) (fun c11 => ?_)
      · skip
        refine lv_iload_n hx hb dX2_doorsWithPart_66 rfl (lv_at hl 0 rfl) ?_
        exact hret (nI (q)) () _ _ 67 _ dX2_doorsWithPart_67 rfl (by have e : i = v 11 1 := (by omega); subst e; rw [h2]) hP hD hS
      · skip
        refine lv_iconst (v := nI (0)) hx hb dX2_doorsWithPart_14 (by decide) ?_
        refine lv_istore (lv' := [(5, .int (nI (0))), (3, .int (nI (q))), (4, .int (nI (i))), (0, .ref (a 11)), (1, .ref (a 25)), (2, .int (nI (nn)))]) hx hb dX2_doorsWithPart_15 hl (by decide) rfl (fun ls hl => ?_)
        have L17 : ∀ (n : Nat) (j : Nat) (y : Nat) (H : Heap) (locs : List Loc) (ls : Array Slot), 7 - j < n → (j ≤ 7) → ((y = dset (fun d => ∃ fr, fr + nn ≤ v 13 d ∧ ∀ k, k < nn → nI (v 14 (d * 6 + (fr + k)) &&& (2 ^ v 11 0 - 1)) = c 25 k) i ||| 2 ^ i ∧ ∃ fr, fr < j ∧ fr + nn ≤ v 13 i ∧ ∀ k, k < nn → nI (v 14 (i * 6 + (fr + k)) &&& (2 ^ v 11 0 - 1)) = c 25 k) ∨ (y = dset (fun d => ∃ fr, fr + nn ≤ v 13 d ∧ ∀ k, k < nn → nI (v 14 (d * 6 + (fr + k)) &&& (2 ^ v 11 0 - 1)) = c 25 k) i ∧ ¬ ∃ fr, fr < j ∧ fr + nn ≤ v 13 i ∧ ∀ k, k < nn → nI (v 14 (i * 6 + (fr + k)) &&& (2 ^ v 11 0 - 1)) = c 25 k)) → va_P D vwCl (xW a cI cJ cZ v c) H → va_D A (xW a cI cJ cZ v c) → va_S A s.heap H locs → lv_has ls 6 [(3, .int (nI (y))), (5, .int (nI (j))), (0, .ref (a 11)), (1, .ref (a 25)), (2, .int (nI (nn))), (4, .int (nI (i)))] → W p l e { frames := 4, cells := 0, slots := 0, locals := 91 } s m args below meth c0 H locs 0 0 Q (F0 m 17 ls []) := by
          intro n
          induction n with
          | zero => intro j y H locs ls hm; exact absurd hm (Nat.not_lt_zero _)
          | succ n ih17 =>
            intro j y H locs ls hm17 h3 h4 hP hD hS hl
            refine lv_iload hx hb dX2_doorsWithPart_17 (lv_at hl 1 rfl) ?_
            refine lv_aload_n hx hb dX2_doorsWithPart_19 rfl (lv_at hl 2 rfl) ?_
            refine lv_iload hx hb dX2_doorsWithPart_20 (lv_at hl 5 rfl) ?_
            refine w_cVi (rest := [.int (nI (j))]) hx hb hml hown hts (k_beatsOf l D a cI cJ cZ A v c i  (by first | assumption | omega) (by first | assumption | omega)) 1 gX2_doorsWithPart_X2_beatsOf rfl hdX2_beatsOf ⟨Nat.le_of_ble_eq_true rfl, Nat.le_of_ble_eq_true rfl⟩ hK hN hP hD hS hA 11 2 rfl rfl rfl rfl hl.1 rfl (Nat.le_of_ble_eq_true rfl) dX2_doorsWithPart_22 ⟨Nat.le_of_ble_eq_true rfl, Nat.le_of_ble_eq_true rfl⟩ (fun r u H locs hq hP hD hS => ?_)
            obtain rfl := hq
            have hP : va_P D vwCl (xW a cI cJ cZ v c) H := hP
            have hD : va_D A (xW a cI cJ cZ v c) := hD
            refine lv_iload_n hx hb dX2_doorsWithPart_25 rfl (lv_at hl 4 rfl) ?_
            refine lv_isub hx hb dX2_doorsWithPart_26 ?_
            have hbi := hbt i (by omega)
            have hT := pk_sub_toInt (a := v 13 i) (b := nn) (by omega) (by omega)
            have jT := n_tI (k := j) (by omega)
            refine r_icmp_gt (x := nI (j)) (y := (nI ((v 13) i)) - (nI (nn))) hx hb dX2_doorsWithPart_27 (tgt := 60) (by decide) (fun c27 => ?_) (fun c27 => ?_)
            · skip
              refine lv_iinc (v := nI (i + 1)) (lv' := [(4, .int (nI (i + 1))), (3, .int (nI (y))), (5, .int (nI (j))), (0, .ref (a 11)), (1, .ref (a 25)), (2, .int (nI (nn)))]) hx hb dX2_doorsWithPart_60 hl (k := 5) rfl (nI_add i 1) (by decide) rfl (fun ls hl => ?_)
              refine lv_goto (tgt := 5) hx hb dX2_doorsWithPart_63 (by decide) ?_
              exact ih5 (i + 1) y _ _ _ (by omega) (by omega) (by rcases h4 with ⟨h4, h5⟩ | ⟨h4, h5⟩; (rw [h4, dset_y (by obtain ⟨fr, g1, g2, g3⟩ := h5; exact ⟨fr, g2, g3⟩)]); (rw [h4, dset_n (fun z => by obtain ⟨fr, g2, g3⟩ := z; exact h5 ⟨fr, by omega, g2, g3⟩)])) hP hD hS (lv_sub hl [1, 0, 3, 4, 5] rfl)
            · skip
              have hpi := pow_le_128 (show i ≤ 7 by omega)
              refine lv_aload_n hx hb dX2_doorsWithPart_30 rfl (lv_at hl 2 rfl) ?_
              refine lv_iload hx hb dX2_doorsWithPart_31 (lv_at hl 5 rfl) ?_
              refine lv_iload hx hb dX2_doorsWithPart_33 (lv_at hl 1 rfl) ?_
              refine lv_aload_n hx hb dX2_doorsWithPart_35 rfl (lv_at hl 2 rfl) ?_
              refine w_cVi (rest := [.int (nI (j)), .int (nI (i)), .ref (a 11)]) hx hb hml hown hts (k_allBoards l D a cI cJ cZ A v c   (by first | assumption | omega)) 0 gX2_doorsWithPart_X2_allBoards rfl hdX2_allBoards ⟨Nat.le_of_ble_eq_true rfl, Nat.le_of_ble_eq_true rfl⟩ hK hN hP hD hS hA 11 2 rfl rfl rfl rfl hl.1 rfl (Nat.le_of_ble_eq_true rfl) dX2_doorsWithPart_36 ⟨Nat.le_of_ble_eq_true rfl, Nat.le_of_ble_eq_true rfl⟩ (fun r u H locs hq hP hD hS => ?_)
              obtain rfl := hq
              have hP : va_P D vwCl (xW a cI cJ cZ v c) H := hP
              have hD : va_D A (xW a cI cJ cZ v c) := hD
              refine lv_aload_n hx hb dX2_doorsWithPart_39 rfl (lv_at hl 3 rfl) ?_
              refine lv_iload_n hx hb dX2_doorsWithPart_40 rfl (lv_at hl 4 rfl) ?_
              refine w_cVi (rest := []) hx hb hml hown hts (k_agrees l D a cI cJ cZ A v c i j (2 ^ (v 11 0) - 1) nn  (by first | assumption | omega) (by first | assumption | omega) (by omega)) 5 gX2_doorsWithPart_X2_agrees rfl hdX2_agrees ⟨Nat.le_of_ble_eq_true rfl, Nat.le_of_ble_eq_true rfl⟩ hK hN hP hD hS hA 11 2 rfl rfl rfl rfl hl.1 rfl (Nat.le_of_ble_eq_true rfl) dX2_doorsWithPart_41 ⟨Nat.le_of_ble_eq_true rfl, Nat.le_of_ble_eq_true rfl⟩ (fun r u H locs hq hP hD hS => ?_)
              rcases hq with ⟨rfl, h_41⟩ | ⟨rfl, h_41⟩
              · skip
                have hP : va_P D vwCl (xW a cI cJ cZ v c) H := hP
                have hD : va_D A (xW a cI cJ cZ v c) := hD
                refine w_if_eq (x := 1) hx hb dX2_doorsWithPart_44 (tgt := 54) (by decide) (by decide) (fun h => absurd h (by decide)) (fun _ => ?_)
                refine lv_iload_n hx hb dX2_doorsWithPart_47 rfl (lv_at hl 0 rfl) ?_
                refine lv_iconst (v := nI (1)) hx hb dX2_doorsWithPart_48 (by decide) ?_
                refine lv_iload hx hb dX2_doorsWithPart_49 (lv_at hl 5 rfl) ?_
                refine w_ishl (x := 1) (y := i) hx hb dX2_doorsWithPart_51 (by omega) (by omega) ?_
                refine w_ior (x := y) (y := 1 * 2 ^ i) hx hb dX2_doorsWithPart_52  ?_
                refine lv_istore_n (lv' := [(3, .int (nI (y ||| (1 * 2 ^ i)))), (5, .int (nI (j))), (0, .ref (a 11)), (1, .ref (a 25)), (2, .int (nI (nn))), (4, .int (nI (i)))]) hx hb dX2_doorsWithPart_53 rfl hl (by decide) rfl (fun ls hl => ?_)
                refine lv_iinc (v := nI (j + 1)) (lv' := [(5, .int (nI (j + 1))), (3, .int (nI (y ||| (1 * 2 ^ i)))), (0, .ref (a 11)), (1, .ref (a 25)), (2, .int (nI (nn))), (4, .int (nI (i)))]) hx hb dX2_doorsWithPart_54 hl (k := 1) rfl (nI_add j 1) (by decide) rfl (fun ls hl => ?_)
                refine lv_goto (tgt := 17) hx hb dX2_doorsWithPart_57 (by decide) ?_
                exact ih17 (j + 1) (y ||| (1 * 2 ^ i)) _ _ _ (by omega) (by omega) (by first | exact part_y h4 (by omega) h_41 (Nat.one_mul _) | exact part_n h4 h_41) hP hD hS (lv_sub hl [1, 0, 2, 3, 4, 5] rfl)
              · skip
                have hP : va_P D vwCl (xW a cI cJ cZ v c) H := hP
                have hD : va_D A (xW a cI cJ cZ v c) := hD
                refine w_if_eq (x := 0) hx hb dX2_doorsWithPart_44 (tgt := 54) (by decide) (by decide) (fun _ => ?_) (fun h => absurd h (by decide))
                refine lv_iinc (v := nI (j + 1)) (lv' := [(5, .int (nI (j + 1))), (3, .int (nI (y))), (0, .ref (a 11)), (1, .ref (a 25)), (2, .int (nI (nn))), (4, .int (nI (i)))]) hx hb dX2_doorsWithPart_54 hl (k := 1) rfl (nI_add j 1) (by decide) rfl (fun ls hl => ?_)
                refine lv_goto (tgt := 17) hx hb dX2_doorsWithPart_57 (by decide) ?_
                exact ih17 (j + 1) y _ _ _ (by omega) (by omega) (by first | exact part_y h4 (by omega) h_41 (Nat.one_mul _) | exact part_n h4 h_41) hP hD hS (lv_sub hl [1, 0, 2, 3, 4, 5] rfl)
        exact L17 ((7 - 0) + 1) 0 q _ _ _ (Nat.lt_succ_self _) (by omega) (by exact Or.inr ⟨h2, fun z => by obtain ⟨fr, g1, -⟩ := z; omega⟩) hP hD hS (lv_sub hl [1, 0, 3, 4, 5, 2] rfl)
  exact L5 ((v 11 1 - 0) + 1) 0 0 _ _ _ (Nat.lt_succ_self _) (by omega) (by rfl) hP hD hS (lv_sub hl [1, 0, 2, 3, 4] rfl)

set_option maxHeartbeats 4000000 in
set_option maxRecDepth 100000 in
theorem k_unlike (l : Launch) (D : va_G) (a : Nat → Nat) (cI cJ cZ : ClassId) (A : Nat → Prop) (v : Nat → Nat → Nat) (c : Nat → Nat → Int32) (dd : Nat) (oo : Nat) (hI : XI v) (hdd : dd < v 11 1) (hoo : oo < v 11 1) :
    mI l yX2_beatsUnlike wsX2_beatsUnlike 3 65 [.ref (a 11), .int (nI dd), .int (nI oo)] D (xT cI cJ cZ) A (xW a cI cJ cZ v c) (fun _ : Unit => xW a cI cJ cZ v c)
    (fun (r : Int32) (u : Unit) => r = nI (ulN (v 13 dd) (v 13 oo) (fun k => v 14 (dd * 6 + k)) (fun k => v 14 (oo * 6 + k)) 6)) := by
  refine w_bI cX2_beatsUnlike 5 .int (by decide) rfl (Nat.le_of_ble_eq_true rfl) (Or.inl rfl) ?_
  intro p e s m args below meth c0 ls Q hx hb hml hts hown hK hN hA hret hP hD hS hl
  have hl : lv_has ls 5 [(0, .ref (a 11)), (1, .int (nI (dd))), (2, .int (nI (oo)))] := hl
  obtain ⟨hnb, hnd, hbt, hfg, hne, hnc, hdk, hnf, hkn, hln, hst, hdc, hsp⟩ := id hI
  have hbd := hbt dd hdd
  have hbo := hbt oo hoo
  have hp7 := pow_le_128 hnb
  refine lv_iconst (v := nI (0)) hx hb dX2_beatsUnlike_0 (by decide) ?_
  refine lv_istore_n (lv' := [(3, .int (nI (0))), (0, .ref (a 11)), (1, .int (nI (dd))), (2, .int (nI (oo)))]) hx hb dX2_beatsUnlike_1 rfl hl (by decide) rfl (fun ls hl => ?_)
  refine lv_iconst (v := nI (0)) hx hb dX2_beatsUnlike_2 (by decide) ?_
  refine lv_istore (lv' := [(4, .int (nI (0))), (3, .int (nI (0))), (0, .ref (a 11)), (1, .int (nI (dd))), (2, .int (nI (oo)))]) hx hb dX2_beatsUnlike_3 hl (by decide) rfl (fun ls hl => ?_)
  have L5 : ∀ (n : Nat) (i : Nat) (q : Nat) (H : Heap) (locs : List Loc) (ls : Array Slot), 6 - i < n → (i ≤ 6) → (q = ulN (v 13 dd) (v 13 oo) (fun k => v 14 (dd * 6 + k)) (fun k => v 14 (oo * 6 + k)) i) → va_P D vwCl (xW a cI cJ cZ v c) H → va_D A (xW a cI cJ cZ v c) → va_S A s.heap H locs → lv_has ls 5 [(3, .int (nI (q))), (4, .int (nI (i))), (0, .ref (a 11)), (1, .int (nI (dd))), (2, .int (nI (oo)))] → W p l e { frames := 3, cells := 0, slots := 0, locals := 65 } s m args below meth c0 H locs 0 0 Q (F0 m 5 ls []) := by
    intro n
    induction n with
    | zero => intro i q H locs ls hm; exact absurd hm (Nat.not_lt_zero _)
    | succ n ih5 =>
      intro i q H locs ls hm5 h1 h2 hP hD hS hl
      refine lv_iload hx hb dX2_beatsUnlike_5 (lv_at hl 1 rfl) ?_
      refine lv_bipush (v := nI (6)) hx hb dX2_beatsUnlike_7 (by decide) ?_
      refine w_icmp_ge (x := i) (y := 6) hx hb dX2_beatsUnlike_9 (tgt := 55) (by decide) (by omega) (by omega) (fun c9 => ?_) (fun c9 => ?_)
      · skip
        refine lv_iload_n hx hb dX2_beatsUnlike_55 rfl (lv_at hl 0 rfl) ?_
        exact hret (nI (q)) () _ _ 56 _ dX2_beatsUnlike_56 rfl (by have e : i = 6 := (by omega); subst e; rw [h2]) hP hD hS
      · skip
        refine lv_aload_n hx hb dX2_beatsUnlike_12 rfl (lv_at hl 2 rfl) ?_
        refine lv_iload_n hx hb dX2_beatsUnlike_13 rfl (lv_at hl 3 rfl) ?_
        refine lv_iload hx hb dX2_beatsUnlike_14 (lv_at hl 1 rfl) ?_
        refine w_cVi (rest := []) hx hb hml hown hts (k_hasBeat_N l D a cI cJ cZ A v c dd i  (by first | assumption | omega) (by first | assumption | omega) (by first | assumption | omega) (by first | assumption | omega)) 2 gX2_beatsUnlike_X2_hasBeat rfl hdX2_hasBeat ⟨Nat.le_of_ble_eq_true rfl, Nat.le_of_ble_eq_true rfl⟩ hK hN hP hD hS hA 11 2 rfl rfl rfl rfl hl.1 rfl (Nat.le_of_ble_eq_true rfl) dX2_beatsUnlike_16 ⟨Nat.le_of_ble_eq_true rfl, Nat.le_of_ble_eq_true rfl⟩ (fun r u H locs hq hP hD hS => ?_)
        rcases hq with ⟨rfl, h_16⟩ | ⟨rfl, h_16⟩
        · skip
          have hP : va_P D vwCl (xW a cI cJ cZ v c) H := hP
          have hD : va_D A (xW a cI cJ cZ v c) := hD
          refine lv_aload_n hx hb dX2_beatsUnlike_19 rfl (lv_at hl 2 rfl) ?_
          refine lv_iload_n hx hb dX2_beatsUnlike_20 rfl (lv_at hl 4 rfl) ?_
          refine lv_iload hx hb dX2_beatsUnlike_21 (lv_at hl 1 rfl) ?_
          refine w_cVi (rest := [.int (nI (1))]) hx hb hml hown hts (k_hasBeat_N l D a cI cJ cZ A v c oo i  (by first | assumption | omega) (by first | assumption | omega) (by first | assumption | omega) (by first | assumption | omega)) 2 gX2_beatsUnlike_X2_hasBeat rfl hdX2_hasBeat ⟨Nat.le_of_ble_eq_true rfl, Nat.le_of_ble_eq_true rfl⟩ hK hN hP hD hS hA 11 2 rfl rfl rfl rfl hl.1 rfl (Nat.le_of_ble_eq_true rfl) dX2_beatsUnlike_23 ⟨Nat.le_of_ble_eq_true rfl, Nat.le_of_ble_eq_true rfl⟩ (fun r u H locs hq hP hD hS => ?_)
          rcases hq with ⟨rfl, h_23⟩ | ⟨rfl, h_23⟩
          · skip
            have hP : va_P D vwCl (xW a cI cJ cZ v c) H := hP
            have hD : va_D A (xW a cI cJ cZ v c) := hD
            refine w_icmp_ne (x := 1) (y := 1) hx hb dX2_beatsUnlike_26 (tgt := 46) (by decide) (by decide) (by decide) (fun h => absurd h (by decide)) (fun _ => ?_)
            refine lv_aload_n hx hb dX2_beatsUnlike_29 rfl (lv_at hl 2 rfl) ?_
            refine lv_iload_n hx hb dX2_beatsUnlike_30 rfl (lv_at hl 3 rfl) ?_
            refine lv_iload hx hb dX2_beatsUnlike_31 (lv_at hl 1 rfl) ?_
            refine w_cVi (rest := []) hx hb hml hown hts (k_figureAt l D a cI cJ cZ A v c dd i  (by first | assumption | omega) (by first | assumption | omega) (by first | assumption | omega) (by first | assumption | omega)) 2 gX2_beatsUnlike_X2_figureAt rfl hdX2_figureAt ⟨Nat.le_of_ble_eq_true rfl, Nat.le_of_ble_eq_true rfl⟩ hK hN hP hD hS hA 11 2 rfl rfl rfl rfl hl.1 rfl (Nat.le_of_ble_eq_true rfl) dX2_beatsUnlike_33 ⟨Nat.le_of_ble_eq_true rfl, Nat.le_of_ble_eq_true rfl⟩ (fun r u H locs hq hP hD hS => ?_)
            obtain rfl := hq
            have hP : va_P D vwCl (xW a cI cJ cZ v c) H := hP
            have hD : va_D A (xW a cI cJ cZ v c) := hD
            rw [show (nI (if i < (v 13) dd then (v 14) (dd * 6 + i) else 0)) = (nI (v 14 (dd * 6 + i))) from by rw [if_pos h_16]]
            refine lv_aload_n hx hb dX2_beatsUnlike_36 rfl (lv_at hl 2 rfl) ?_
            refine lv_iload_n hx hb dX2_beatsUnlike_37 rfl (lv_at hl 4 rfl) ?_
            refine lv_iload hx hb dX2_beatsUnlike_38 (lv_at hl 1 rfl) ?_
            refine w_cVi (rest := [.int (nI (v 14 (dd * 6 + i)))]) hx hb hml hown hts (k_figureAt l D a cI cJ cZ A v c oo i  (by first | assumption | omega) (by first | assumption | omega) (by first | assumption | omega) (by first | assumption | omega)) 2 gX2_beatsUnlike_X2_figureAt rfl hdX2_figureAt ⟨Nat.le_of_ble_eq_true rfl, Nat.le_of_ble_eq_true rfl⟩ hK hN hP hD hS hA 11 2 rfl rfl rfl rfl hl.1 rfl (Nat.le_of_ble_eq_true rfl) dX2_beatsUnlike_40 ⟨Nat.le_of_ble_eq_true rfl, Nat.le_of_ble_eq_true rfl⟩ (fun r u H locs hq hP hD hS => ?_)
            obtain rfl := hq
            have hP : va_P D vwCl (xW a cI cJ cZ v c) H := hP
            have hD : va_D A (xW a cI cJ cZ v c) := hD
            have hfd := hfg dd i hdd h_16
            have hfo := hfg oo i hoo h_23
            rw [show (nI (if i < (v 13) oo then (v 14) (oo * 6 + i) else 0)) = (nI (v 14 (oo * 6 + i))) from by rw [if_pos h_23]]
            refine w_icmp_eq (x := v 14 (dd * 6 + i)) (y := v 14 (oo * 6 + i)) hx hb dX2_beatsUnlike_43 (tgt := 49) (by decide) (by omega) (by omega) (fun c43 => ?_) (fun c43 => ?_)
            · skip
              refine lv_iinc (v := nI (i + 1)) (lv' := [(4, .int (nI (i + 1))), (3, .int (nI (q))), (0, .ref (a 11)), (1, .int (nI (dd))), (2, .int (nI (oo)))]) hx hb dX2_beatsUnlike_49 hl (k := 1) rfl (nI_add i 1) (by decide) rfl (fun ls hl => ?_)
              refine lv_goto (tgt := 5) hx hb dX2_beatsUnlike_52 (by decide) ?_
              exact ih5 (i + 1) q _ _ _ (by omega) (by omega) (by first | (rw [h2, ulN_s, ulk_1 (fun z => by rcases z with z | z; exact absurd z.2.2 c43; omega)]) | (rw [h2, ulN_s, ulk_0 (by first | exact Or.inl ⟨h_16, h_23, c43⟩ | exact Or.inr ⟨h_16, h_23⟩)]; rfl) | (rw [h2, ulN_s, ulk_1 (by omega)])) hP hD hS (lv_sub hl [1, 0, 2, 3, 4] rfl)
            · skip
              refine lv_iinc (v := nI (q + 1)) (lv' := [(3, .int (nI (q + 1))), (4, .int (nI (i))), (0, .ref (a 11)), (1, .int (nI (dd))), (2, .int (nI (oo)))]) hx hb dX2_beatsUnlike_46 hl (k := 0) rfl (nI_add q 1) (by decide) rfl (fun ls hl => ?_)
              refine lv_iinc (v := nI (i + 1)) (lv' := [(4, .int (nI (i + 1))), (3, .int (nI (q + 1))), (0, .ref (a 11)), (1, .int (nI (dd))), (2, .int (nI (oo)))]) hx hb dX2_beatsUnlike_49 hl (k := 1) rfl (nI_add i 1) (by decide) rfl (fun ls hl => ?_)
              refine lv_goto (tgt := 5) hx hb dX2_beatsUnlike_52 (by decide) ?_
              exact ih5 (i + 1) (q + 1) _ _ _ (by omega) (by omega) (by first | (rw [h2, ulN_s, ulk_1 (fun z => by rcases z with z | z; exact absurd z.2.2 c43; omega)]) | (rw [h2, ulN_s, ulk_0 (by first | exact Or.inl ⟨h_16, h_23, c43⟩ | exact Or.inr ⟨h_16, h_23⟩)]; rfl) | (rw [h2, ulN_s, ulk_1 (by omega)])) hP hD hS (lv_sub hl [1, 0, 2, 3, 4] rfl)
          · skip
            have hP : va_P D vwCl (xW a cI cJ cZ v c) H := hP
            have hD : va_D A (xW a cI cJ cZ v c) := hD
            refine w_icmp_ne (x := 1) (y := 0) hx hb dX2_beatsUnlike_26 (tgt := 46) (by decide) (by decide) (by decide) (fun _ => ?_) (fun h => absurd h (by decide))
            refine lv_iinc (v := nI (q + 1)) (lv' := [(3, .int (nI (q + 1))), (4, .int (nI (i))), (0, .ref (a 11)), (1, .int (nI (dd))), (2, .int (nI (oo)))]) hx hb dX2_beatsUnlike_46 hl (k := 0) rfl (nI_add q 1) (by decide) rfl (fun ls hl => ?_)
            refine lv_iinc (v := nI (i + 1)) (lv' := [(4, .int (nI (i + 1))), (3, .int (nI (q + 1))), (0, .ref (a 11)), (1, .int (nI (dd))), (2, .int (nI (oo)))]) hx hb dX2_beatsUnlike_49 hl (k := 1) rfl (nI_add i 1) (by decide) rfl (fun ls hl => ?_)
            refine lv_goto (tgt := 5) hx hb dX2_beatsUnlike_52 (by decide) ?_
            exact ih5 (i + 1) (q + 1) _ _ _ (by omega) (by omega) (by first | (rw [h2, ulN_s, ulk_1 (fun z => by rcases z with z | z; exact absurd z.2.2 c43; omega)]) | (rw [h2, ulN_s, ulk_0 (by first | exact Or.inl ⟨h_16, h_23, c43⟩ | exact Or.inr ⟨h_16, h_23⟩)]; rfl) | (rw [h2, ulN_s, ulk_1 (by omega)])) hP hD hS (lv_sub hl [1, 0, 2, 3, 4] rfl)
        · skip
          have hP : va_P D vwCl (xW a cI cJ cZ v c) H := hP
          have hD : va_D A (xW a cI cJ cZ v c) := hD
          refine lv_aload_n hx hb dX2_beatsUnlike_19 rfl (lv_at hl 2 rfl) ?_
          refine lv_iload_n hx hb dX2_beatsUnlike_20 rfl (lv_at hl 4 rfl) ?_
          refine lv_iload hx hb dX2_beatsUnlike_21 (lv_at hl 1 rfl) ?_
          refine w_cVi (rest := [.int (nI (0))]) hx hb hml hown hts (k_hasBeat_N l D a cI cJ cZ A v c oo i  (by first | assumption | omega) (by first | assumption | omega) (by first | assumption | omega) (by first | assumption | omega)) 2 gX2_beatsUnlike_X2_hasBeat rfl hdX2_hasBeat ⟨Nat.le_of_ble_eq_true rfl, Nat.le_of_ble_eq_true rfl⟩ hK hN hP hD hS hA 11 2 rfl rfl rfl rfl hl.1 rfl (Nat.le_of_ble_eq_true rfl) dX2_beatsUnlike_23 ⟨Nat.le_of_ble_eq_true rfl, Nat.le_of_ble_eq_true rfl⟩ (fun r u H locs hq hP hD hS => ?_)
          rcases hq with ⟨rfl, h_23⟩ | ⟨rfl, h_23⟩
          · skip
            have hP : va_P D vwCl (xW a cI cJ cZ v c) H := hP
            have hD : va_D A (xW a cI cJ cZ v c) := hD
            refine w_icmp_ne (x := 0) (y := 1) hx hb dX2_beatsUnlike_26 (tgt := 46) (by decide) (by decide) (by decide) (fun _ => ?_) (fun h => absurd h (by decide))
            refine lv_iinc (v := nI (q + 1)) (lv' := [(3, .int (nI (q + 1))), (4, .int (nI (i))), (0, .ref (a 11)), (1, .int (nI (dd))), (2, .int (nI (oo)))]) hx hb dX2_beatsUnlike_46 hl (k := 0) rfl (nI_add q 1) (by decide) rfl (fun ls hl => ?_)
            refine lv_iinc (v := nI (i + 1)) (lv' := [(4, .int (nI (i + 1))), (3, .int (nI (q + 1))), (0, .ref (a 11)), (1, .int (nI (dd))), (2, .int (nI (oo)))]) hx hb dX2_beatsUnlike_49 hl (k := 1) rfl (nI_add i 1) (by decide) rfl (fun ls hl => ?_)
            refine lv_goto (tgt := 5) hx hb dX2_beatsUnlike_52 (by decide) ?_
            exact ih5 (i + 1) (q + 1) _ _ _ (by omega) (by omega) (by first | (rw [h2, ulN_s, ulk_1 (fun z => by rcases z with z | z; exact absurd z.2.2 c43; omega)]) | (rw [h2, ulN_s, ulk_0 (by first | exact Or.inl ⟨h_16, h_23, c43⟩ | exact Or.inr ⟨h_16, h_23⟩)]; rfl) | (rw [h2, ulN_s, ulk_1 (by omega)])) hP hD hS (lv_sub hl [1, 0, 2, 3, 4] rfl)
          · skip
            have hP : va_P D vwCl (xW a cI cJ cZ v c) H := hP
            have hD : va_D A (xW a cI cJ cZ v c) := hD
            refine w_icmp_ne (x := 0) (y := 0) hx hb dX2_beatsUnlike_26 (tgt := 46) (by decide) (by decide) (by decide) (fun h => absurd h (by decide)) (fun _ => ?_)
            refine lv_aload_n hx hb dX2_beatsUnlike_29 rfl (lv_at hl 2 rfl) ?_
            refine lv_iload_n hx hb dX2_beatsUnlike_30 rfl (lv_at hl 3 rfl) ?_
            refine lv_iload hx hb dX2_beatsUnlike_31 (lv_at hl 1 rfl) ?_
            refine w_cVi (rest := []) hx hb hml hown hts (k_figureAt l D a cI cJ cZ A v c dd i  (by first | assumption | omega) (by first | assumption | omega) (by first | assumption | omega) (by first | assumption | omega)) 2 gX2_beatsUnlike_X2_figureAt rfl hdX2_figureAt ⟨Nat.le_of_ble_eq_true rfl, Nat.le_of_ble_eq_true rfl⟩ hK hN hP hD hS hA 11 2 rfl rfl rfl rfl hl.1 rfl (Nat.le_of_ble_eq_true rfl) dX2_beatsUnlike_33 ⟨Nat.le_of_ble_eq_true rfl, Nat.le_of_ble_eq_true rfl⟩ (fun r u H locs hq hP hD hS => ?_)
            obtain rfl := hq
            have hP : va_P D vwCl (xW a cI cJ cZ v c) H := hP
            have hD : va_D A (xW a cI cJ cZ v c) := hD
            rw [show (nI (if i < (v 13) dd then (v 14) (dd * 6 + i) else 0)) = (nI (0)) from by rw [if_neg (by omega)]]
            refine lv_aload_n hx hb dX2_beatsUnlike_36 rfl (lv_at hl 2 rfl) ?_
            refine lv_iload_n hx hb dX2_beatsUnlike_37 rfl (lv_at hl 4 rfl) ?_
            refine lv_iload hx hb dX2_beatsUnlike_38 (lv_at hl 1 rfl) ?_
            refine w_cVi (rest := [.int (nI (0))]) hx hb hml hown hts (k_figureAt l D a cI cJ cZ A v c oo i  (by first | assumption | omega) (by first | assumption | omega) (by first | assumption | omega) (by first | assumption | omega)) 2 gX2_beatsUnlike_X2_figureAt rfl hdX2_figureAt ⟨Nat.le_of_ble_eq_true rfl, Nat.le_of_ble_eq_true rfl⟩ hK hN hP hD hS hA 11 2 rfl rfl rfl rfl hl.1 rfl (Nat.le_of_ble_eq_true rfl) dX2_beatsUnlike_40 ⟨Nat.le_of_ble_eq_true rfl, Nat.le_of_ble_eq_true rfl⟩ (fun r u H locs hq hP hD hS => ?_)
            obtain rfl := hq
            have hP : va_P D vwCl (xW a cI cJ cZ v c) H := hP
            have hD : va_D A (xW a cI cJ cZ v c) := hD
            rw [show (nI (if i < (v 13) oo then (v 14) (oo * 6 + i) else 0)) = (nI (0)) from by rw [if_neg (by omega)]]
            refine w_icmp_eq (x := 0) (y := 0) hx hb dX2_beatsUnlike_43 (tgt := 49) (by decide) (by decide) (by decide) (fun _ => ?_) (fun h => absurd h (by decide))
            refine lv_iinc (v := nI (i + 1)) (lv' := [(4, .int (nI (i + 1))), (3, .int (nI (q))), (0, .ref (a 11)), (1, .int (nI (dd))), (2, .int (nI (oo)))]) hx hb dX2_beatsUnlike_49 hl (k := 1) rfl (nI_add i 1) (by decide) rfl (fun ls hl => ?_)
            refine lv_goto (tgt := 5) hx hb dX2_beatsUnlike_52 (by decide) ?_
            exact ih5 (i + 1) q _ _ _ (by omega) (by omega) (by first | (rw [h2, ulN_s, ulk_1 (fun z => by rcases z with z | z; exact absurd z.2.2 c43; omega)]) | (rw [h2, ulN_s, ulk_0 (by first | exact Or.inl ⟨h_16, h_23, c43⟩ | exact Or.inr ⟨h_16, h_23⟩)]; rfl) | (rw [h2, ulN_s, ulk_1 (by omega)])) hP hD hS (lv_sub hl [1, 0, 2, 3, 4] rfl)
  exact L5 ((6 - 0) + 1) 0 0 _ _ _ (Nat.lt_succ_self _) (by omega) (by rfl) hP hD hS (lv_sub hl [1, 0, 2, 3, 4] rfl)

set_option maxHeartbeats 4000000 in
set_option maxRecDepth 100000 in
theorem k_nearest (l : Launch) (D : va_G) (a : Nat → Nat) (cI cJ cZ : ClassId) (A : Nat → Prop) (v : Nat → Nat → Nat) (c : Nat → Nat → Int32) (dd : Nat) (hI : XI v) (hdd : dd < v 11 1) :
    mI l yX2_leastUnlike wsX2_leastUnlike 4 89 [.ref (a 11), .int (nI dd)] D (xT cI cJ cZ) A (xW a cI cJ cZ v c) (fun _ : Unit => xW a cI cJ cZ v c)
    (fun (r : Int32) (u : Unit) => r = fwr (lu (fun o => ulN (v 13 dd) (v 13 o) (fun k => v 14 (dd * 6 + k)) (fun k => v 14 (o * 6 + k)) 6) dd (v 11 1))) := by
  refine w_bI cX2_leastUnlike 5 .int (by decide) rfl (Nat.le_of_ble_eq_true rfl) (Or.inl rfl) ?_
  intro p e s m args below meth c0 ls Q hx hb hml hts hown hK hN hA hret hP hD hS hl
  have hl : lv_has ls 5 [(0, .ref (a 11)), (1, .int (nI (dd)))] := hl
  have hinX2 : ∀ w ∈ wsX20, w ∈ wsX2_leastUnlike := fun w h => List.mem_cons_of_mem _ (List.mem_append_right _ h)
  obtain ⟨hnb, hnd, hbt, hfg, hne, hnc, hdk, hnf, hkn, hln, hst, hdc, hsp⟩ := id hI
  refine lv_bipush (v := -9) hx hb dX2_leastUnlike_0 (by decide) ?_
  refine lv_istore_n (lv' := [(2, .int (-9)), (0, .ref (a 11)), (1, .int (nI (dd)))]) hx hb dX2_leastUnlike_2 rfl hl (by decide) rfl (fun ls hl => ?_)
  refine lv_bipush (v := nI (7)) hx hb dX2_leastUnlike_3 (by decide) ?_
  refine lv_istore_n (lv' := [(3, .int (nI (7))), (2, .int (-9)), (0, .ref (a 11)), (1, .int (nI (dd)))]) hx hb dX2_leastUnlike_5 rfl hl (by decide) rfl (fun ls hl => ?_)
  refine lv_iconst (v := nI (0)) hx hb dX2_leastUnlike_6 (by decide) ?_
  refine lv_istore (lv' := [(4, .int (nI (0))), (3, .int (nI (7))), (2, .int (-9)), (0, .ref (a 11)), (1, .int (nI (dd)))]) hx hb dX2_leastUnlike_7 hl (by decide) rfl (fun ls hl => ?_)
  have L9 : ∀ (n : Nat) (i : Nat) (q : Nat) (x : Int32) (H : Heap) (locs : List Loc) (ls : Array Slot), v 11 1 - i < n → (i ≤ v 11 1) → (q = (lu (fun o => ulN (v 13 dd) (v 13 o) (fun k => v 14 (dd * 6 + k)) (fun k => v 14 (o * 6 + k)) 6) dd i).1) → (x = fwr (lu (fun o => ulN (v 13 dd) (v 13 o) (fun k => v 14 (dd * 6 + k)) (fun k => v 14 (o * 6 + k)) 6) dd i)) → (q ≤ 7) → va_P D vwCl (xW a cI cJ cZ v c) H → va_D A (xW a cI cJ cZ v c) → va_S A s.heap H locs → lv_has ls 5 [(2, .int x), (3, .int (nI (q))), (4, .int (nI (i))), (0, .ref (a 11)), (1, .int (nI (dd)))] → W p l e { frames := 4, cells := 0, slots := 0, locals := 89 } s m args below meth c0 H locs 0 0 Q (F0 m 9 ls []) := by
    intro n
    induction n with
    | zero => intro i q x H locs ls hm; exact absurd hm (Nat.not_lt_zero _)
    | succ n ih9 =>
      intro i q x H locs ls hm9 h1 h2 h3 h4 hP hD hS hl
      refine lv_iload hx hb dX2_leastUnlike_9 (lv_at hl 2 rfl) ?_
      refine lv_aload_n hx hb dX2_leastUnlike_11 rfl (lv_at hl 3 rfl) ?_
      refine va_get (D := D) (ci := 2) (v := .int (nI (v 11 1))) (C := RX2) (T := TX2) (N := 5) hx hb hts hinX2 hown hK hP 11 rfl rfl 1 (by decide) (hts (.fieldLink RX2 25 "DancedLock$Floor" "doors" "I") (List.mem_of_getElem? (i := 1) rfl)) (fun _ h9 => h9) rfl dX2_leastUnlike_12 ?_
      refine w_icmp_ge (x := i) (y := v 11 1) hx hb dX2_leastUnlike_15 (tgt := 52) (by decide) (by omega) (by omega) (fun c15 => ?_) (fun c15 => ?_)
      · skip
        refine lv_iload_n hx hb dX2_leastUnlike_52 rfl (lv_at hl 0 rfl) ?_
        exact hret (x) () _ _ 53 _ dX2_leastUnlike_53 rfl (by have e : i = v 11 1 := (by omega); subst e; exact h3) hP hD hS
      · skip
        refine lv_iload hx hb dX2_leastUnlike_18 (lv_at hl 2 rfl) ?_
        refine lv_iload_n hx hb dX2_leastUnlike_20 rfl (lv_at hl 4 rfl) ?_
        refine w_icmp_eq (x := i) (y := dd) hx hb dX2_leastUnlike_21 (tgt := 46) (by decide) (by omega) (by omega) (fun c21 => ?_) (fun c21 => ?_)
        · skip
          refine lv_iinc (v := nI (i + 1)) (lv' := [(4, .int (nI (i + 1))), (2, .int x), (3, .int (nI (q))), (0, .ref (a 11)), (1, .int (nI (dd)))]) hx hb dX2_leastUnlike_46 hl (k := 2) rfl (nI_add i 1) (by decide) rfl (fun ls hl => ?_)
          refine lv_goto (tgt := 9) hx hb dX2_leastUnlike_49 (by decide) ?_
          exact ih9 (i + 1) q x _ _ _ (by omega) (by omega) (by first | (rw [lu_n (fun z => z.1 c21)]; exact h2) | (rw [lu_n (fun z => by have z2 : ulN (v 13 dd) (v 13 i) (fun k => v 14 (dd * 6 + k)) (fun k => v 14 (i * 6 + k)) 6 < (lu (fun o => ulN (v 13 dd) (v 13 o) (fun k => v 14 (dd * 6 + k)) (fun k => v 14 (o * 6 + k)) 6) dd i).1 := z.2; omega)]; exact h2) | (rw [lu_y ⟨c21, by show ulN (v 13 dd) (v 13 i) (fun k => v 14 (dd * 6 + k)) (fun k => v 14 (i * 6 + k)) 6 < _; omega⟩])) (by first | (rw [lu_n (fun z => z.1 c21)]; exact h3) | (rw [lu_n (fun z => by have z2 : ulN (v 13 dd) (v 13 i) (fun k => v 14 (dd * 6 + k)) (fun k => v 14 (i * 6 + k)) 6 < (lu (fun o => ulN (v 13 dd) (v 13 o) (fun k => v 14 (dd * 6 + k)) (fun k => v 14 (o * 6 + k)) 6) dd i).1 := z.2; omega)]; exact h3) | (rw [lu_y ⟨c21, by show ulN (v 13 dd) (v 13 i) (fun k => v 14 (dd * 6 + k)) (fun k => v 14 (i * 6 + k)) 6 < _; omega⟩]; show _ = (if ulN (v 13 dd) (v 13 i) (fun k => v 14 (dd * 6 + k)) (fun k => v 14 (i * 6 + k)) 6 = 7 then _ else _); rw [if_neg (by omega)])) (by omega) hP hD hS (lv_sub hl [1, 2, 0, 3, 4] rfl)
        · skip
          refine lv_aload_n hx hb dX2_leastUnlike_24 rfl (lv_at hl 3 rfl) ?_
          refine lv_iload_n hx hb dX2_leastUnlike_25 rfl (lv_at hl 4 rfl) ?_
          refine lv_iload hx hb dX2_leastUnlike_26 (lv_at hl 2 rfl) ?_
          refine w_cVi (rest := []) hx hb hml hown hts (k_unlike l D a cI cJ cZ A v c dd i  (by first | assumption | omega) (by first | assumption | omega) (by first | assumption | omega)) 2 gX2_leastUnlike_X2_beatsUnlike rfl hdX2_beatsUnlike ⟨Nat.le_of_ble_eq_true rfl, Nat.le_of_ble_eq_true rfl⟩ hK hN hP hD hS hA 11 2 rfl rfl rfl rfl hl.1 rfl (Nat.le_of_ble_eq_true rfl) dX2_leastUnlike_28 ⟨Nat.le_of_ble_eq_true rfl, Nat.le_of_ble_eq_true rfl⟩ (fun r u H locs hq hP hD hS => ?_)
          obtain rfl := hq
          have hP : va_P D vwCl (xW a cI cJ cZ v c) H := hP
          have hD : va_D A (xW a cI cJ cZ v c) := hD
          have hu6 := ulN_le (bd := v 13 dd) (bo := v 13 i) (f := fun k => v 14 (dd * 6 + k)) (g := fun k => v 14 (i * 6 + k)) (n := 6)
          refine lv_iload_n hx hb dX2_leastUnlike_31 rfl (lv_at hl 1 rfl) ?_
          refine w_icmp_ge (x := ulN ((v 13) dd) ((v 13) i) (fun k => (v 14) (dd * 6 + k)) (fun k => (v 14) (i * 6 + k)) 6) (y := q) hx hb dX2_leastUnlike_32 (tgt := 46) (by decide) (by omega) (by omega) (fun c32 => ?_) (fun c32 => ?_)
          · skip
            refine lv_iinc (v := nI (i + 1)) (lv' := [(4, .int (nI (i + 1))), (2, .int x), (3, .int (nI (q))), (0, .ref (a 11)), (1, .int (nI (dd)))]) hx hb dX2_leastUnlike_46 hl (k := 2) rfl (nI_add i 1) (by decide) rfl (fun ls hl => ?_)
            refine lv_goto (tgt := 9) hx hb dX2_leastUnlike_49 (by decide) ?_
            exact ih9 (i + 1) q x _ _ _ (by omega) (by omega) (by first | (rw [lu_n (fun z => z.1 c21)]; exact h2) | (rw [lu_n (fun z => by have z2 : ulN (v 13 dd) (v 13 i) (fun k => v 14 (dd * 6 + k)) (fun k => v 14 (i * 6 + k)) 6 < (lu (fun o => ulN (v 13 dd) (v 13 o) (fun k => v 14 (dd * 6 + k)) (fun k => v 14 (o * 6 + k)) 6) dd i).1 := z.2; omega)]; exact h2) | (rw [lu_y ⟨c21, by show ulN (v 13 dd) (v 13 i) (fun k => v 14 (dd * 6 + k)) (fun k => v 14 (i * 6 + k)) 6 < _; omega⟩])) (by first | (rw [lu_n (fun z => z.1 c21)]; exact h3) | (rw [lu_n (fun z => by have z2 : ulN (v 13 dd) (v 13 i) (fun k => v 14 (dd * 6 + k)) (fun k => v 14 (i * 6 + k)) 6 < (lu (fun o => ulN (v 13 dd) (v 13 o) (fun k => v 14 (dd * 6 + k)) (fun k => v 14 (o * 6 + k)) 6) dd i).1 := z.2; omega)]; exact h3) | (rw [lu_y ⟨c21, by show ulN (v 13 dd) (v 13 i) (fun k => v 14 (dd * 6 + k)) (fun k => v 14 (i * 6 + k)) 6 < _; omega⟩]; show _ = (if ulN (v 13 dd) (v 13 i) (fun k => v 14 (dd * 6 + k)) (fun k => v 14 (i * 6 + k)) 6 = 7 then _ else _); rw [if_neg (by omega)])) (by omega) hP hD hS (lv_sub hl [1, 2, 0, 3, 4] rfl)
          · skip
            refine lv_aload_n hx hb dX2_leastUnlike_35 rfl (lv_at hl 3 rfl) ?_
            refine lv_iload_n hx hb dX2_leastUnlike_36 rfl (lv_at hl 4 rfl) ?_
            refine lv_iload hx hb dX2_leastUnlike_37 (lv_at hl 2 rfl) ?_
            refine w_cVi (rest := []) hx hb hml hown hts (k_unlike l D a cI cJ cZ A v c dd i  (by first | assumption | omega) (by first | assumption | omega) (by first | assumption | omega)) 2 gX2_leastUnlike_X2_beatsUnlike rfl hdX2_beatsUnlike ⟨Nat.le_of_ble_eq_true rfl, Nat.le_of_ble_eq_true rfl⟩ hK hN hP hD hS hA 11 2 rfl rfl rfl rfl hl.1 rfl (Nat.le_of_ble_eq_true rfl) dX2_leastUnlike_39 ⟨Nat.le_of_ble_eq_true rfl, Nat.le_of_ble_eq_true rfl⟩ (fun r u H locs hq hP hD hS => ?_)
            obtain rfl := hq
            have hP : va_P D vwCl (xW a cI cJ cZ v c) H := hP
            have hD : va_D A (xW a cI cJ cZ v c) := hD
            refine lv_istore_n (lv' := [(3, .int (nI (ulN ((v 13) dd) ((v 13) i) (fun k => (v 14) (dd * 6 + k)) (fun k => (v 14) (i * 6 + k)) 6))), (2, .int x), (4, .int (nI (i))), (0, .ref (a 11)), (1, .int (nI (dd)))]) hx hb dX2_leastUnlike_42 rfl hl (by decide) rfl (fun ls hl => ?_)
            refine lv_iload hx hb dX2_leastUnlike_43 (lv_at hl 2 rfl) ?_
            refine lv_istore_n (lv' := [(2, .int (nI (i))), (3, .int (nI (ulN ((v 13) dd) ((v 13) i) (fun k => (v 14) (dd * 6 + k)) (fun k => (v 14) (i * 6 + k)) 6))), (4, .int (nI (i))), (0, .ref (a 11)), (1, .int (nI (dd)))]) hx hb dX2_leastUnlike_45 rfl hl (by decide) rfl (fun ls hl => ?_)
            refine lv_iinc (v := nI (i + 1)) (lv' := [(4, .int (nI (i + 1))), (2, .int (nI (i))), (3, .int (nI (ulN ((v 13) dd) ((v 13) i) (fun k => (v 14) (dd * 6 + k)) (fun k => (v 14) (i * 6 + k)) 6))), (0, .ref (a 11)), (1, .int (nI (dd)))]) hx hb dX2_leastUnlike_46 hl (k := 2) rfl (nI_add i 1) (by decide) rfl (fun ls hl => ?_)
            refine lv_goto (tgt := 9) hx hb dX2_leastUnlike_49 (by decide) ?_
            exact ih9 (i + 1) (ulN ((v 13) dd) ((v 13) i) (fun k => (v 14) (dd * 6 + k)) (fun k => (v 14) (i * 6 + k)) 6) (nI (i)) _ _ _ (by omega) (by omega) (by first | (rw [lu_n (fun z => z.1 c21)]; exact h2) | (rw [lu_n (fun z => by have z2 : ulN (v 13 dd) (v 13 i) (fun k => v 14 (dd * 6 + k)) (fun k => v 14 (i * 6 + k)) 6 < (lu (fun o => ulN (v 13 dd) (v 13 o) (fun k => v 14 (dd * 6 + k)) (fun k => v 14 (o * 6 + k)) 6) dd i).1 := z.2; omega)]; exact h2) | (rw [lu_y ⟨c21, by show ulN (v 13 dd) (v 13 i) (fun k => v 14 (dd * 6 + k)) (fun k => v 14 (i * 6 + k)) 6 < _; omega⟩])) (by first | (rw [lu_n (fun z => z.1 c21)]; exact h3) | (rw [lu_n (fun z => by have z2 : ulN (v 13 dd) (v 13 i) (fun k => v 14 (dd * 6 + k)) (fun k => v 14 (i * 6 + k)) 6 < (lu (fun o => ulN (v 13 dd) (v 13 o) (fun k => v 14 (dd * 6 + k)) (fun k => v 14 (o * 6 + k)) 6) dd i).1 := z.2; omega)]; exact h3) | (rw [lu_y ⟨c21, by show ulN (v 13 dd) (v 13 i) (fun k => v 14 (dd * 6 + k)) (fun k => v 14 (i * 6 + k)) 6 < _; omega⟩]; show _ = (if ulN (v 13 dd) (v 13 i) (fun k => v 14 (dd * 6 + k)) (fun k => v 14 (i * 6 + k)) 6 = 7 then _ else _); rw [if_neg (by omega)])) (by omega) hP hD hS (lv_sub hl [1, 2, 0, 3, 4] rfl)
  exact L9 ((v 11 1 - 0) + 1) 0 7 (-9) _ _ _ (Nat.lt_succ_self _) (by omega) (by rfl) (by rfl) (by omega) hP hD hS (lv_sub hl [2, 1, 0, 3, 4] rfl)

set_option maxHeartbeats 4000000 in
set_option maxRecDepth 100000 in
theorem k_begins (l : Launch) (D : va_G) (a : Nat → Nat) (cI cJ cZ : ClassId) (A : Nat → Prop) (v : Nat → Nat → Nat) (c : Nat → Nat → Int32) (dd : Nat) (oo : Nat) (hI : XI v) (hdd : dd < v 11 1) (hoo : oo < v 11 1) :
    mI l yX2_begins wsX2_begins 4 89 [.ref (a 11), .int (nI dd), .int (nI oo)] D (xT cI cJ cZ) A (xW a cI cJ cZ v c) (fun _ : Unit => xW a cI cJ cZ v c)
    (fun (r : Int32) (u : Unit) => (r = nI (1) ∧ (v 13 dd ≤ v 13 oo ∧ ∀ k, k < v 13 dd → v 14 (dd * 6 + k) = v 14 (oo * 6 + k))) ∨ (r = nI (0) ∧ (¬ (v 13 dd ≤ v 13 oo ∧ ∀ k, k < v 13 dd → v 14 (dd * 6 + k) = v 14 (oo * 6 + k))))) := by
  refine w_bI cX2_begins 3 .boolean (by decide) rfl (Nat.le_of_ble_eq_true rfl) (Or.inr rfl) ?_
  intro p e s m args below meth c0 ls Q hx hb hml hts hown hK hN hA hret hP hD hS hl
  have hl : lv_has ls 3 [(0, .ref (a 11)), (1, .int (nI (dd))), (2, .int (nI (oo)))] := hl
  obtain ⟨hnb, hnd, hbt, hfg, hne, hnc, hdk, hnf, hkn, hln, hst, hdc, hsp⟩ := id hI
  have hbd := hbt dd hdd
  have hbo := hbt oo hoo
  have hu6 := ulN_le (bd := v 13 dd) (bo := v 13 oo) (f := fun k => v 14 (dd * 6 + k)) (g := fun k => v 14 (oo * 6 + k)) (n := 6)
  refine lv_aload_n hx hb dX2_begins_0 rfl (lv_at hl 0 rfl) ?_
  refine lv_iload_n hx hb dX2_begins_1 rfl (lv_at hl 1 rfl) ?_
  refine w_cVi (rest := []) hx hb hml hown hts (k_beatsOf l D a cI cJ cZ A v c dd  (by first | assumption | omega) (by first | assumption | omega)) 1 gX2_begins_X2_beatsOf rfl hdX2_beatsOf ⟨Nat.le_of_ble_eq_true rfl, Nat.le_of_ble_eq_true rfl⟩ hK hN hP hD hS hA 11 2 rfl rfl rfl rfl hl.1 rfl (Nat.le_of_ble_eq_true rfl) dX2_begins_2 ⟨Nat.le_of_ble_eq_true rfl, Nat.le_of_ble_eq_true rfl⟩ (fun r u H locs hq hP hD hS => ?_)
  obtain rfl := hq
  have hP : va_P D vwCl (xW a cI cJ cZ v c) H := hP
  have hD : va_D A (xW a cI cJ cZ v c) := hD
  refine lv_aload_n hx hb dX2_begins_5 rfl (lv_at hl 0 rfl) ?_
  refine lv_iload_n hx hb dX2_begins_6 rfl (lv_at hl 2 rfl) ?_
  refine w_cVi (rest := [.int (nI ((v 13) dd))]) hx hb hml hown hts (k_beatsOf l D a cI cJ cZ A v c oo  (by first | assumption | omega) (by first | assumption | omega)) 1 gX2_begins_X2_beatsOf rfl hdX2_beatsOf ⟨Nat.le_of_ble_eq_true rfl, Nat.le_of_ble_eq_true rfl⟩ hK hN hP hD hS hA 11 2 rfl rfl rfl rfl hl.1 rfl (Nat.le_of_ble_eq_true rfl) dX2_begins_7 ⟨Nat.le_of_ble_eq_true rfl, Nat.le_of_ble_eq_true rfl⟩ (fun r u H locs hq hP hD hS => ?_)
  obtain rfl := hq
  have hP : va_P D vwCl (xW a cI cJ cZ v c) H := hP
  have hD : va_D A (xW a cI cJ cZ v c) := hD
  refine w_icmp_gt (x := (v 13) dd) (y := (v 13) oo) hx hb dX2_begins_10 (tgt := 37) (by decide) (by omega) (by omega) (fun c10 => ?_) (fun c10 => ?_)
  · skip
    refine lv_iconst (v := nI (0)) hx hb dX2_begins_37 (by decide) ?_
    exact hret (nI (0)) () _ _ 38 _ dX2_begins_38 rfl (by first | exact Or.inr ⟨rfl, fun z => by have z1 := z.1; omega⟩ | exact Or.inr ⟨rfl, fun z => c30 ((ulN_beg (f := fun k => v 14 (dd * 6 + k)) (g := fun k => v 14 (oo * 6 + k)) (by omega) hbo.2).mpr z.2)⟩) hP hD hS
  · skip
    refine lv_aload_n hx hb dX2_begins_13 rfl (lv_at hl 0 rfl) ?_
    refine lv_iload_n hx hb dX2_begins_14 rfl (lv_at hl 1 rfl) ?_
    refine lv_iload_n hx hb dX2_begins_15 rfl (lv_at hl 2 rfl) ?_
    refine w_cVi (rest := []) hx hb hml hown hts (k_unlike l D a cI cJ cZ A v c dd oo  (by first | assumption | omega) (by first | assumption | omega) (by first | assumption | omega)) 2 gX2_begins_X2_beatsUnlike rfl hdX2_beatsUnlike ⟨Nat.le_of_ble_eq_true rfl, Nat.le_of_ble_eq_true rfl⟩ hK hN hP hD hS hA 11 2 rfl rfl rfl rfl hl.1 rfl (Nat.le_of_ble_eq_true rfl) dX2_begins_16 ⟨Nat.le_of_ble_eq_true rfl, Nat.le_of_ble_eq_true rfl⟩ (fun r u H locs hq hP hD hS => ?_)
    obtain rfl := hq
    have hP : va_P D vwCl (xW a cI cJ cZ v c) H := hP
    have hD : va_D A (xW a cI cJ cZ v c) := hD
    refine lv_aload_n hx hb dX2_begins_19 rfl (lv_at hl 0 rfl) ?_
    refine lv_iload_n hx hb dX2_begins_20 rfl (lv_at hl 2 rfl) ?_
    refine w_cVi (rest := [.int (nI (ulN ((v 13) dd) ((v 13) oo) (fun k => (v 14) (dd * 6 + k)) (fun k => (v 14) (oo * 6 + k)) 6))]) hx hb hml hown hts (k_beatsOf l D a cI cJ cZ A v c oo  (by first | assumption | omega) (by first | assumption | omega)) 1 gX2_begins_X2_beatsOf rfl hdX2_beatsOf ⟨Nat.le_of_ble_eq_true rfl, Nat.le_of_ble_eq_true rfl⟩ hK hN hP hD hS hA 11 2 rfl rfl rfl rfl hl.1 rfl (Nat.le_of_ble_eq_true rfl) dX2_begins_21 ⟨Nat.le_of_ble_eq_true rfl, Nat.le_of_ble_eq_true rfl⟩ (fun r u H locs hq hP hD hS => ?_)
    obtain rfl := hq
    have hP : va_P D vwCl (xW a cI cJ cZ v c) H := hP
    have hD : va_D A (xW a cI cJ cZ v c) := hD
    refine lv_aload_n hx hb dX2_begins_24 rfl (lv_at hl 0 rfl) ?_
    refine lv_iload_n hx hb dX2_begins_25 rfl (lv_at hl 1 rfl) ?_
    refine w_cVi (rest := [.int (nI ((v 13) oo)), .int (nI (ulN ((v 13) dd) ((v 13) oo) (fun k => (v 14) (dd * 6 + k)) (fun k => (v 14) (oo * 6 + k)) 6))]) hx hb hml hown hts (k_beatsOf l D a cI cJ cZ A v c dd  (by first | assumption | omega) (by first | assumption | omega)) 1 gX2_begins_X2_beatsOf rfl hdX2_beatsOf ⟨Nat.le_of_ble_eq_true rfl, Nat.le_of_ble_eq_true rfl⟩ hK hN hP hD hS hA 11 2 rfl rfl rfl rfl hl.1 rfl (Nat.le_of_ble_eq_true rfl) dX2_begins_26 ⟨Nat.le_of_ble_eq_true rfl, Nat.le_of_ble_eq_true rfl⟩ (fun r u H locs hq hP hD hS => ?_)
    obtain rfl := hq
    have hP : va_P D vwCl (xW a cI cJ cZ v c) H := hP
    have hD : va_D A (xW a cI cJ cZ v c) := hD
    refine w_isub (x := (v 13) oo) (y := (v 13) dd) hx hb dX2_begins_29 (by omega) ?_
    refine w_icmp_ne (x := ulN ((v 13) dd) ((v 13) oo) (fun k => (v 14) (dd * 6 + k)) (fun k => (v 14) (oo * 6 + k)) 6) (y := ((v 13) oo) - ((v 13) dd)) hx hb dX2_begins_30 (tgt := 37) (by decide) (by omega) (by omega) (fun c30 => ?_) (fun c30 => ?_)
    · skip
      refine lv_iconst (v := nI (0)) hx hb dX2_begins_37 (by decide) ?_
      exact hret (nI (0)) () _ _ 38 _ dX2_begins_38 rfl (by first | exact Or.inr ⟨rfl, fun z => by have z1 := z.1; omega⟩ | exact Or.inr ⟨rfl, fun z => c30 ((ulN_beg (f := fun k => v 14 (dd * 6 + k)) (g := fun k => v 14 (oo * 6 + k)) (by omega) hbo.2).mpr z.2)⟩) hP hD hS
    · skip
      refine lv_iconst (v := nI (1)) hx hb dX2_begins_33 (by decide) ?_
      refine lv_goto (tgt := 38) hx hb dX2_begins_34 (by decide) ?_
      exact hret (nI (1)) () _ _ 38 _ dX2_begins_38 rfl (by exact Or.inl ⟨rfl, by omega, (ulN_beg (f := fun k => v 14 (dd * 6 + k)) (g := fun k => v 14 (oo * 6 + k)) (by omega) hbo.2).mp c30⟩) hP hD hS

set_option maxHeartbeats 4000000 in
set_option maxRecDepth 100000 in
theorem k_someBegins (l : Launch) (D : va_G) (a : Nat → Nat) (cI cJ cZ : ClassId) (A : Nat → Prop) (v : Nat → Nat → Nat) (c : Nat → Nat → Int32) (hI : XI v) :
    mI l yX2_someDoorBeginsAnother wsX2_someDoorBeginsAnother 5 111 [.ref (a 11)] D (xT cI cJ cZ) A (xW a cI cJ cZ v c) (fun _ : Unit => xW a cI cJ cZ v c)
    (fun (r : Int32) (u : Unit) => (r = nI (1) ∧ (∃ a b, a < v 11 1 ∧ b < v 11 1 ∧ a ≠ b ∧ v 13 a ≤ v 13 b ∧ ∀ k, k < v 13 a → v 14 (a * 6 + k) = v 14 (b * 6 + k))) ∨ (r = nI (0) ∧ (¬ ∃ a b, a < v 11 1 ∧ b < v 11 1 ∧ a ≠ b ∧ v 13 a ≤ v 13 b ∧ ∀ k, k < v 13 a → v 14 (a * 6 + k) = v 14 (b * 6 + k)))) := by
  refine w_bI cX2_someDoorBeginsAnother 3 .boolean (by decide) rfl (Nat.le_of_ble_eq_true rfl) (Or.inr rfl) ?_
  intro p e s m args below meth c0 ls Q hx hb hml hts hown hK hN hA hret hP hD hS hl
  have hl : lv_has ls 3 [(0, .ref (a 11))] := hl
  have hinX2 : ∀ w ∈ wsX20, w ∈ wsX2_someDoorBeginsAnother := fun w h => List.mem_cons_of_mem _ (List.mem_append_right _ h)
  obtain ⟨hnb, hnd, hbt, hfg, hne, hnc, hdk, hnf, hkn, hln, hst, hdc, hsp⟩ := id hI
  refine lv_iconst (v := nI (0)) hx hb dX2_someDoorBeginsAnother_0 (by decide) ?_
  refine lv_istore_n (lv' := [(1, .int (nI (0))), (0, .ref (a 11))]) hx hb dX2_someDoorBeginsAnother_1 rfl hl (by decide) rfl (fun ls hl => ?_)
  have L2 : ∀ (n : Nat) (i : Nat) (H : Heap) (locs : List Loc) (ls : Array Slot), v 11 1 - i < n → (i ≤ v 11 1) → (∀ a b, a < i → b < v 11 1 → a ≠ b → ¬ (v 13 a ≤ v 13 b ∧ ∀ k, k < v 13 a → v 14 (a * 6 + k) = v 14 (b * 6 + k))) → va_P D vwCl (xW a cI cJ cZ v c) H → va_D A (xW a cI cJ cZ v c) → va_S A s.heap H locs → lv_has ls 3 [(1, .int (nI (i))), (0, .ref (a 11))] → W p l e { frames := 5, cells := 0, slots := 0, locals := 111 } s m args below meth c0 H locs 0 0 Q (F0 m 2 ls []) := by
    intro n
    induction n with
    | zero => intro i H locs ls hm; exact absurd hm (Nat.not_lt_zero _)
    | succ n ih2 =>
      intro i H locs ls hm2 h1 h2 hP hD hS hl
      refine lv_iload_n hx hb dX2_someDoorBeginsAnother_2 rfl (lv_at hl 0 rfl) ?_
      refine lv_aload_n hx hb dX2_someDoorBeginsAnother_3 rfl (lv_at hl 1 rfl) ?_
      refine va_get (D := D) (ci := 2) (v := .int (nI (v 11 1))) (C := RX2) (T := TX2) (N := 5) hx hb hts hinX2 hown hK hP 11 rfl rfl 1 (by decide) (hts (.fieldLink RX2 25 "DancedLock$Floor" "doors" "I") (List.mem_of_getElem? (i := 1) rfl)) (fun _ h9 => h9) rfl dX2_someDoorBeginsAnother_4 ?_
      refine w_icmp_ge (x := i) (y := v 11 1) hx hb dX2_someDoorBeginsAnother_7 (tgt := 48) (by decide) (by omega) (by omega) (fun c7 => ?_) (fun c7 => ?_)
      · skip
        refine lv_iconst (v := nI (0)) hx hb dX2_someDoorBeginsAnother_48 (by decide) ?_
        exact hret (nI (0)) () _ _ 49 _ dX2_someDoorBeginsAnother_49 rfl (by exact Or.inr ⟨rfl, fun z => by obtain ⟨x, y, g1, g2, g3, g4⟩ := z; exact h2 x y (by omega) g2 g3 g4⟩) hP hD hS
      · skip
        refine lv_iconst (v := nI (0)) hx hb dX2_someDoorBeginsAnother_10 (by decide) ?_
        refine lv_istore_n (lv' := [(2, .int (nI (0))), (1, .int (nI (i))), (0, .ref (a 11))]) hx hb dX2_someDoorBeginsAnother_11 rfl hl (by decide) rfl (fun ls hl => ?_)
        have L12 : ∀ (n : Nat) (j : Nat) (H : Heap) (locs : List Loc) (ls : Array Slot), v 11 1 - j < n → (j ≤ v 11 1) → (∀ b, b < j → i ≠ b → ¬ (v 13 i ≤ v 13 b ∧ ∀ k, k < v 13 i → v 14 (i * 6 + k) = v 14 (b * 6 + k))) → va_P D vwCl (xW a cI cJ cZ v c) H → va_D A (xW a cI cJ cZ v c) → va_S A s.heap H locs → lv_has ls 3 [(2, .int (nI (j))), (0, .ref (a 11)), (1, .int (nI (i)))] → W p l e { frames := 5, cells := 0, slots := 0, locals := 111 } s m args below meth c0 H locs 0 0 Q (F0 m 12 ls []) := by
          intro n
          induction n with
          | zero => intro j H locs ls hm; exact absurd hm (Nat.not_lt_zero _)
          | succ n ih12 =>
            intro j H locs ls hm12 h3 h4 hP hD hS hl
            refine lv_iload_n hx hb dX2_someDoorBeginsAnother_12 rfl (lv_at hl 0 rfl) ?_
            refine lv_aload_n hx hb dX2_someDoorBeginsAnother_13 rfl (lv_at hl 1 rfl) ?_
            refine va_get (D := D) (ci := 2) (v := .int (nI (v 11 1))) (C := RX2) (T := TX2) (N := 5) hx hb hts hinX2 hown hK hP 11 rfl rfl 1 (by decide) (hts (.fieldLink RX2 25 "DancedLock$Floor" "doors" "I") (List.mem_of_getElem? (i := 1) rfl)) (fun _ h9 => h9) rfl dX2_someDoorBeginsAnother_14 ?_
            refine w_icmp_ge (x := j) (y := v 11 1) hx hb dX2_someDoorBeginsAnother_17 (tgt := 42) (by decide) (by omega) (by omega) (fun c17 => ?_) (fun c17 => ?_)
            · skip
              refine lv_iinc (v := nI (i + 1)) (lv' := [(1, .int (nI (i + 1))), (2, .int (nI (j))), (0, .ref (a 11))]) hx hb dX2_someDoorBeginsAnother_42 hl (k := 2) rfl (nI_add i 1) (by decide) rfl (fun ls hl => ?_)
              refine lv_goto (tgt := 2) hx hb dX2_someDoorBeginsAnother_45 (by decide) ?_
              exact ih2 (i + 1) _ _ _ (by omega) (by omega) (by exact two_s h2 (fun b hb => h4 b (by omega))) hP hD hS (lv_sub hl [0, 2] rfl)
            · skip
              refine lv_iload_n hx hb dX2_someDoorBeginsAnother_20 rfl (lv_at hl 0 rfl) ?_
              refine lv_iload_n hx hb dX2_someDoorBeginsAnother_21 rfl (lv_at hl 2 rfl) ?_
              refine w_icmp_eq (x := j) (y := i) hx hb dX2_someDoorBeginsAnother_22 (tgt := 36) (by decide) (by omega) (by omega) (fun c22 => ?_) (fun c22 => ?_)
              · skip
                refine lv_iinc (v := nI (j + 1)) (lv' := [(2, .int (nI (j + 1))), (0, .ref (a 11)), (1, .int (nI (i)))]) hx hb dX2_someDoorBeginsAnother_36 hl (k := 0) rfl (nI_add j 1) (by decide) rfl (fun ls hl => ?_)
                refine lv_goto (tgt := 12) hx hb dX2_someDoorBeginsAnother_39 (by decide) ?_
                exact ih12 (j + 1) _ _ _ (by omega) (by omega) (by first | exact lt_s h4 (fun z => absurd c22.symm z) | exact lt_s h4 (fun _ => h_28)) hP hD hS (lv_sub hl [0, 1, 2] rfl)
              · skip
                refine lv_aload_n hx hb dX2_someDoorBeginsAnother_25 rfl (lv_at hl 1 rfl) ?_
                refine lv_iload_n hx hb dX2_someDoorBeginsAnother_26 rfl (lv_at hl 2 rfl) ?_
                refine lv_iload_n hx hb dX2_someDoorBeginsAnother_27 rfl (lv_at hl 0 rfl) ?_
                refine w_cVi (rest := []) hx hb hml hown hts (k_begins l D a cI cJ cZ A v c i j  (by first | assumption | omega) (by first | assumption | omega) (by first | assumption | omega)) 2 gX2_someDoorBeginsAnother_X2_begins rfl hdX2_begins ⟨Nat.le_of_ble_eq_true rfl, Nat.le_of_ble_eq_true rfl⟩ hK hN hP hD hS hA 11 2 rfl rfl rfl rfl hl.1 rfl (Nat.le_of_ble_eq_true rfl) dX2_someDoorBeginsAnother_28 ⟨Nat.le_of_ble_eq_true rfl, Nat.le_of_ble_eq_true rfl⟩ (fun r u H locs hq hP hD hS => ?_)
                rcases hq with ⟨rfl, h_28⟩ | ⟨rfl, h_28⟩
                · skip
                  have hP : va_P D vwCl (xW a cI cJ cZ v c) H := hP
                  have hD : va_D A (xW a cI cJ cZ v c) := hD
                  refine w_if_eq (x := 1) hx hb dX2_someDoorBeginsAnother_31 (tgt := 36) (by decide) (by decide) (fun h => absurd h (by decide)) (fun _ => ?_)
                  refine lv_iconst (v := nI (1)) hx hb dX2_someDoorBeginsAnother_34 (by decide) ?_
                  exact hret (nI (1)) () _ _ 35 _ dX2_someDoorBeginsAnother_35 rfl (by exact Or.inl ⟨rfl, i, j, by omega, by omega, fun z => c22 z.symm, h_28⟩) hP hD hS
                · skip
                  have hP : va_P D vwCl (xW a cI cJ cZ v c) H := hP
                  have hD : va_D A (xW a cI cJ cZ v c) := hD
                  refine w_if_eq (x := 0) hx hb dX2_someDoorBeginsAnother_31 (tgt := 36) (by decide) (by decide) (fun _ => ?_) (fun h => absurd h (by decide))
                  refine lv_iinc (v := nI (j + 1)) (lv' := [(2, .int (nI (j + 1))), (0, .ref (a 11)), (1, .int (nI (i)))]) hx hb dX2_someDoorBeginsAnother_36 hl (k := 0) rfl (nI_add j 1) (by decide) rfl (fun ls hl => ?_)
                  refine lv_goto (tgt := 12) hx hb dX2_someDoorBeginsAnother_39 (by decide) ?_
                  exact ih12 (j + 1) _ _ _ (by omega) (by omega) (by first | exact lt_s h4 (fun z => absurd c22.symm z) | exact lt_s h4 (fun _ => h_28)) hP hD hS (lv_sub hl [0, 1, 2] rfl)
        exact L12 ((v 11 1 - 0) + 1) 0 _ _ _ (Nat.lt_succ_self _) (by omega) (by exact fun b hh => absurd hh (Nat.not_lt_zero _)) hP hD hS (lv_sub hl [0, 2, 1] rfl)
  exact L2 ((v 11 1 - 0) + 1) 0 _ _ _ (Nat.lt_succ_self _) (by omega) (by exact fun a b hh => absurd hh (Nat.not_lt_zero _)) hP hD hS (lv_sub hl [0, 1] rfl)

set_option maxHeartbeats 4000000 in
set_option maxRecDepth 100000 in
theorem k_rowWithin (l : Launch) (D : va_G) (a : Nat → Nat) (cI cJ cZ : ClassId) (A : Nat → Prop) (v : Nat → Nat → Nat) (c : Nat → Nat → Int32) (z : Nat) (nn : Nat) (hz : z < 2147483648) (hn : nn ≤ 80) :
    mI l yX6_rowIsWithin wsX6_rowIsWithin 0 0 [.ref (a 0), .int (nI z), .int (nI nn)] D (xT cI cJ cZ) A (xW a cI cJ cZ v c) (fun _ : Unit => xW a cI cJ cZ v c)
    (fun (r : Int32) (u : Unit) => (r = nI (1) ∧ (∀ k, k < nn → c 25 k ||| nI z = nI z)) ∨ (r = nI (0) ∧ (¬ (∀ k, k < nn → c 25 k ||| nI z = nI z)))) := by
  refine w_bI cX6_rowIsWithin 4 .boolean (by decide) rfl (Nat.le_of_ble_eq_true rfl) (Or.inr rfl) ?_
  intro p e s m args below meth c0 ls Q hx hb hml hts hown hK hN hA hret hP hD hS hl
  have hl : lv_has ls 4 [(0, .ref (a 0)), (1, .int (nI (z))), (2, .int (nI (nn)))] := hl
  have hinX6 : ∀ w ∈ wsX60, w ∈ wsX6_rowIsWithin := fun w h => List.mem_cons_of_mem _ (List.mem_append_right _ h)
  refine lv_iconst (v := nI (0)) hx hb dX6_rowIsWithin_0 (by decide) ?_
  refine lv_istore_n (lv' := [(3, .int (nI (0))), (0, .ref (a 0)), (1, .int (nI (z))), (2, .int (nI (nn)))]) hx hb dX6_rowIsWithin_1 rfl hl (by decide) rfl (fun ls hl => ?_)
  have L2 : ∀ (n : Nat) (i : Nat) (H : Heap) (locs : List Loc) (ls : Array Slot), nn - i < n → (i ≤ nn) → (∀ k, k < i → c 25 k ||| nI z = nI z) → va_P D vwCl (xW a cI cJ cZ v c) H → va_D A (xW a cI cJ cZ v c) → va_S A s.heap H locs → lv_has ls 4 [(3, .int (nI (i))), (0, .ref (a 0)), (1, .int (nI (z))), (2, .int (nI (nn)))] → W p l e { frames := 0, cells := 0, slots := 0, locals := 0 } s m args below meth c0 H locs 0 0 Q (F0 m 2 ls []) := by
    intro n
    induction n with
    | zero => intro i H locs ls hm; exact absurd hm (Nat.not_lt_zero _)
    | succ n ih2 =>
      intro i H locs ls hm2 h1 h2 hP hD hS hl
      refine lv_iload_n hx hb dX6_rowIsWithin_2 rfl (lv_at hl 0 rfl) ?_
      refine lv_iload_n hx hb dX6_rowIsWithin_3 rfl (lv_at hl 3 rfl) ?_
      refine w_icmp_ge (x := i) (y := nn) hx hb dX6_rowIsWithin_4 (tgt := 37) (by decide) (by omega) (by omega) (fun c4 => ?_) (fun c4 => ?_)
      · skip
        refine lv_iconst (v := nI (1)) hx hb dX6_rowIsWithin_37 (by decide) ?_
        exact hret (nI (1)) () _ _ 38 _ dX6_rowIsWithin_38 rfl (by have e : i = nn := (by omega); exact Or.inl ⟨rfl, by rw [← e]; exact h2⟩) hP hD hS
      · skip
        refine lv_iload_n hx hb dX6_rowIsWithin_7 rfl (lv_at hl 0 rfl) ?_
        refine lv_aload_n hx hb dX6_rowIsWithin_8 rfl (lv_at hl 1 rfl) ?_
        refine va_get (D := D) (ci := 6) (v := .ref (a 25)) (C := RX6) (T := TX6) (N := 9) hx hb hts hinX6 hown hK hP 0 rfl rfl 6 (by decide) (hts (.fieldLink RX6 49 "DancedLock" "row" "[I") (List.mem_of_getElem? (i := 1) rfl)) (fun _ h9 => h9) rfl dX6_rowIsWithin_9 ?_
        refine va_alen (v := nI 80) hx hb hK hP 25 0 rfl rfl rfl dX6_rowIsWithin_12 ?_
        refine w_icmp_ge (x := i) (y := 80) hx hb dX6_rowIsWithin_13 (tgt := 37) (by decide) (by omega) (by omega) (fun c13 => absurd c13 (by omega)) (fun c13 => ?_)
        refine lv_aload_n hx hb dX6_rowIsWithin_16 rfl (lv_at hl 1 rfl) ?_
        refine va_get (D := D) (ci := 6) (v := .ref (a 25)) (C := RX6) (T := TX6) (N := 9) hx hb hts hinX6 hown hK hP 0 rfl rfl 6 (by decide) (hts (.fieldLink RX6 49 "DancedLock" "row" "[I") (List.mem_of_getElem? (i := 1) rfl)) (fun _ h9 => h9) rfl dX6_rowIsWithin_17 ?_
        refine lv_iload_n hx hb dX6_rowIsWithin_20 rfl (lv_at hl 0 rfl) ?_
        refine r_iald (f := c 25) hx hb hK hP 25 0 rfl rfl (i := i) (by omega) (by decide) dX6_rowIsWithin_21 ?_
        refine lv_iload_n hx hb dX6_rowIsWithin_22 rfl (lv_at hl 2 rfl) ?_
        refine lv_iconst (v := -1) hx hb dX6_rowIsWithin_23 (by decide) ?_
        refine lv_ixor hx hb dX6_rowIsWithin_24 ?_
        refine lv_iand hx hb dX6_rowIsWithin_25 ?_
        refine lv_if_eq hx hb dX6_rowIsWithin_26 (tgt := 31) (by decide) (fun c26 => ?_) (fun c26 => ?_)
        · skip
          refine lv_iinc (v := nI (i + 1)) (lv' := [(3, .int (nI (i + 1))), (0, .ref (a 0)), (1, .int (nI (z))), (2, .int (nI (nn)))]) hx hb dX6_rowIsWithin_31 hl (k := 0) rfl (nI_add i 1) (by decide) rfl (fun ls hl => ?_)
          refine lv_goto (tgt := 2) hx hb dX6_rowIsWithin_34 (by decide) ?_
          exact ih2 (i + 1) _ _ _ (by omega) (by omega) (by exact lt_s h2 ((or_iff hz).mpr c26)) hP hD hS (lv_sub hl [0, 1, 2, 3] rfl)
        · skip
          refine lv_iconst (v := nI (0)) hx hb dX6_rowIsWithin_29 (by decide) ?_
          exact hret (nI (0)) () _ _ 30 _ dX6_rowIsWithin_30 rfl (by exact Or.inr ⟨rfl, fun q => c26 ((or_iff hz).mp (q i (by omega)))⟩) hP hD hS
  exact L2 ((nn - 0) + 1) 0 _ _ _ (Nat.lt_succ_self _) (by omega) (by exact fun k hk => absurd hk (Nat.not_lt_zero _)) hP hD hS (lv_sub hl [0, 1, 2, 3] rfl)
