/-! ===== the model: what was seen, parts ===== -/
set_option maxHeartbeats 4000000 in
set_option maxRecDepth 100000 in
theorem m_isSeen (l : Launch) (D : va_G) (b : Nat → Nat) (cI cJ cZ : ClassId) (A : Nat → Prop) (v : Nat → Nat → Nat) (c : Nat → Nat → Int32) (dd : Nat) (z : Nat) (fr : Nat) (nn : Nat) (hI : MI v c) (hd : dd < v 6 0) (hn : nn ≤ v 8 dd) (hf : fr + nn ≤ 320) :
    mI l yX7_isSeen wsX7_isSeen 1 21 [.ref (b 0), .int (nI dd), .int (nI z), .int (nI fr), .int (nI nn)] D (xT cI cJ cZ) A (mW b cI cJ cZ v c) (fun _ : Unit => mW b cI cJ cZ v c)
    (fun (r : Int32) (u : Unit) => (r = nI (1) ∧ (∀ e, e < nn → nI (v 9 (dd * 6 + e) &&& z) = c 4 (fr + e))) ∨ (r = nI (0) ∧ (¬ ∀ e, e < nn → nI (v 9 (dd * 6 + e) &&& z) = c 4 (fr + e)))) := by
  refine w_bI cX7_isSeen 6 .boolean (by decide) rfl (Nat.le_of_ble_eq_true rfl) (Or.inr rfl) ?_
  intro p e s m args below meth c0 ls Q hx hb hml hts hown hK hN hA hret hP hD hS hl
  have hl : lv_has ls 6 [(0, .ref (b 0)), (1, .int (nI (dd))), (2, .int (nI (z))), (3, .int (nI (fr))), (4, .int (nI (nn)))] := hl
  have hinX7 : ∀ w ∈ wsX70, w ∈ wsX7_isSeen := fun w h => List.mem_cons_of_mem _ (List.mem_append_right _ h)
  obtain ⟨hnb, hnd, hbt, hfg, hne, hnc, hdk, hnf, hkn, hln, hst, hdc, hsp⟩ := MI_o hI
  have hbd := hbt dd hd
  refine lv_iconst (v := nI (0)) hx hb dX7_isSeen_0 (by decide) ?_
  refine lv_istore (lv' := [(5, .int (nI (0))), (0, .ref (b 0)), (1, .int (nI (dd))), (2, .int (nI (z))), (3, .int (nI (fr))), (4, .int (nI (nn)))]) hx hb dX7_isSeen_1 hl (by decide) rfl (fun ls hl => ?_)
  have L3 : ∀ (n : Nat) (i : Nat) (H : Heap) (locs : List Loc) (ls : Array Slot), nn - i < n → (i ≤ nn) → (∀ e, e < i → nI (v 9 (dd * 6 + e) &&& z) = c 4 (fr + e)) → va_P D vwCl (mW b cI cJ cZ v c) H → va_D A (mW b cI cJ cZ v c) → va_S A s.heap H locs → lv_has ls 6 [(5, .int (nI (i))), (0, .ref (b 0)), (1, .int (nI (dd))), (2, .int (nI (z))), (3, .int (nI (fr))), (4, .int (nI (nn)))] → W p l e { frames := 1, cells := 0, slots := 0, locals := 21 } s m args below meth c0 H locs 0 0 Q (F0 m 3 ls []) := by
    intro n
    induction n with
    | zero => intro i H locs ls hm; exact absurd hm (Nat.not_lt_zero _)
    | succ n ih3 =>
      intro i H locs ls hm3 h1 h2 hP hD hS hl
      refine lv_iload hx hb dX7_isSeen_3 (lv_at hl 0 rfl) ?_
      refine lv_iload hx hb dX7_isSeen_5 (lv_at hl 5 rfl) ?_
      refine w_icmp_ge (x := i) (y := nn) hx hb dX7_isSeen_7 (tgt := 43) (by decide) (by omega) (by omega) (fun c7 => ?_) (fun c7 => ?_)
      · skip
        refine lv_iconst (v := nI (1)) hx hb dX7_isSeen_43 (by decide) ?_
        exact hret (nI (1)) () _ _ 44 _ dX7_isSeen_44 rfl (by exact Or.inl ⟨rfl, fun e he => h2 e (by omega)⟩) hP hD hS
      · skip
        refine lv_aload_n hx hb dX7_isSeen_10 rfl (lv_at hl 1 rfl) ?_
        refine va_get (D := D) (ci := 7) (v := .ref (b 9)) (C := RX7) (T := TX7) (N := 24) hx hb hts hinX7 hown hK hP 0 rfl rfl 9 (by decide) (hts (.fieldLink RX7 25 "DancedLockModel" "figure" "[I") (List.mem_of_getElem? (i := 1) rfl)) (fun _ h9 => h9) rfl dX7_isSeen_11 ?_
        refine lv_iload_n hx hb dX7_isSeen_14 rfl (lv_at hl 2 rfl) ?_
        refine lv_iload hx hb dX7_isSeen_15 (lv_at hl 0 rfl) ?_
        refine w_cSi (rest := [.ref (b 9)]) hx hb hml hown hts (m_spot l D b cI cJ cZ A v c dd i  ) 2 gX7_isSeen_X7_spot rfl hdX7_spot ⟨Nat.le_of_ble_eq_true rfl, Nat.le_of_ble_eq_true rfl⟩ hK hN hP hD hS hA rfl hl.1 rfl (Nat.le_of_ble_eq_true rfl) dX7_isSeen_17 ⟨Nat.le_of_ble_eq_true rfl, Nat.le_of_ble_eq_true rfl⟩ (fun r u H locs hq hP hD hS => ?_)
        obtain rfl := hq
        have hP : va_P D vwCl (mW b cI cJ cZ v c) H := hP
        have hD : va_D A (mW b cI cJ cZ v c) := hD
        refine w_iald (f := v 9) hx hb hK hP 6 0 rfl rfl (i := dd * 6 + i) (by omega) (by decide) dX7_isSeen_20 ?_
        refine lv_iload_n hx hb dX7_isSeen_21 rfl (lv_at hl 3 rfl) ?_
        refine w_iand (x := v 9 (dd * 6 + i)) (y := z) hx hb dX7_isSeen_22  ?_
        refine lv_aload_n hx hb dX7_isSeen_23 rfl (lv_at hl 1 rfl) ?_
        refine va_get (D := D) (ci := 7) (v := .ref (b 4)) (C := RX7) (T := TX7) (N := 24) hx hb hts hinX7 hown hK hP 0 rfl rfl 4 (by decide) (hts (.fieldLink RX7 16 "DancedLockModel" "cells" "[I") (List.mem_of_getElem? (i := 2) rfl)) (fun _ h9 => h9) rfl dX7_isSeen_24 ?_
        refine lv_iload_n hx hb dX7_isSeen_27 rfl (lv_at hl 4 rfl) ?_
        refine lv_iload hx hb dX7_isSeen_28 (lv_at hl 0 rfl) ?_
        refine w_iadd (x := fr) (y := i) hx hb dX7_isSeen_30  ?_
        refine r_iald (f := c 4) hx hb hK hP 3 0 rfl rfl (i := fr + i) (by omega) (by decide) dX7_isSeen_31 ?_
        refine lv_icmp_eq (x := nI ((v 9 (dd * 6 + i)) &&& z)) (y := c 4 (fr + i)) hx hb dX7_isSeen_32 (tgt := 37) (by decide) (fun c32 => ?_) (fun c32 => ?_)
        · skip
          refine lv_iinc (v := nI (i + 1)) (lv' := [(5, .int (nI (i + 1))), (0, .ref (b 0)), (1, .int (nI (dd))), (2, .int (nI (z))), (3, .int (nI (fr))), (4, .int (nI (nn)))]) hx hb dX7_isSeen_37 hl (k := 0) rfl (nI_add i 1) (by decide) rfl (fun ls hl => ?_)
          refine lv_goto (tgt := 3) hx hb dX7_isSeen_40 (by decide) ?_
          exact ih3 (i + 1) _ _ _ (by omega) (by omega) (by exact lt_s h2 c32) hP hD hS (lv_sub hl [0, 1, 2, 3, 4, 5] rfl)
        · skip
          refine lv_iconst (v := nI (0)) hx hb dX7_isSeen_35 (by decide) ?_
          exact hret (nI (0)) () _ _ 36 _ dX7_isSeen_36 rfl (by exact Or.inr ⟨rfl, fun y => c32 (y i (by omega))⟩) hP hD hS
  exact L3 ((nn - 0) + 1) 0 _ _ _ (Nat.lt_succ_self _) (by omega) (by exact fun j hj => absurd hj (Nat.not_lt_zero _)) hP hD hS (lv_sub hl [0, 1, 2, 3, 4, 5] rfl)

set_option maxHeartbeats 4000000 in
set_option maxRecDepth 100000 in
theorem m_stands (l : Launch) (D : va_G) (b : Nat → Nat) (cI cJ cZ : ClassId) (A : Nat → Prop) (v : Nat → Nat → Nat) (c : Nat → Nat → Int32) (dd : Nat) (fr : Nat) (nn : Nat) (hI : MI v c) (hd : dd < v 6 0) (hn : nn ≤ 80) (hf : fr + nn ≤ 320) :
    mI l yX7_stands wsX7_stands 1 21 [.ref (b 0), .int (nI dd), .int (nI fr), .int (nI nn)] D (xT cI cJ cZ) A (mW b cI cJ cZ v c) (fun _ : Unit => mW b cI cJ cZ v c)
    (fun (r : Int32) (u : Unit) => (r = nI (1) ∧ (∃ f1, f1 + nn ≤ v 8 dd ∧ ∀ e, e < nn → nI (v 9 (dd * 6 + (f1 + e))) = c 4 (fr + e))) ∨ (r = nI (0) ∧ (¬ ∃ f1, f1 + nn ≤ v 8 dd ∧ ∀ e, e < nn → nI (v 9 (dd * 6 + (f1 + e))) = c 4 (fr + e)))) := by
  refine w_bI cX7_stands 6 .boolean (by decide) rfl (Nat.le_of_ble_eq_true rfl) (Or.inr rfl) ?_
  intro p e s m args below meth c0 ls Q hx hb hml hts hown hK hN hA hret hP hD hS hl
  have hl : lv_has ls 6 [(0, .ref (b 0)), (1, .int (nI (dd))), (2, .int (nI (fr))), (3, .int (nI (nn)))] := hl
  have hinX7 : ∀ w ∈ wsX70, w ∈ wsX7_stands := fun w h => List.mem_cons_of_mem _ (List.mem_append_right _ h)
  obtain ⟨hnb, hnd, hbt, hfg, hne, hnc, hdk, hnf, hkn, hln, hst, hdc, hsp⟩ := MI_o hI
  have hbd := hbt dd hd
  refine lv_iconst (v := nI (0)) hx hb dX7_stands_0 (by decide) ?_
  refine lv_istore (lv' := [(4, .int (nI (0))), (0, .ref (b 0)), (1, .int (nI (dd))), (2, .int (nI (fr))), (3, .int (nI (nn)))]) hx hb dX7_stands_1 hl (by decide) rfl (fun ls hl => ?_)
  have L3 : ∀ (n : Nat) (i : Nat) (H : Heap) (locs : List Loc) (ls : Array Slot), 8 - i < n → (i ≤ 7) → (∀ f1, f1 < i → ¬ (f1 + nn ≤ v 8 dd ∧ ∀ e, e < nn → nI (v 9 (dd * 6 + (f1 + e))) = c 4 (fr + e))) → va_P D vwCl (mW b cI cJ cZ v c) H → va_D A (mW b cI cJ cZ v c) → va_S A s.heap H locs → lv_has ls 6 [(4, .int (nI (i))), (0, .ref (b 0)), (1, .int (nI (dd))), (2, .int (nI (fr))), (3, .int (nI (nn)))] → W p l e { frames := 1, cells := 0, slots := 0, locals := 21 } s m args below meth c0 H locs 0 0 Q (F0 m 3 ls []) := by
    intro n
    induction n with
    | zero => intro i H locs ls hm; exact absurd hm (Nat.not_lt_zero _)
    | succ n ih3 =>
      intro i H locs ls hm3 h1 h2 hP hD hS hl
      refine lv_iload hx hb dX7_stands_3 (lv_at hl 0 rfl) ?_
      refine lv_iload_n hx hb dX7_stands_5 rfl (lv_at hl 4 rfl) ?_
      refine w_iadd (x := i) (y := nn) hx hb dX7_stands_6  ?_
      refine lv_aload_n hx hb dX7_stands_7 rfl (lv_at hl 1 rfl) ?_
      refine va_get (D := D) (ci := 7) (v := .ref (b 8)) (C := RX7) (T := TX7) (N := 24) hx hb hts hinX7 hown hK hP 0 rfl rfl 8 (by decide) (hts (.fieldLink RX7 22 "DancedLockModel" "beats" "[I") (List.mem_of_getElem? (i := 1) rfl)) (fun _ h9 => h9) rfl dX7_stands_8 ?_
      refine lv_iload_n hx hb dX7_stands_11 rfl (lv_at hl 2 rfl) ?_
      refine w_iald (f := v 8) hx hb hK hP 5 0 rfl rfl (i := dd) (by omega) (by decide) dX7_stands_12 ?_
      refine w_icmp_gt (x := i + nn) (y := v 8 dd) hx hb dX7_stands_13 (tgt := 71) (by decide) (by omega) (by omega) (fun c13 => ?_) (fun c13 => ?_)
      · skip
        refine lv_iconst (v := nI (0)) hx hb dX7_stands_71 (by decide) ?_
        exact hret (nI (0)) () _ _ 72 _ dX7_stands_72 rfl (by exact Or.inr ⟨rfl, fun ⟨f1, q1, q2⟩ => by rcases Nat.lt_or_ge f1 i with y | y; exact h2 f1 y ⟨q1, q2⟩; omega⟩) hP hD hS
      · skip
        refine lv_iconst (v := nI (0)) hx hb dX7_stands_16 (by decide) ?_
        refine lv_istore (lv' := [(5, .int (nI (0))), (4, .int (nI (i))), (0, .ref (b 0)), (1, .int (nI (dd))), (2, .int (nI (fr))), (3, .int (nI (nn)))]) hx hb dX7_stands_17 hl (by decide) rfl (fun ls hl => ?_)
        have L19 : ∀ (n : Nat) (k : Nat) (H : Heap) (locs : List Loc) (ls : Array Slot), nn - k < n → (k ≤ nn) → (∀ e, e < k → nI (v 9 (dd * 6 + (i + e))) = c 4 (fr + e)) → va_P D vwCl (mW b cI cJ cZ v c) H → va_D A (mW b cI cJ cZ v c) → va_S A s.heap H locs → lv_has ls 6 [(5, .int (nI (k))), (0, .ref (b 0)), (1, .int (nI (dd))), (2, .int (nI (fr))), (3, .int (nI (nn))), (4, .int (nI (i)))] → W p l e { frames := 1, cells := 0, slots := 0, locals := 21 } s m args below meth c0 H locs 0 0 Q (F0 m 19 ls []) := by
          intro n
          induction n with
          | zero => intro k H locs ls hm; exact absurd hm (Nat.not_lt_zero _)
          | succ n ih19 =>
            intro k H locs ls hm19 k1 k2 hP hD hS hl
            refine lv_iload hx hb dX7_stands_19 (lv_at hl 0 rfl) ?_
            refine lv_iload_n hx hb dX7_stands_21 rfl (lv_at hl 4 rfl) ?_
            refine w_icmp_ge (x := k) (y := nn) hx hb dX7_stands_22 (tgt := 57) (by decide) (by omega) (by omega) (fun c22 => ?_) (fun c22 => ?_)
            · skip
              refine lv_iload hx hb dX7_stands_57 (lv_at hl 0 rfl) ?_
              refine lv_iload_n hx hb dX7_stands_59 rfl (lv_at hl 4 rfl) ?_
              refine w_icmp_ne (x := k) (y := nn) hx hb dX7_stands_60 (tgt := 65) (by decide) (by omega) (by omega) (fun c60 => ?_) (fun c60 => ?_)
              · skip
                refine lv_iinc (v := nI (i + 1)) (lv' := [(4, .int (nI (i + 1))), (5, .int (nI (k))), (0, .ref (b 0)), (1, .int (nI (dd))), (2, .int (nI (fr))), (3, .int (nI (nn)))]) hx hb dX7_stands_65 hl (k := 5) rfl (nI_add i 1) (by decide) rfl (fun ls hl => ?_)
                refine lv_goto (tgt := 3) hx hb dX7_stands_68 (by decide) ?_
                exact ih3 (i + 1) _ _ _ (by omega) (by omega) (by first | exact lt_s h2 (fun y => c48 (y.2 k (by omega))) | (exfalso; omega)) hP hD hS (lv_sub hl [0, 2, 3, 4, 5] rfl)
              · skip
                refine lv_iconst (v := nI (1)) hx hb dX7_stands_63 (by decide) ?_
                exact hret (nI (1)) () _ _ 64 _ dX7_stands_64 rfl (by first | (exfalso; omega) | exact Or.inl ⟨rfl, i, by omega, fun e he => k2 e (by omega)⟩) hP hD hS
            · skip
              refine lv_aload_n hx hb dX7_stands_25 rfl (lv_at hl 1 rfl) ?_
              refine va_get (D := D) (ci := 7) (v := .ref (b 9)) (C := RX7) (T := TX7) (N := 24) hx hb hts hinX7 hown hK hP 0 rfl rfl 9 (by decide) (hts (.fieldLink RX7 25 "DancedLockModel" "figure" "[I") (List.mem_of_getElem? (i := 2) rfl)) (fun _ h9 => h9) rfl dX7_stands_26 ?_
              refine lv_iload_n hx hb dX7_stands_29 rfl (lv_at hl 2 rfl) ?_
              refine lv_iload hx hb dX7_stands_30 (lv_at hl 5 rfl) ?_
              refine lv_iload hx hb dX7_stands_32 (lv_at hl 0 rfl) ?_
              refine w_iadd (x := i) (y := k) hx hb dX7_stands_34  ?_
              refine w_cSi (rest := [.ref (b 9)]) hx hb hml hown hts (m_spot l D b cI cJ cZ A v c dd (i + k)  ) 2 gX7_stands_X7_spot rfl hdX7_spot ⟨Nat.le_of_ble_eq_true rfl, Nat.le_of_ble_eq_true rfl⟩ hK hN hP hD hS hA rfl hl.1 rfl (Nat.le_of_ble_eq_true rfl) dX7_stands_35 ⟨Nat.le_of_ble_eq_true rfl, Nat.le_of_ble_eq_true rfl⟩ (fun r u H locs hq hP hD hS => ?_)
              obtain rfl := hq
              have hP : va_P D vwCl (mW b cI cJ cZ v c) H := hP
              have hD : va_D A (mW b cI cJ cZ v c) := hD
              refine w_iald (f := v 9) hx hb hK hP 6 0 rfl rfl (i := dd * 6 + (i + k)) (by omega) (by decide) dX7_stands_38 ?_
              refine lv_aload_n hx hb dX7_stands_39 rfl (lv_at hl 1 rfl) ?_
              refine va_get (D := D) (ci := 7) (v := .ref (b 4)) (C := RX7) (T := TX7) (N := 24) hx hb hts hinX7 hown hK hP 0 rfl rfl 4 (by decide) (hts (.fieldLink RX7 16 "DancedLockModel" "cells" "[I") (List.mem_of_getElem? (i := 3) rfl)) (fun _ h9 => h9) rfl dX7_stands_40 ?_
              refine lv_iload_n hx hb dX7_stands_43 rfl (lv_at hl 3 rfl) ?_
              refine lv_iload hx hb dX7_stands_44 (lv_at hl 0 rfl) ?_
              refine w_iadd (x := fr) (y := k) hx hb dX7_stands_46  ?_
              refine r_iald (f := c 4) hx hb hK hP 3 0 rfl rfl (i := fr + k) (by omega) (by decide) dX7_stands_47 ?_
              refine lv_icmp_ne (x := nI (v 9 (dd * 6 + (i + k)))) (y := c 4 (fr + k)) hx hb dX7_stands_48 (tgt := 57) (by decide) (fun c48 => ?_) (fun c48 => ?_)
              · skip
                refine lv_iload hx hb dX7_stands_57 (lv_at hl 0 rfl) ?_
                refine lv_iload_n hx hb dX7_stands_59 rfl (lv_at hl 4 rfl) ?_
                refine w_icmp_ne (x := k) (y := nn) hx hb dX7_stands_60 (tgt := 65) (by decide) (by omega) (by omega) (fun c60 => ?_) (fun c60 => ?_)
                · skip
                  refine lv_iinc (v := nI (i + 1)) (lv' := [(4, .int (nI (i + 1))), (5, .int (nI (k))), (0, .ref (b 0)), (1, .int (nI (dd))), (2, .int (nI (fr))), (3, .int (nI (nn)))]) hx hb dX7_stands_65 hl (k := 5) rfl (nI_add i 1) (by decide) rfl (fun ls hl => ?_)
                  refine lv_goto (tgt := 3) hx hb dX7_stands_68 (by decide) ?_
                  exact ih3 (i + 1) _ _ _ (by omega) (by omega) (by first | exact lt_s h2 (fun y => c48 (y.2 k (by omega))) | (exfalso; omega)) hP hD hS (lv_sub hl [0, 2, 3, 4, 5] rfl)
                · skip
                  refine lv_iconst (v := nI (1)) hx hb dX7_stands_63 (by decide) ?_
                  exact hret (nI (1)) () _ _ 64 _ dX7_stands_64 rfl (by first | (exfalso; omega) | exact Or.inl ⟨rfl, i, by omega, fun e he => k2 e (by omega)⟩) hP hD hS
              · skip
                refine lv_iinc (v := nI (k + 1)) (lv' := [(5, .int (nI (k + 1))), (0, .ref (b 0)), (1, .int (nI (dd))), (2, .int (nI (fr))), (3, .int (nI (nn))), (4, .int (nI (i)))]) hx hb dX7_stands_51 hl (k := 0) rfl (nI_add k 1) (by decide) rfl (fun ls hl => ?_)
                refine lv_goto (tgt := 19) hx hb dX7_stands_54 (by decide) ?_
                exact ih19 (k + 1) _ _ _ (by omega) (by omega) (by exact lt_s k2 c48) hP hD hS (lv_sub hl [0, 1, 2, 3, 4, 5] rfl)
        exact L19 ((nn - 0) + 1) 0 _ _ _ (Nat.lt_succ_self _) (by omega) (by exact fun j hj => absurd hj (Nat.not_lt_zero _)) hP hD hS (lv_sub hl [0, 2, 3, 4, 5, 1] rfl)
  exact L3 ((8 - 0) + 1) 0 _ _ _ (Nat.lt_succ_self _) (by omega) (by exact fun j hj => absurd hj (Nat.not_lt_zero _)) hP hD hS (lv_sub hl [0, 1, 2, 3, 4] rfl)

set_option maxHeartbeats 4000000 in
set_option maxRecDepth 100000 in
theorem s_seen (l : Launch) (D : va_G) (b : Nat → Nat) (cI cJ cZ : ClassId) (A : Nat → Prop) (v : Nat → Nat → Nat) (c : Nat → Nat → Int32) (z : Int32) (sh : Int32) (so : Int32) (ii : Int32) (qq : Int32) (hI : MI v c) :
    mI l yX7_seen wsX7_seen 2 46 [.ref (b 0), .int z, .int sh, .int so, .int ii, .int qq] D (xT cI cJ cZ) A (mW b cI cJ cZ v c) (fun u : ((Nat → Nat → Nat) × (Nat → Nat → Int32)) => mW b cI cJ cZ u.1 u.2)
    (fun (r : Int32) (u : ((Nat → Nat → Nat) × (Nat → Nat → Int32))) => MI u.1 u.2 ∧ ∃ F, sp_row (xNo (cM c)) (xHas (cM c)) (v 3) sh so (¬ ∃ zz, zz < 2 ^ v 5 0 ∧ z = nI zz) ii qq (fun k j n r => ∃ zz, zz < 2 ^ v 5 0 ∧ z = nI zz ∧ sp_seen (xCell (cM c)) (v 6 0) (v 8) (fun d k => v 9 (d * 6 + k)) zz k j n r) r F ∧ XS (vM v) (cM c) (vM u.1, cM u.2) F) := by
  refine w_bI cX7_seen 10 .int (by decide) rfl (Nat.le_of_ble_eq_true rfl) (Or.inl rfl) ?_
  intro p e s m args below meth c0 ls Q hx hb hml hts hown hK hN hA hret hP hD hS hl
  have hl : lv_has ls 10 [(0, .ref (b 0)), (1, .int z), (2, .int sh), (3, .int so), (4, .int ii), (5, .int qq)] := hl
  have hinX7 : ∀ w ∈ wsX70, w ∈ wsX7_seen := fun w h => List.mem_cons_of_mem _ (List.mem_append_right _ h)
  obtain ⟨hnb, hnd, hbt, hfg, hne, hnc, hdk, hnf, hkn, hln, hst, hdc, hsp⟩ := MI_o hI
  have hp7 := pow_le_128 hnb
  have hp0 := Nat.two_pow_pos (v 5 0)
  refine lv_aload_n hx hb dX7_seen_0 rfl (lv_at hl 0 rfl) ?_
  refine lv_iconst (v := nI (0)) hx hb dX7_seen_1 (by decide) ?_
  refine va_put (D := D) (ci := 7) (v := .int (nI (0))) (ty := .int) (C := RX7) (T := TX7) (N := 24) hx hb hts hinX7 tyX7 tyX7_ok nmX7 hown hK hP hD hS 0 rfl rfl 0 (by decide) (hts (.fieldLink RX7 53 "DancedLockModel" "fault" "I") (List.mem_of_getElem? (i := 1) rfl)) (fun _ h9 => h9) rfl (by decide +kernel) rfl (rfl) (Nat.le_of_ble_eq_true rfl) dX7_seen_2 (fun H locs hP hD hS => ?_)
  have hP : va_P D vwCl (mW b cI cJ cZ (va_up v 0 (va_up (v 0) 0 (0))) c) H := hP
  have hD : va_D A (mW b cI cJ cZ (va_up v 0 (va_up (v 0) 0 (0))) c) := hD
  refine lv_iload_n hx hb dX7_seen_5 rfl (lv_at hl 2 rfl) ?_
  refine w_cSi (rest := []) hx hb hml hown hts (m_isSheet l D b cI cJ cZ A (va_up v 0 (va_up (v 0) 0 (0))) c sh  ) 1 gX7_seen_X7_isSheet rfl hdX7_isSheet ⟨Nat.le_of_ble_eq_true rfl, Nat.le_of_ble_eq_true rfl⟩ hK hN hP hD hS hA rfl hl.1 rfl (Nat.le_of_ble_eq_true rfl) dX7_seen_6 ⟨Nat.le_of_ble_eq_true rfl, Nat.le_of_ble_eq_true rfl⟩ (fun r u H locs hq hP hD hS => ?_)
  rcases hq with ⟨j_6, rfl, h_6, hs_x_6⟩ | ⟨rfl, h_6⟩
  · skip
    have hP : va_P D vwCl (mW b cI cJ cZ (va_up v 0 (va_up (v 0) 0 (0))) c) H := hP
    have hD : va_D A (mW b cI cJ cZ (va_up v 0 (va_up (v 0) 0 (0))) c) := hD
    subst hs_x_6
    have j_6T := n_tI (k := j_6) (by omega)
    refine w_if_ne (x := 1) hx hb dX7_seen_9 (tgt := 14) (by decide) (by decide) (fun _ => ?_) (fun h => absurd h (by decide))
    refine lv_iload_n hx hb dX7_seen_14 rfl (lv_at hl 3 rfl) ?_
    refine w_cSi (rest := []) hx hb hml hown hts (m_isSort l D b cI cJ cZ A (va_up v 0 (va_up (v 0) 0 (0))) c so  ) 1 gX7_seen_X7_isSort rfl hdX7_isSort ⟨Nat.le_of_ble_eq_true rfl, Nat.le_of_ble_eq_true rfl⟩ hK hN hP hD hS hA rfl hl.1 rfl (Nat.le_of_ble_eq_true rfl) dX7_seen_15 ⟨Nat.le_of_ble_eq_true rfl, Nat.le_of_ble_eq_true rfl⟩ (fun r u H locs hq hP hD hS => ?_)
    rcases hq with ⟨j_15, rfl, h_15, hs_x_15⟩ | ⟨rfl, h_15⟩
    · skip
      have hP : va_P D vwCl (mW b cI cJ cZ (va_up v 0 (va_up (v 0) 0 (0))) c) H := hP
      have hD : va_D A (mW b cI cJ cZ (va_up v 0 (va_up (v 0) 0 (0))) c) := hD
      subst hs_x_15
      have j_15T := n_tI (k := j_15) (by omega)
      refine w_if_eq (x := 1) hx hb dX7_seen_18 (tgt := 37) (by decide) (by decide) (fun h => absurd h (by decide)) (fun _ => ?_)
      refine lv_iload_n hx hb dX7_seen_21 rfl (lv_at hl 1 rfl) ?_
      refine lv_iconst (v := nI (0)) hx hb dX7_seen_22 (by decide) ?_
      refine lv_iconst (v := nI (1)) hx hb dX7_seen_23 (by decide) ?_
      refine lv_aload_n hx hb dX7_seen_24 rfl (lv_at hl 0 rfl) ?_
      refine va_get (D := D) (ci := 7) (v := .int (nI (v 5 0))) (C := RX7) (T := TX7) (N := 24) hx hb hts hinX7 hown hK hP 0 rfl rfl 5 (by decide) (hts (.fieldLink RX7 63 "DancedLockModel" "boards" "I") (List.mem_of_getElem? (i := 2) rfl)) (fun _ h9 => h9) rfl dX7_seen_25 ?_
      refine w_ishl (x := 1) (y := v 5 0) hx hb dX7_seen_28 (by omega) (by omega) ?_
      refine lv_iconst (v := nI (1)) hx hb dX7_seen_29 (by decide) ?_
      refine w_isub (x := 1 * 2 ^ (v 5 0)) (y := 1) hx hb dX7_seen_30 (by omega) ?_
      refine w_cSi (rest := []) hx hb hml hown hts (m_within_N l D b cI cJ cZ A (va_up v 0 (va_up (v 0) 0 (0))) c z 0 ((1 * 2 ^ (v 5 0)) - 1)  (by first | assumption | omega) (by first | assumption | omega)) 3 gX7_seen_X7_within rfl hdX7_within ⟨Nat.le_of_ble_eq_true rfl, Nat.le_of_ble_eq_true rfl⟩ hK hN hP hD hS hA rfl hl.1 rfl (Nat.le_of_ble_eq_true rfl) dX7_seen_31 ⟨Nat.le_of_ble_eq_true rfl, Nat.le_of_ble_eq_true rfl⟩ (fun r u H locs hq hP hD hS => ?_)
      rcases hq with ⟨j_31, rfl, h1_31, h_31, hs_x_31⟩ | ⟨rfl, h_31⟩
      · skip
        have hP : va_P D vwCl (mW b cI cJ cZ (va_up v 0 (va_up (v 0) 0 (0))) c) H := hP
        have hD : va_D A (mW b cI cJ cZ (va_up v 0 (va_up (v 0) 0 (0))) c) := hD
        subst hs_x_31
        have j_31T := n_tI (k := j_31) (by omega)
        refine w_if_ne (x := 1) hx hb dX7_seen_34 (tgt := 40) (by decide) (by decide) (fun _ => ?_) (fun h => absurd h (by decide))
        have hok : ¬ ¬ ∃ zz1, zz1 < 2 ^ v 5 0 ∧ nI j_31 = nI zz1 := fun z9 => z9 ⟨j_31, by omega, rfl⟩
        refine lv_aload_n hx hb dX7_seen_40 rfl (lv_at hl 0 rfl) ?_
        refine lv_iload_n hx hb dX7_seen_41 rfl (lv_at hl 2 rfl) ?_
        refine lv_iload_n hx hb dX7_seen_42 rfl (lv_at hl 3 rfl) ?_
        refine lv_iload hx hb dX7_seen_43 (lv_at hl 4 rfl) ?_
        refine lv_iload hx hb dX7_seen_45 (lv_at hl 5 rfl) ?_
        refine w_cVi (rest := []) hx hb hml hown hts (m_against l D b cI cJ cZ A (va_up v 0 (va_up (v 0) 0 (0))) c j_6 j_15 ii qq  (by exact h_6) (by show (v 3) j_6 ≤ 80; exact hln _ h_6)) 4 gX7_seen_X7_against rfl hdX7_against ⟨Nat.le_of_ble_eq_true rfl, Nat.le_of_ble_eq_true rfl⟩ hK hN hP hD hS hA 0 7 rfl rfl rfl rfl hl.1 rfl (Nat.le_of_ble_eq_true rfl) dX7_seen_47 ⟨Nat.le_of_ble_eq_true rfl, Nat.le_of_ble_eq_true rfl⟩ (fun r u H locs hq hP hD hS => ?_)
        rcases hq with ⟨rfl, h1_47, h2_47⟩ | ⟨rfl, h1_47⟩ | ⟨rfl, h1_47, h2_47, h3_47⟩ | ⟨rfl, h1_47, h2_47, h3_47, h4_47⟩ | ⟨rfl, h1_47, h2_47, h3_47, h4_47, h5_47⟩
        · skip
          have h1_47 : ¬ (c 2) j_6 = -9 := h1_47
          have h2_47 : ¬ (c 2) j_6 = nI j_15 := h2_47
          have hP : va_P D vwCl (mW b cI cJ cZ (va_up v 0 (va_up (v 0) 0 (0))) c) H := hP
          have hD : va_D A (mW b cI cJ cZ (va_up v 0 (va_up (v 0) 0 (0))) c) := hD
          refine lv_istore (lv' := [(6, .int (nI (2))), (0, .ref (b 0)), (1, .int (nI (j_31))), (2, .int (nI (j_6))), (3, .int (nI (j_15))), (4, .int ii), (5, .int qq)]) hx hb dX7_seen_50 hl (by decide) rfl (fun ls hl => ?_)
          refine lv_iload hx hb dX7_seen_52 (lv_at hl 0 rfl) ?_
          refine w_if_eq (x := 2) hx hb dX7_seen_54 (tgt := 64) (by decide) (by decide) (fun h => absurd h (by decide)) (fun _ => ?_)
          refine lv_aload_n hx hb dX7_seen_57 rfl (lv_at hl 1 rfl) ?_
          refine lv_iload hx hb dX7_seen_58 (lv_at hl 0 rfl) ?_
          refine w_cVi (rest := []) hx hb hml hown hts (m_fails l D b cI cJ cZ A (va_up v 0 (va_up (v 0) 0 (0))) c 2  ) 1 gX7_seen_X7_fails rfl hdX7_fails ⟨Nat.le_of_ble_eq_true rfl, Nat.le_of_ble_eq_true rfl⟩ hK hN hP hD hS hA 0 7 rfl rfl rfl rfl hl.1 rfl (Nat.le_of_ble_eq_true rfl) dX7_seen_60 ⟨Nat.le_of_ble_eq_true rfl, Nat.le_of_ble_eq_true rfl⟩ (fun r u H locs hq hP hD hS => ?_)
          obtain ⟨rfl, rfl⟩ := hq
          have hP : va_P D vwCl (mW b cI cJ cZ (va_up v 0 (va_up (v 0) 0 (2))) c) H := hP
          have hD : va_D A (mW b cI cJ cZ (va_up v 0 (va_up (v 0) 0 (2))) c) := hD
          exact hret ((-10) - (nI (2))) (va_up v 0 (va_up (v 0) 0 (2)), c) _ _ 63 _ dX7_seen_63 rfl (by exact mx_of (MI_rd hI ⟨rfl, rfl, rfl, rfl, rfl, rfl, rfl, rfl, rfl, rfl, rfl, rfl, rfl⟩ (hsp)) (Or.inl (tbo_3 (c2 := cM c 2) hok h_6 h_15 (m_nn hI h_6 h1_47) (m_hn h1_47 h2_47))) rfl ⟨rfl, rfl, rfl, rfl, rfl, rfl, rfl, rfl, rfl, rfl, rfl, rfl, rfl⟩) hP hD hS
        · skip
          have h1_47 : (c 2) j_6 = -9 := h1_47
          have hP : va_P D vwCl (mW b cI cJ cZ (va_up v 0 (va_up (v 0) 0 (0))) c) H := hP
          have hD : va_D A (mW b cI cJ cZ (va_up v 0 (va_up (v 0) 0 (0))) c) := hD
          refine lv_istore (lv' := [(6, .int (nI (1))), (0, .ref (b 0)), (1, .int (nI (j_31))), (2, .int (nI (j_6))), (3, .int (nI (j_15))), (4, .int ii), (5, .int qq)]) hx hb dX7_seen_50 hl (by decide) rfl (fun ls hl => ?_)
          refine lv_iload hx hb dX7_seen_52 (lv_at hl 0 rfl) ?_
          refine w_if_eq (x := 1) hx hb dX7_seen_54 (tgt := 64) (by decide) (by decide) (fun h => absurd h (by decide)) (fun _ => ?_)
          refine lv_aload_n hx hb dX7_seen_57 rfl (lv_at hl 1 rfl) ?_
          refine lv_iload hx hb dX7_seen_58 (lv_at hl 0 rfl) ?_
          refine w_cVi (rest := []) hx hb hml hown hts (m_fails l D b cI cJ cZ A (va_up v 0 (va_up (v 0) 0 (0))) c 1  ) 1 gX7_seen_X7_fails rfl hdX7_fails ⟨Nat.le_of_ble_eq_true rfl, Nat.le_of_ble_eq_true rfl⟩ hK hN hP hD hS hA 0 7 rfl rfl rfl rfl hl.1 rfl (Nat.le_of_ble_eq_true rfl) dX7_seen_60 ⟨Nat.le_of_ble_eq_true rfl, Nat.le_of_ble_eq_true rfl⟩ (fun r u H locs hq hP hD hS => ?_)
          obtain ⟨rfl, rfl⟩ := hq
          have hP : va_P D vwCl (mW b cI cJ cZ (va_up v 0 (va_up (v 0) 0 (1))) c) H := hP
          have hD : va_D A (mW b cI cJ cZ (va_up v 0 (va_up (v 0) 0 (1))) c) := hD
          exact hret ((-10) - (nI (1))) (va_up v 0 (va_up (v 0) 0 (1)), c) _ _ 63 _ dX7_seen_63 rfl (by exact mx_of (MI_rd hI ⟨rfl, rfl, rfl, rfl, rfl, rfl, rfl, rfl, rfl, rfl, rfl, rfl, rfl⟩ (hsp)) (Or.inl (tbo_2 (c2 := cM c 2) hok h_6 h_15 (m_no h1_47))) rfl ⟨rfl, rfl, rfl, rfl, rfl, rfl, rfl, rfl, rfl, rfl, rfl, rfl, rfl⟩) hP hD hS
        · skip
          have h1_47 : ¬ (c 2) j_6 = -9 := h1_47
          have h2_47 : (c 2) j_6 = nI j_15 := h2_47
          have hP : va_P D vwCl (mW b cI cJ cZ (va_up v 0 (va_up (v 0) 0 (0))) c) H := hP
          have hD : va_D A (mW b cI cJ cZ (va_up v 0 (va_up (v 0) 0 (0))) c) := hD
          refine lv_istore (lv' := [(6, .int (nI (4))), (0, .ref (b 0)), (1, .int (nI (j_31))), (2, .int (nI (j_6))), (3, .int (nI (j_15))), (4, .int ii), (5, .int qq)]) hx hb dX7_seen_50 hl (by decide) rfl (fun ls hl => ?_)
          refine lv_iload hx hb dX7_seen_52 (lv_at hl 0 rfl) ?_
          refine w_if_eq (x := 4) hx hb dX7_seen_54 (tgt := 64) (by decide) (by decide) (fun h => absurd h (by decide)) (fun _ => ?_)
          refine lv_aload_n hx hb dX7_seen_57 rfl (lv_at hl 1 rfl) ?_
          refine lv_iload hx hb dX7_seen_58 (lv_at hl 0 rfl) ?_
          refine w_cVi (rest := []) hx hb hml hown hts (m_fails l D b cI cJ cZ A (va_up v 0 (va_up (v 0) 0 (0))) c 4  ) 1 gX7_seen_X7_fails rfl hdX7_fails ⟨Nat.le_of_ble_eq_true rfl, Nat.le_of_ble_eq_true rfl⟩ hK hN hP hD hS hA 0 7 rfl rfl rfl rfl hl.1 rfl (Nat.le_of_ble_eq_true rfl) dX7_seen_60 ⟨Nat.le_of_ble_eq_true rfl, Nat.le_of_ble_eq_true rfl⟩ (fun r u H locs hq hP hD hS => ?_)
          obtain ⟨rfl, rfl⟩ := hq
          have hP : va_P D vwCl (mW b cI cJ cZ (va_up v 0 (va_up (v 0) 0 (4))) c) H := hP
          have hD : va_D A (mW b cI cJ cZ (va_up v 0 (va_up (v 0) 0 (4))) c) := hD
          exact hret ((-10) - (nI (4))) (va_up v 0 (va_up (v 0) 0 (4)), c) _ _ 63 _ dX7_seen_63 rfl (by exact mx_of (MI_rd hI ⟨rfl, rfl, rfl, rfl, rfl, rfl, rfl, rfl, rfl, rfl, rfl, rfl, rfl⟩ (hsp)) (Or.inl (tbo_4 (c2 := cM c 2) hok h_6 h_15 (m_has h_15 h2_47) h3_47)) rfl ⟨rfl, rfl, rfl, rfl, rfl, rfl, rfl, rfl, rfl, rfl, rfl, rfl, rfl⟩) hP hD hS
        · skip
          have h1_47 : ¬ (c 2) j_6 = -9 := h1_47
          have h2_47 : (c 2) j_6 = nI j_15 := h2_47
          have h4_47 : ii.toInt < 0 ∨ ((v 3) j_6 : Int) < ii.toInt + qq.toInt := h4_47
          have hP : va_P D vwCl (mW b cI cJ cZ (va_up v 0 (va_up (v 0) 0 (0))) c) H := hP
          have hD : va_D A (mW b cI cJ cZ (va_up v 0 (va_up (v 0) 0 (0))) c) := hD
          refine lv_istore (lv' := [(6, .int (nI (3))), (0, .ref (b 0)), (1, .int (nI (j_31))), (2, .int (nI (j_6))), (3, .int (nI (j_15))), (4, .int ii), (5, .int qq)]) hx hb dX7_seen_50 hl (by decide) rfl (fun ls hl => ?_)
          refine lv_iload hx hb dX7_seen_52 (lv_at hl 0 rfl) ?_
          refine w_if_eq (x := 3) hx hb dX7_seen_54 (tgt := 64) (by decide) (by decide) (fun h => absurd h (by decide)) (fun _ => ?_)
          refine lv_aload_n hx hb dX7_seen_57 rfl (lv_at hl 1 rfl) ?_
          refine lv_iload hx hb dX7_seen_58 (lv_at hl 0 rfl) ?_
          refine w_cVi (rest := []) hx hb hml hown hts (m_fails l D b cI cJ cZ A (va_up v 0 (va_up (v 0) 0 (0))) c 3  ) 1 gX7_seen_X7_fails rfl hdX7_fails ⟨Nat.le_of_ble_eq_true rfl, Nat.le_of_ble_eq_true rfl⟩ hK hN hP hD hS hA 0 7 rfl rfl rfl rfl hl.1 rfl (Nat.le_of_ble_eq_true rfl) dX7_seen_60 ⟨Nat.le_of_ble_eq_true rfl, Nat.le_of_ble_eq_true rfl⟩ (fun r u H locs hq hP hD hS => ?_)
          obtain ⟨rfl, rfl⟩ := hq
          have hP : va_P D vwCl (mW b cI cJ cZ (va_up v 0 (va_up (v 0) 0 (3))) c) H := hP
          have hD : va_D A (mW b cI cJ cZ (va_up v 0 (va_up (v 0) 0 (3))) c) := hD
          exact hret ((-10) - (nI (3))) (va_up v 0 (va_up (v 0) 0 (3)), c) _ _ 63 _ dX7_seen_63 rfl (by exact mx_of (MI_rd hI ⟨rfl, rfl, rfl, rfl, rfl, rfl, rfl, rfl, rfl, rfl, rfl, rfl, rfl⟩ (hsp)) (Or.inl (tbo_5 (c2 := cM c 2) hok h_6 h_15 (m_has h_15 h2_47) h3_47 h4_47)) rfl ⟨rfl, rfl, rfl, rfl, rfl, rfl, rfl, rfl, rfl, rfl, rfl, rfl, rfl⟩) hP hD hS
        · skip
          have h1_47 : ¬ (c 2) j_6 = -9 := h1_47
          have h2_47 : (c 2) j_6 = nI j_15 := h2_47
          have h5_47 : ii.toInt + qq.toInt ≤ (v 3) j_6 := h5_47
          have hP : va_P D vwCl (mW b cI cJ cZ (va_up v 0 (va_up (v 0) 0 (0))) c) H := hP
          have hD : va_D A (mW b cI cJ cZ (va_up v 0 (va_up (v 0) 0 (0))) c) := hD
          refine lv_istore (lv' := [(6, .int (nI (0))), (0, .ref (b 0)), (1, .int (nI (j_31))), (2, .int (nI (j_6))), (3, .int (nI (j_15))), (4, .int ii), (5, .int qq)]) hx hb dX7_seen_50 hl (by decide) rfl (fun ls hl => ?_)
          refine lv_iload hx hb dX7_seen_52 (lv_at hl 0 rfl) ?_
          refine w_if_eq (x := 0) hx hb dX7_seen_54 (tgt := 64) (by decide) (by decide) (fun _ => ?_) (fun h => absurd h (by decide))
          obtain ⟨ia, iaB, rfl⟩ := r_nat h3_47
          have iaT := n_tI iaB
          obtain ⟨na, naB, rfl⟩ := r_nat h4_47
          have naT := n_tI naB
          have hlk := hln j_6 h_6
          have hjn : ia + na ≤ v 3 j_6 := by omega
          refine lv_aload_n hx hb dX7_seen_64 rfl (lv_at hl 1 rfl) ?_
          refine va_get (D := D) (ci := 7) (v := .int (nI (v 6 0))) (C := RX7) (T := TX7) (N := 24) hx hb hts hinX7 hown hK hP 0 rfl rfl 6 (by decide) (hts (.fieldLink RX7 66 "DancedLockModel" "doors" "I") (List.mem_of_getElem? (i := 3) rfl)) (fun _ h9 => h9) rfl dX7_seen_65 ?_
          refine w_if_ne (x := v 6 0) hx hb dX7_seen_68 (tgt := 74) (by decide) (by omega) (fun c68 => ?_) (fun c68 => ?_)
          · skip
            refine lv_bipush (v := nI (80)) hx hb dX7_seen_74 (by decide) ?_
            refine lv_iload_n hx hb dX7_seen_76 rfl (lv_at hl 3 rfl) ?_
            refine w_imul (x := 80) (y := j_6) hx hb dX7_seen_77  ?_
            refine lv_iload hx hb dX7_seen_78 (lv_at hl 5 rfl) ?_
            refine w_iadd (x := 80 * j_6) (y := ia) hx hb dX7_seen_80  ?_
            refine lv_istore (lv' := [(7, .int (nI (80 * j_6 + ia))), (6, .int (nI (0))), (0, .ref (b 0)), (1, .int (nI (j_31))), (2, .int (nI (j_6))), (3, .int (nI (j_15))), (4, .int (nI (ia))), (5, .int (nI (na)))]) hx hb dX7_seen_81 hl (by decide) rfl (fun ls hl => ?_)
            refine lv_aload_n hx hb dX7_seen_83 rfl (lv_at hl 2 rfl) ?_
            refine lv_iload_n hx hb dX7_seen_84 rfl (lv_at hl 3 rfl) ?_
            refine lv_iload hx hb dX7_seen_85 (lv_at hl 0 rfl) ?_
            refine lv_iload hx hb dX7_seen_87 (lv_at hl 7 rfl) ?_
            refine w_cVi (rest := []) hx hb hml hown hts (m_areWithin l D b cI cJ cZ A (va_up v 0 (va_up (v 0) 0 (0))) c j_31 (80 * j_6 + ia) na  (by omega)) 3 gX7_seen_X7_areWithin rfl hdX7_areWithin ⟨Nat.le_of_ble_eq_true rfl, Nat.le_of_ble_eq_true rfl⟩ hK hN hP hD hS hA 0 7 rfl rfl rfl rfl hl.1 rfl (Nat.le_of_ble_eq_true rfl) dX7_seen_89 ⟨Nat.le_of_ble_eq_true rfl, Nat.le_of_ble_eq_true rfl⟩ (fun r u H locs hq hP hD hS => ?_)
            rcases hq with ⟨rfl, h_89⟩ | ⟨rfl, h_89⟩
            · skip
              have h_89 : ∀ e, e < na → (c 4) ((80 * j_6 + ia) + e) ||| nI j_31 = nI j_31 := h_89
              have hP : va_P D vwCl (mW b cI cJ cZ (va_up v 0 (va_up (v 0) 0 (0))) c) H := hP
              have hD : va_D A (mW b cI cJ cZ (va_up v 0 (va_up (v 0) 0 (0))) c) := hD
              refine w_if_ne (x := 1) hx hb dX7_seen_92 (tgt := 98) (by decide) (by decide) (fun _ => ?_) (fun h => absurd h (by decide))
              refine lv_iconst (v := nI (0)) hx hb dX7_seen_98 (by decide) ?_
              refine lv_istore (lv' := [(8, .int (nI (0))), (7, .int (nI (80 * j_6 + ia))), (6, .int (nI (0))), (0, .ref (b 0)), (1, .int (nI (j_31))), (2, .int (nI (j_6))), (3, .int (nI (j_15))), (4, .int (nI (ia))), (5, .int (nI (na)))]) hx hb dX7_seen_99 hl (by decide) rfl (fun ls hl => ?_)
              refine lv_iconst (v := nI (0)) hx hb dX7_seen_101 (by decide) ?_
              refine lv_istore (lv' := [(9, .int (nI (0))), (8, .int (nI (0))), (7, .int (nI (80 * j_6 + ia))), (6, .int (nI (0))), (0, .ref (b 0)), (1, .int (nI (j_31))), (2, .int (nI (j_6))), (3, .int (nI (j_15))), (4, .int (nI (ia))), (5, .int (nI (na)))]) hx hb dX7_seen_102 hl (by decide) rfl (fun ls hl => ?_)
              have L104 : ∀ (n : Nat) (i : Nat) (q : Nat) (H : Heap) (locs : List Loc) (ls : Array Slot), v 6 0 - i < n → (i ≤ v 6 0) → (q = dset (fun d => v 8 d = na ∧ ∀ e, e < na → nI (v 9 (d * 6 + e) &&& j_31) = c 4 (80 * j_6 + ia + e)) i) → va_P D vwCl (mW b cI cJ cZ (va_up v 0 (va_up (v 0) 0 (0))) c) H → va_D A (mW b cI cJ cZ (va_up v 0 (va_up (v 0) 0 (0))) c) → va_S A s.heap H locs → lv_has ls 10 [(8, .int (nI (q))), (9, .int (nI (i))), (0, .ref (b 0)), (1, .int (nI (j_31))), (2, .int (nI (j_6))), (3, .int (nI (j_15))), (4, .int (nI (ia))), (5, .int (nI (na))), (6, .int (nI (0))), (7, .int (nI (80 * j_6 + ia)))] → W p l e { frames := 2, cells := 0, slots := 0, locals := 46 } s m args below meth c0 H locs 0 0 Q (F0 m 104 ls []) := by
                intro n
                induction n with
                | zero => intro i q H locs ls hm; exact absurd hm (Nat.not_lt_zero _)
                | succ n ih104 =>
                  intro i q H locs ls hm104 h1 h2 hP hD hS hl
                  refine lv_iload hx hb dX7_seen_104 (lv_at hl 1 rfl) ?_
                  refine lv_aload_n hx hb dX7_seen_106 rfl (lv_at hl 2 rfl) ?_
                  refine va_get (D := D) (ci := 7) (v := .int (nI (v 6 0))) (C := RX7) (T := TX7) (N := 24) hx hb hts hinX7 hown hK hP 0 rfl rfl 6 (by decide) (hts (.fieldLink RX7 66 "DancedLockModel" "doors" "I") (List.mem_of_getElem? (i := 3) rfl)) (fun _ h9 => h9) rfl dX7_seen_107 ?_
                  refine w_icmp_ge (x := i) (y := v 6 0) hx hb dX7_seen_110 (tgt := 158) (by decide) (by omega) (by omega) (fun c110 => ?_) (fun c110 => ?_)
                  · skip
                    have e0 : i = v 6 0 := (by omega)
                    refine lv_iload hx hb dX7_seen_158 (lv_at hl 0 rfl) ?_
                    exact hret (nI (q)) (va_up v 0 (va_up (v 0) 0 (0)), c) _ _ 160 _ dX7_seen_160 rfl (by exact mx_of (MI_rd hI ⟨rfl, rfl, rfl, rfl, rfl, rfl, rfl, rfl, rfl, rfl, rfl, rfl, rfl⟩ (hsp)) (Or.inr ⟨_, _, ia, na, tky_o (c2 := cM c 2) hok h_6 h_15 (m_has h_15 h2_47) hjn rfl, rfl, ⟨j_31, by omega, rfl, Or.inr (Or.inr ⟨Nat.pos_of_ne_zero c68, fun e he => by have h9 := h_89 e he; rw [show 80 * j_6 + ia + e = j_6 * 80 + (ia + e) by omega] at h9; exact h9, by rw [h2, e0]; exact congrArg nI (dset_congr (P := (fun d => v 8 d = na ∧ ∀ e, e < na → nI (v 9 (d * 6 + e) &&& j_31) = c 4 (80 * j_6 + ia + e))) (P' := (fun d => v 8 d = na ∧ ∀ e, e < na → nI (v 9 (d * 6 + e) &&& j_31) = c 4 (j_6 * 80 + (ia + e)))) _ (fun d _ => and_congr Iff.rfl (forall_congr' (fun e => forall_congr' (fun he => by rw [show 80 * j_6 + ia + e = j_6 * 80 + (ia + e) by omega])))))⟩)⟩⟩) rfl ⟨rfl, rfl, rfl, rfl, rfl, rfl, rfl, rfl, rfl, rfl, rfl, rfl, rfl⟩) hP hD hS
                  · skip
                    refine lv_iload hx hb dX7_seen_113 (lv_at hl 0 rfl) ?_
                    refine lv_aload_n hx hb dX7_seen_115 rfl (lv_at hl 2 rfl) ?_
                    refine va_get (D := D) (ci := 7) (v := .ref (b 8)) (C := RX7) (T := TX7) (N := 24) hx hb hts hinX7 hown hK hP 0 rfl rfl 8 (by decide) (hts (.fieldLink RX7 22 "DancedLockModel" "beats" "[I") (List.mem_of_getElem? (i := 4) rfl)) (fun _ h9 => h9) rfl dX7_seen_116 ?_
                    refine lv_iload hx hb dX7_seen_119 (lv_at hl 1 rfl) ?_
                    refine w_iald (f := v 8) hx hb hK hP 5 0 rfl rfl (i := i) (by omega) (by decide) dX7_seen_121 ?_
                    refine lv_iload hx hb dX7_seen_122 (lv_at hl 7 rfl) ?_
                    refine w_icmp_ne (x := v 8 i) (y := na) hx hb dX7_seen_124 (tgt := 148) (by decide) (by have h9 := hbt i (by omega); omega) (by omega) (fun c124 => ?_) (fun c124 => ?_)
                    · skip
                      refine lv_iconst (v := nI (0)) hx hb dX7_seen_148 (by decide) ?_
                      refine w_ior (x := q) (y := 0) hx hb dX7_seen_149  ?_
                      refine lv_istore (lv' := [(8, .int (nI (q ||| 0))), (9, .int (nI (i))), (0, .ref (b 0)), (1, .int (nI (j_31))), (2, .int (nI (j_6))), (3, .int (nI (j_15))), (4, .int (nI (ia))), (5, .int (nI (na))), (6, .int (nI (0))), (7, .int (nI (80 * j_6 + ia)))]) hx hb dX7_seen_150 hl (by decide) rfl (fun ls hl => ?_)
                      refine lv_iinc (v := nI (i + 1)) (lv' := [(9, .int (nI (i + 1))), (8, .int (nI (q ||| 0))), (0, .ref (b 0)), (1, .int (nI (j_31))), (2, .int (nI (j_6))), (3, .int (nI (j_15))), (4, .int (nI (ia))), (5, .int (nI (na))), (6, .int (nI (0))), (7, .int (nI (80 * j_6 + ia)))]) hx hb dX7_seen_152 hl (k := 1) rfl (nI_add i 1) (by decide) rfl (fun ls hl => ?_)
                      refine lv_goto (tgt := 104) hx hb dX7_seen_155 (by decide) ?_
                      exact ih104 (i + 1) (q ||| 0) _ _ _ (by omega) (by omega) (by first | (rw [h2, dset_n (fun y => c124 y.1), Nat.or_zero]) | (rw [h2, dset_y ⟨c124, h_135⟩, Nat.one_mul]) | (rw [h2, dset_n (fun y => h_135 y.2), Nat.or_zero])) hP hD hS (lv_sub hl [1, 0, 2, 3, 4, 5, 6, 7, 8, 9] rfl)
                    · skip
                      refine lv_aload_n hx hb dX7_seen_127 rfl (lv_at hl 2 rfl) ?_
                      refine lv_iload hx hb dX7_seen_128 (lv_at hl 1 rfl) ?_
                      refine lv_iload_n hx hb dX7_seen_130 rfl (lv_at hl 3 rfl) ?_
                      refine lv_iload hx hb dX7_seen_131 (lv_at hl 9 rfl) ?_
                      refine lv_iload hx hb dX7_seen_133 (lv_at hl 7 rfl) ?_
                      refine w_cVi (rest := [.int (nI (q))]) hx hb hml hown hts (m_isSeen l D b cI cJ cZ A (va_up v 0 (va_up (v 0) 0 (0))) c i j_31 (80 * j_6 + ia) na  (by show MI (va_up v 0 (va_up (v 0) 0 (0))) c; exact hI) (by show i < (v 6 0); omega) (by show na ≤ (v 8) i; omega) (by omega)) 4 gX7_seen_X7_isSeen rfl hdX7_isSeen ⟨Nat.le_of_ble_eq_true rfl, Nat.le_of_ble_eq_true rfl⟩ hK hN hP hD hS hA 0 7 rfl rfl rfl rfl hl.1 rfl (Nat.le_of_ble_eq_true rfl) dX7_seen_135 ⟨Nat.le_of_ble_eq_true rfl, Nat.le_of_ble_eq_true rfl⟩ (fun r u H locs hq hP hD hS => ?_)
                      rcases hq with ⟨rfl, h_135⟩ | ⟨rfl, h_135⟩
                      · skip
                        have h_135 : ∀ e, e < na → nI ((v 9) (i * 6 + e) &&& j_31) = (c 4) ((80 * j_6 + ia) + e) := h_135
                        have hP : va_P D vwCl (mW b cI cJ cZ (va_up v 0 (va_up (v 0) 0 (0))) c) H := hP
                        have hD : va_D A (mW b cI cJ cZ (va_up v 0 (va_up (v 0) 0 (0))) c) := hD
                        refine w_if_eq (x := 1) hx hb dX7_seen_138 (tgt := 148) (by decide) (by decide) (fun h => absurd h (by decide)) (fun _ => ?_)
                        refine lv_iconst (v := nI (1)) hx hb dX7_seen_141 (by decide) ?_
                        refine lv_iload hx hb dX7_seen_142 (lv_at hl 1 rfl) ?_
                        refine w_ishl (x := 1) (y := i) hx hb dX7_seen_144 (by omega) (by have := Nat.pow_le_pow_right (show 0 < 2 by decide) (show i ≤ 7 by omega); omega) ?_
                        refine lv_goto (tgt := 149) hx hb dX7_seen_145 (by decide) ?_
                        refine w_ior (x := q) (y := 1 * 2 ^ i) hx hb dX7_seen_149  ?_
                        refine lv_istore (lv' := [(8, .int (nI (q ||| (1 * 2 ^ i)))), (9, .int (nI (i))), (0, .ref (b 0)), (1, .int (nI (j_31))), (2, .int (nI (j_6))), (3, .int (nI (j_15))), (4, .int (nI (ia))), (5, .int (nI (na))), (6, .int (nI (0))), (7, .int (nI (80 * j_6 + ia)))]) hx hb dX7_seen_150 hl (by decide) rfl (fun ls hl => ?_)
                        refine lv_iinc (v := nI (i + 1)) (lv' := [(9, .int (nI (i + 1))), (8, .int (nI (q ||| (1 * 2 ^ i)))), (0, .ref (b 0)), (1, .int (nI (j_31))), (2, .int (nI (j_6))), (3, .int (nI (j_15))), (4, .int (nI (ia))), (5, .int (nI (na))), (6, .int (nI (0))), (7, .int (nI (80 * j_6 + ia)))]) hx hb dX7_seen_152 hl (k := 1) rfl (nI_add i 1) (by decide) rfl (fun ls hl => ?_)
                        refine lv_goto (tgt := 104) hx hb dX7_seen_155 (by decide) ?_
                        exact ih104 (i + 1) (q ||| (1 * 2 ^ i)) _ _ _ (by omega) (by omega) (by first | (rw [h2, dset_n (fun y => c124 y.1), Nat.or_zero]) | (rw [h2, dset_y ⟨c124, h_135⟩, Nat.one_mul]) | (rw [h2, dset_n (fun y => h_135 y.2), Nat.or_zero])) hP hD hS (lv_sub hl [1, 0, 2, 3, 4, 5, 6, 7, 8, 9] rfl)
                      · skip
                        have h_135 : ¬ ∀ e, e < na → nI ((v 9) (i * 6 + e) &&& j_31) = (c 4) ((80 * j_6 + ia) + e) := h_135
                        have hP : va_P D vwCl (mW b cI cJ cZ (va_up v 0 (va_up (v 0) 0 (0))) c) H := hP
                        have hD : va_D A (mW b cI cJ cZ (va_up v 0 (va_up (v 0) 0 (0))) c) := hD
                        refine w_if_eq (x := 0) hx hb dX7_seen_138 (tgt := 148) (by decide) (by decide) (fun _ => ?_) (fun h => absurd h (by decide))
                        refine lv_iconst (v := nI (0)) hx hb dX7_seen_148 (by decide) ?_
                        refine w_ior (x := q) (y := 0) hx hb dX7_seen_149  ?_
                        refine lv_istore (lv' := [(8, .int (nI (q ||| 0))), (9, .int (nI (i))), (0, .ref (b 0)), (1, .int (nI (j_31))), (2, .int (nI (j_6))), (3, .int (nI (j_15))), (4, .int (nI (ia))), (5, .int (nI (na))), (6, .int (nI (0))), (7, .int (nI (80 * j_6 + ia)))]) hx hb dX7_seen_150 hl (by decide) rfl (fun ls hl => ?_)
                        refine lv_iinc (v := nI (i + 1)) (lv' := [(9, .int (nI (i + 1))), (8, .int (nI (q ||| 0))), (0, .ref (b 0)), (1, .int (nI (j_31))), (2, .int (nI (j_6))), (3, .int (nI (j_15))), (4, .int (nI (ia))), (5, .int (nI (na))), (6, .int (nI (0))), (7, .int (nI (80 * j_6 + ia)))]) hx hb dX7_seen_152 hl (k := 1) rfl (nI_add i 1) (by decide) rfl (fun ls hl => ?_)
                        refine lv_goto (tgt := 104) hx hb dX7_seen_155 (by decide) ?_
                        exact ih104 (i + 1) (q ||| 0) _ _ _ (by omega) (by omega) (by first | (rw [h2, dset_n (fun y => c124 y.1), Nat.or_zero]) | (rw [h2, dset_y ⟨c124, h_135⟩, Nat.one_mul]) | (rw [h2, dset_n (fun y => h_135 y.2), Nat.or_zero])) hP hD hS (lv_sub hl [1, 0, 2, 3, 4, 5, 6, 7, 8, 9] rfl)
              exact L104 ((v 6 0 - 0) + 1) 0 0 _ _ _ (Nat.lt_succ_self _) (by omega) (by rfl) hP hD hS (lv_sub hl [1, 0, 4, 5, 6, 7, 8, 9, 3, 2] rfl)
            · skip
              have h_89 : ¬ (∀ e, e < na → (c 4) ((80 * j_6 + ia) + e) ||| nI j_31 = nI j_31) := h_89
              have hP : va_P D vwCl (mW b cI cJ cZ (va_up v 0 (va_up (v 0) 0 (0))) c) H := hP
              have hD : va_D A (mW b cI cJ cZ (va_up v 0 (va_up (v 0) 0 (0))) c) := hD
              refine w_if_ne (x := 0) hx hb dX7_seen_92 (tgt := 98) (by decide) (by decide) (fun h => absurd h (by decide)) (fun _ => ?_)
              refine lv_bipush (v := -2) hx hb dX7_seen_95 (by decide) ?_
              exact hret ((-2)) (va_up v 0 (va_up (v 0) 0 (0)), c) _ _ 97 _ dX7_seen_97 rfl (by exact mx_of (MI_rd hI ⟨rfl, rfl, rfl, rfl, rfl, rfl, rfl, rfl, rfl, rfl, rfl, rfl, rfl⟩ (hsp)) (Or.inr ⟨_, _, ia, na, tky_o (c2 := cM c 2) hok h_6 h_15 (m_has h_15 h2_47) hjn rfl, rfl, ⟨j_31, by omega, rfl, Or.inr (Or.inl ⟨Nat.pos_of_ne_zero c68, fun y => h_89 (fun e he => by have h9 := y e he; rw [show 80 * j_6 + ia + e = j_6 * 80 + (ia + e) by omega]; exact h9), rfl⟩)⟩⟩) rfl ⟨rfl, rfl, rfl, rfl, rfl, rfl, rfl, rfl, rfl, rfl, rfl, rfl, rfl⟩) hP hD hS
          · skip
            refine lv_bipush (v := -3) hx hb dX7_seen_71 (by decide) ?_
            exact hret ((-3)) (va_up v 0 (va_up (v 0) 0 (0)), c) _ _ 73 _ dX7_seen_73 rfl (by exact mx_of (MI_rd hI ⟨rfl, rfl, rfl, rfl, rfl, rfl, rfl, rfl, rfl, rfl, rfl, rfl, rfl⟩ (hsp)) (Or.inr ⟨_, _, ia, na, tky_o (c2 := cM c 2) hok h_6 h_15 (m_has h_15 h2_47) hjn rfl, rfl, ⟨j_31, by omega, rfl, Or.inl ⟨c68, rfl⟩⟩⟩) rfl ⟨rfl, rfl, rfl, rfl, rfl, rfl, rfl, rfl, rfl, rfl, rfl, rfl, rfl⟩) hP hD hS
      · skip
        have hP : va_P D vwCl (mW b cI cJ cZ (va_up v 0 (va_up (v 0) 0 (0))) c) H := hP
        have hD : va_D A (mW b cI cJ cZ (va_up v 0 (va_up (v 0) 0 (0))) c) := hD
        refine w_if_ne (x := 0) hx hb dX7_seen_34 (tgt := 40) (by decide) (by decide) (fun h => absurd h (by decide)) (fun _ => ?_)
        refine lv_bipush (v := -2) hx hb dX7_seen_37 (by decide) ?_
        exact hret ((-2)) (va_up v 0 (va_up (v 0) 0 (0)), c) _ _ 39 _ dX7_seen_39 rfl (by exact mx_of (MI_rd hI ⟨rfl, rfl, rfl, rfl, rfl, rfl, rfl, rfl, rfl, rfl, rfl, rfl, rfl⟩ (hsp)) (Or.inl (tb_1o h_6 (fun ⟨zz, q1, q2⟩ => by rw [q2, n_tI (by omega)] at h_31; omega))) rfl ⟨rfl, rfl, rfl, rfl, rfl, rfl, rfl, rfl, rfl, rfl, rfl, rfl, rfl⟩) hP hD hS
    · skip
      have hP : va_P D vwCl (mW b cI cJ cZ (va_up v 0 (va_up (v 0) 0 (0))) c) H := hP
      have hD : va_D A (mW b cI cJ cZ (va_up v 0 (va_up (v 0) 0 (0))) c) := hD
      refine w_if_eq (x := 0) hx hb dX7_seen_18 (tgt := 37) (by decide) (by decide) (fun _ => ?_) (fun h => absurd h (by decide))
      refine lv_bipush (v := -2) hx hb dX7_seen_37 (by decide) ?_
      exact hret ((-2)) (va_up v 0 (va_up (v 0) 0 (0)), c) _ _ 39 _ dX7_seen_39 rfl (by exact mx_of (MI_rd hI ⟨rfl, rfl, rfl, rfl, rfl, rfl, rfl, rfl, rfl, rfl, rfl, rfl, rfl⟩ (hsp)) (Or.inl (tb_1 h_6 (by omega))) rfl ⟨rfl, rfl, rfl, rfl, rfl, rfl, rfl, rfl, rfl, rfl, rfl, rfl, rfl⟩) hP hD hS
  · skip
    have hP : va_P D vwCl (mW b cI cJ cZ (va_up v 0 (va_up (v 0) 0 (0))) c) H := hP
    have hD : va_D A (mW b cI cJ cZ (va_up v 0 (va_up (v 0) 0 (0))) c) := hD
    refine w_if_ne (x := 0) hx hb dX7_seen_9 (tgt := 14) (by decide) (by decide) (fun h => absurd h (by decide)) (fun _ => ?_)
    refine lv_iconst (v := -1) hx hb dX7_seen_12 (by decide) ?_
    exact hret ((-1)) (va_up v 0 (va_up (v 0) 0 (0)), c) _ _ 13 _ dX7_seen_13 rfl (by exact mx_of (MI_rd hI ⟨rfl, rfl, rfl, rfl, rfl, rfl, rfl, rfl, rfl, rfl, rfl, rfl, rfl⟩ (hsp)) (Or.inl (tb_0 (by omega))) rfl ⟨rfl, rfl, rfl, rfl, rfl, rfl, rfl, rfl, rfl, rfl, rfl, rfl, rfl⟩) hP hD hS

set_option maxHeartbeats 4000000 in
set_option maxRecDepth 100000 in
theorem s_part (l : Launch) (D : va_G) (b : Nat → Nat) (cI cJ cZ : ClassId) (A : Nat → Prop) (v : Nat → Nat → Nat) (c : Nat → Nat → Int32) (sh : Int32) (so : Int32) (ii : Int32) (qq : Int32) (hI : MI v c) :
    mI l yX7_part wsX7_part 2 46 [.ref (b 0), .int sh, .int so, .int ii, .int qq] D (xT cI cJ cZ) A (mW b cI cJ cZ v c) (fun u : ((Nat → Nat → Nat) × (Nat → Nat → Int32)) => mW b cI cJ cZ u.1 u.2)
    (fun (r : Int32) (u : ((Nat → Nat → Nat) × (Nat → Nat → Int32))) => MI u.1 u.2 ∧ ∃ F, sp_row (xNo (cM c)) (xHas (cM c)) (v 3) sh so False ii qq (fun k j n r => sp_part (xCell (cM c)) (v 5 0) (v 6 0) (v 8) (fun d k => v 9 (d * 6 + k)) k j n r) r F ∧ XS (vM v) (cM c) (vM u.1, cM u.2) F) := by
  refine w_bI cX7_part 9 .int (by decide) rfl (Nat.le_of_ble_eq_true rfl) (Or.inl rfl) ?_
  intro p e s m args below meth c0 ls Q hx hb hml hts hown hK hN hA hret hP hD hS hl
  have hl : lv_has ls 9 [(0, .ref (b 0)), (1, .int sh), (2, .int so), (3, .int ii), (4, .int qq)] := hl
  have hinX7 : ∀ w ∈ wsX70, w ∈ wsX7_part := fun w h => List.mem_cons_of_mem _ (List.mem_append_right _ h)
  obtain ⟨hnb, hnd, hbt, hfg, hne, hnc, hdk, hnf, hkn, hln, hst, hdc, hsp⟩ := MI_o hI
  have hp7 := pow_le_128 hnb
  have hp0 := Nat.two_pow_pos (v 5 0)
  refine lv_aload_n hx hb dX7_part_0 rfl (lv_at hl 0 rfl) ?_
  refine lv_iconst (v := nI (0)) hx hb dX7_part_1 (by decide) ?_
  refine va_put (D := D) (ci := 7) (v := .int (nI (0))) (ty := .int) (C := RX7) (T := TX7) (N := 24) hx hb hts hinX7 tyX7 tyX7_ok nmX7 hown hK hP hD hS 0 rfl rfl 0 (by decide) (hts (.fieldLink RX7 53 "DancedLockModel" "fault" "I") (List.mem_of_getElem? (i := 1) rfl)) (fun _ h9 => h9) rfl (by decide +kernel) rfl (rfl) (Nat.le_of_ble_eq_true rfl) dX7_part_2 (fun H locs hP hD hS => ?_)
  have hP : va_P D vwCl (mW b cI cJ cZ (va_up v 0 (va_up (v 0) 0 (0))) c) H := hP
  have hD : va_D A (mW b cI cJ cZ (va_up v 0 (va_up (v 0) 0 (0))) c) := hD
  refine lv_iload_n hx hb dX7_part_5 rfl (lv_at hl 1 rfl) ?_
  refine w_cSi (rest := []) hx hb hml hown hts (m_isSheet l D b cI cJ cZ A (va_up v 0 (va_up (v 0) 0 (0))) c sh  ) 1 gX7_part_X7_isSheet rfl hdX7_isSheet ⟨Nat.le_of_ble_eq_true rfl, Nat.le_of_ble_eq_true rfl⟩ hK hN hP hD hS hA rfl hl.1 rfl (Nat.le_of_ble_eq_true rfl) dX7_part_6 ⟨Nat.le_of_ble_eq_true rfl, Nat.le_of_ble_eq_true rfl⟩ (fun r u H locs hq hP hD hS => ?_)
  rcases hq with ⟨j_6, rfl, h_6, hs_x_6⟩ | ⟨rfl, h_6⟩
  · skip
    have hP : va_P D vwCl (mW b cI cJ cZ (va_up v 0 (va_up (v 0) 0 (0))) c) H := hP
    have hD : va_D A (mW b cI cJ cZ (va_up v 0 (va_up (v 0) 0 (0))) c) := hD
    subst hs_x_6
    have j_6T := n_tI (k := j_6) (by omega)
    refine w_if_ne (x := 1) hx hb dX7_part_9 (tgt := 14) (by decide) (by decide) (fun _ => ?_) (fun h => absurd h (by decide))
    refine lv_iload_n hx hb dX7_part_14 rfl (lv_at hl 2 rfl) ?_
    refine w_cSi (rest := []) hx hb hml hown hts (m_isSort l D b cI cJ cZ A (va_up v 0 (va_up (v 0) 0 (0))) c so  ) 1 gX7_part_X7_isSort rfl hdX7_isSort ⟨Nat.le_of_ble_eq_true rfl, Nat.le_of_ble_eq_true rfl⟩ hK hN hP hD hS hA rfl hl.1 rfl (Nat.le_of_ble_eq_true rfl) dX7_part_15 ⟨Nat.le_of_ble_eq_true rfl, Nat.le_of_ble_eq_true rfl⟩ (fun r u H locs hq hP hD hS => ?_)
    rcases hq with ⟨j_15, rfl, h_15, hs_x_15⟩ | ⟨rfl, h_15⟩
    · skip
      have hP : va_P D vwCl (mW b cI cJ cZ (va_up v 0 (va_up (v 0) 0 (0))) c) H := hP
      have hD : va_D A (mW b cI cJ cZ (va_up v 0 (va_up (v 0) 0 (0))) c) := hD
      subst hs_x_15
      have j_15T := n_tI (k := j_15) (by omega)
      refine w_if_ne (x := 1) hx hb dX7_part_18 (tgt := 24) (by decide) (by decide) (fun _ => ?_) (fun h => absurd h (by decide))
      refine lv_aload_n hx hb dX7_part_24 rfl (lv_at hl 0 rfl) ?_
      refine lv_iload_n hx hb dX7_part_25 rfl (lv_at hl 1 rfl) ?_
      refine lv_iload_n hx hb dX7_part_26 rfl (lv_at hl 2 rfl) ?_
      refine lv_iload_n hx hb dX7_part_27 rfl (lv_at hl 3 rfl) ?_
      refine lv_iload hx hb dX7_part_28 (lv_at hl 4 rfl) ?_
      refine w_cVi (rest := []) hx hb hml hown hts (m_against l D b cI cJ cZ A (va_up v 0 (va_up (v 0) 0 (0))) c j_6 j_15 ii qq  (by exact h_6) (by show (v 3) j_6 ≤ 80; exact hln _ h_6)) 4 gX7_part_X7_against rfl hdX7_against ⟨Nat.le_of_ble_eq_true rfl, Nat.le_of_ble_eq_true rfl⟩ hK hN hP hD hS hA 0 7 rfl rfl rfl rfl hl.1 rfl (Nat.le_of_ble_eq_true rfl) dX7_part_30 ⟨Nat.le_of_ble_eq_true rfl, Nat.le_of_ble_eq_true rfl⟩ (fun r u H locs hq hP hD hS => ?_)
      rcases hq with ⟨rfl, h1_30, h2_30⟩ | ⟨rfl, h1_30⟩ | ⟨rfl, h1_30, h2_30, h3_30⟩ | ⟨rfl, h1_30, h2_30, h3_30, h4_30⟩ | ⟨rfl, h1_30, h2_30, h3_30, h4_30, h5_30⟩
      · skip
        have h1_30 : ¬ (c 2) j_6 = -9 := h1_30
        have h2_30 : ¬ (c 2) j_6 = nI j_15 := h2_30
        have hP : va_P D vwCl (mW b cI cJ cZ (va_up v 0 (va_up (v 0) 0 (0))) c) H := hP
        have hD : va_D A (mW b cI cJ cZ (va_up v 0 (va_up (v 0) 0 (0))) c) := hD
        refine lv_istore (lv' := [(5, .int (nI (2))), (0, .ref (b 0)), (1, .int (nI (j_6))), (2, .int (nI (j_15))), (3, .int ii), (4, .int qq)]) hx hb dX7_part_33 hl (by decide) rfl (fun ls hl => ?_)
        refine lv_iload hx hb dX7_part_35 (lv_at hl 0 rfl) ?_
        refine w_if_eq (x := 2) hx hb dX7_part_37 (tgt := 47) (by decide) (by decide) (fun h => absurd h (by decide)) (fun _ => ?_)
        refine lv_aload_n hx hb dX7_part_40 rfl (lv_at hl 1 rfl) ?_
        refine lv_iload hx hb dX7_part_41 (lv_at hl 0 rfl) ?_
        refine w_cVi (rest := []) hx hb hml hown hts (m_fails l D b cI cJ cZ A (va_up v 0 (va_up (v 0) 0 (0))) c 2  ) 1 gX7_part_X7_fails rfl hdX7_fails ⟨Nat.le_of_ble_eq_true rfl, Nat.le_of_ble_eq_true rfl⟩ hK hN hP hD hS hA 0 7 rfl rfl rfl rfl hl.1 rfl (Nat.le_of_ble_eq_true rfl) dX7_part_43 ⟨Nat.le_of_ble_eq_true rfl, Nat.le_of_ble_eq_true rfl⟩ (fun r u H locs hq hP hD hS => ?_)
        obtain ⟨rfl, rfl⟩ := hq
        have hP : va_P D vwCl (mW b cI cJ cZ (va_up v 0 (va_up (v 0) 0 (2))) c) H := hP
        have hD : va_D A (mW b cI cJ cZ (va_up v 0 (va_up (v 0) 0 (2))) c) := hD
        exact hret ((-10) - (nI (2))) (va_up v 0 (va_up (v 0) 0 (2)), c) _ _ 46 _ dX7_part_46 rfl (by exact mx_of (MI_rd hI ⟨rfl, rfl, rfl, rfl, rfl, rfl, rfl, rfl, rfl, rfl, rfl, rfl, rfl⟩ (hsp)) (Or.inl (tbo_3 (c2 := cM c 2) id h_6 h_15 (m_nn hI h_6 h1_30) (m_hn h1_30 h2_30))) rfl ⟨rfl, rfl, rfl, rfl, rfl, rfl, rfl, rfl, rfl, rfl, rfl, rfl, rfl⟩) hP hD hS
      · skip
        have h1_30 : (c 2) j_6 = -9 := h1_30
        have hP : va_P D vwCl (mW b cI cJ cZ (va_up v 0 (va_up (v 0) 0 (0))) c) H := hP
        have hD : va_D A (mW b cI cJ cZ (va_up v 0 (va_up (v 0) 0 (0))) c) := hD
        refine lv_istore (lv' := [(5, .int (nI (1))), (0, .ref (b 0)), (1, .int (nI (j_6))), (2, .int (nI (j_15))), (3, .int ii), (4, .int qq)]) hx hb dX7_part_33 hl (by decide) rfl (fun ls hl => ?_)
        refine lv_iload hx hb dX7_part_35 (lv_at hl 0 rfl) ?_
        refine w_if_eq (x := 1) hx hb dX7_part_37 (tgt := 47) (by decide) (by decide) (fun h => absurd h (by decide)) (fun _ => ?_)
        refine lv_aload_n hx hb dX7_part_40 rfl (lv_at hl 1 rfl) ?_
        refine lv_iload hx hb dX7_part_41 (lv_at hl 0 rfl) ?_
        refine w_cVi (rest := []) hx hb hml hown hts (m_fails l D b cI cJ cZ A (va_up v 0 (va_up (v 0) 0 (0))) c 1  ) 1 gX7_part_X7_fails rfl hdX7_fails ⟨Nat.le_of_ble_eq_true rfl, Nat.le_of_ble_eq_true rfl⟩ hK hN hP hD hS hA 0 7 rfl rfl rfl rfl hl.1 rfl (Nat.le_of_ble_eq_true rfl) dX7_part_43 ⟨Nat.le_of_ble_eq_true rfl, Nat.le_of_ble_eq_true rfl⟩ (fun r u H locs hq hP hD hS => ?_)
        obtain ⟨rfl, rfl⟩ := hq
        have hP : va_P D vwCl (mW b cI cJ cZ (va_up v 0 (va_up (v 0) 0 (1))) c) H := hP
        have hD : va_D A (mW b cI cJ cZ (va_up v 0 (va_up (v 0) 0 (1))) c) := hD
        exact hret ((-10) - (nI (1))) (va_up v 0 (va_up (v 0) 0 (1)), c) _ _ 46 _ dX7_part_46 rfl (by exact mx_of (MI_rd hI ⟨rfl, rfl, rfl, rfl, rfl, rfl, rfl, rfl, rfl, rfl, rfl, rfl, rfl⟩ (hsp)) (Or.inl (tbo_2 (c2 := cM c 2) id h_6 h_15 (m_no h1_30))) rfl ⟨rfl, rfl, rfl, rfl, rfl, rfl, rfl, rfl, rfl, rfl, rfl, rfl, rfl⟩) hP hD hS
      · skip
        have h1_30 : ¬ (c 2) j_6 = -9 := h1_30
        have h2_30 : (c 2) j_6 = nI j_15 := h2_30
        have hP : va_P D vwCl (mW b cI cJ cZ (va_up v 0 (va_up (v 0) 0 (0))) c) H := hP
        have hD : va_D A (mW b cI cJ cZ (va_up v 0 (va_up (v 0) 0 (0))) c) := hD
        refine lv_istore (lv' := [(5, .int (nI (4))), (0, .ref (b 0)), (1, .int (nI (j_6))), (2, .int (nI (j_15))), (3, .int ii), (4, .int qq)]) hx hb dX7_part_33 hl (by decide) rfl (fun ls hl => ?_)
        refine lv_iload hx hb dX7_part_35 (lv_at hl 0 rfl) ?_
        refine w_if_eq (x := 4) hx hb dX7_part_37 (tgt := 47) (by decide) (by decide) (fun h => absurd h (by decide)) (fun _ => ?_)
        refine lv_aload_n hx hb dX7_part_40 rfl (lv_at hl 1 rfl) ?_
        refine lv_iload hx hb dX7_part_41 (lv_at hl 0 rfl) ?_
        refine w_cVi (rest := []) hx hb hml hown hts (m_fails l D b cI cJ cZ A (va_up v 0 (va_up (v 0) 0 (0))) c 4  ) 1 gX7_part_X7_fails rfl hdX7_fails ⟨Nat.le_of_ble_eq_true rfl, Nat.le_of_ble_eq_true rfl⟩ hK hN hP hD hS hA 0 7 rfl rfl rfl rfl hl.1 rfl (Nat.le_of_ble_eq_true rfl) dX7_part_43 ⟨Nat.le_of_ble_eq_true rfl, Nat.le_of_ble_eq_true rfl⟩ (fun r u H locs hq hP hD hS => ?_)
        obtain ⟨rfl, rfl⟩ := hq
        have hP : va_P D vwCl (mW b cI cJ cZ (va_up v 0 (va_up (v 0) 0 (4))) c) H := hP
        have hD : va_D A (mW b cI cJ cZ (va_up v 0 (va_up (v 0) 0 (4))) c) := hD
        exact hret ((-10) - (nI (4))) (va_up v 0 (va_up (v 0) 0 (4)), c) _ _ 46 _ dX7_part_46 rfl (by exact mx_of (MI_rd hI ⟨rfl, rfl, rfl, rfl, rfl, rfl, rfl, rfl, rfl, rfl, rfl, rfl, rfl⟩ (hsp)) (Or.inl (tbo_4 (c2 := cM c 2) id h_6 h_15 (m_has h_15 h2_30) h3_30)) rfl ⟨rfl, rfl, rfl, rfl, rfl, rfl, rfl, rfl, rfl, rfl, rfl, rfl, rfl⟩) hP hD hS
      · skip
        have h1_30 : ¬ (c 2) j_6 = -9 := h1_30
        have h2_30 : (c 2) j_6 = nI j_15 := h2_30
        have h4_30 : ii.toInt < 0 ∨ ((v 3) j_6 : Int) < ii.toInt + qq.toInt := h4_30
        have hP : va_P D vwCl (mW b cI cJ cZ (va_up v 0 (va_up (v 0) 0 (0))) c) H := hP
        have hD : va_D A (mW b cI cJ cZ (va_up v 0 (va_up (v 0) 0 (0))) c) := hD
        refine lv_istore (lv' := [(5, .int (nI (3))), (0, .ref (b 0)), (1, .int (nI (j_6))), (2, .int (nI (j_15))), (3, .int ii), (4, .int qq)]) hx hb dX7_part_33 hl (by decide) rfl (fun ls hl => ?_)
        refine lv_iload hx hb dX7_part_35 (lv_at hl 0 rfl) ?_
        refine w_if_eq (x := 3) hx hb dX7_part_37 (tgt := 47) (by decide) (by decide) (fun h => absurd h (by decide)) (fun _ => ?_)
        refine lv_aload_n hx hb dX7_part_40 rfl (lv_at hl 1 rfl) ?_
        refine lv_iload hx hb dX7_part_41 (lv_at hl 0 rfl) ?_
        refine w_cVi (rest := []) hx hb hml hown hts (m_fails l D b cI cJ cZ A (va_up v 0 (va_up (v 0) 0 (0))) c 3  ) 1 gX7_part_X7_fails rfl hdX7_fails ⟨Nat.le_of_ble_eq_true rfl, Nat.le_of_ble_eq_true rfl⟩ hK hN hP hD hS hA 0 7 rfl rfl rfl rfl hl.1 rfl (Nat.le_of_ble_eq_true rfl) dX7_part_43 ⟨Nat.le_of_ble_eq_true rfl, Nat.le_of_ble_eq_true rfl⟩ (fun r u H locs hq hP hD hS => ?_)
        obtain ⟨rfl, rfl⟩ := hq
        have hP : va_P D vwCl (mW b cI cJ cZ (va_up v 0 (va_up (v 0) 0 (3))) c) H := hP
        have hD : va_D A (mW b cI cJ cZ (va_up v 0 (va_up (v 0) 0 (3))) c) := hD
        exact hret ((-10) - (nI (3))) (va_up v 0 (va_up (v 0) 0 (3)), c) _ _ 46 _ dX7_part_46 rfl (by exact mx_of (MI_rd hI ⟨rfl, rfl, rfl, rfl, rfl, rfl, rfl, rfl, rfl, rfl, rfl, rfl, rfl⟩ (hsp)) (Or.inl (tbo_5 (c2 := cM c 2) id h_6 h_15 (m_has h_15 h2_30) h3_30 h4_30)) rfl ⟨rfl, rfl, rfl, rfl, rfl, rfl, rfl, rfl, rfl, rfl, rfl, rfl, rfl⟩) hP hD hS
      · skip
        have h1_30 : ¬ (c 2) j_6 = -9 := h1_30
        have h2_30 : (c 2) j_6 = nI j_15 := h2_30
        have h5_30 : ii.toInt + qq.toInt ≤ (v 3) j_6 := h5_30
        have hP : va_P D vwCl (mW b cI cJ cZ (va_up v 0 (va_up (v 0) 0 (0))) c) H := hP
        have hD : va_D A (mW b cI cJ cZ (va_up v 0 (va_up (v 0) 0 (0))) c) := hD
        refine lv_istore (lv' := [(5, .int (nI (0))), (0, .ref (b 0)), (1, .int (nI (j_6))), (2, .int (nI (j_15))), (3, .int ii), (4, .int qq)]) hx hb dX7_part_33 hl (by decide) rfl (fun ls hl => ?_)
        refine lv_iload hx hb dX7_part_35 (lv_at hl 0 rfl) ?_
        refine w_if_eq (x := 0) hx hb dX7_part_37 (tgt := 47) (by decide) (by decide) (fun _ => ?_) (fun h => absurd h (by decide))
        obtain ⟨ia, iaB, rfl⟩ := r_nat h3_30
        have iaT := n_tI iaB
        obtain ⟨na, naB, rfl⟩ := r_nat h4_30
        have naT := n_tI naB
        have hlk := hln j_6 h_6
        have hjn : ia + na ≤ v 3 j_6 := by omega
        refine lv_aload_n hx hb dX7_part_47 rfl (lv_at hl 1 rfl) ?_
        refine va_get (D := D) (ci := 7) (v := .int (nI (v 6 0))) (C := RX7) (T := TX7) (N := 24) hx hb hts hinX7 hown hK hP 0 rfl rfl 6 (by decide) (hts (.fieldLink RX7 66 "DancedLockModel" "doors" "I") (List.mem_of_getElem? (i := 2) rfl)) (fun _ h9 => h9) rfl dX7_part_48 ?_
        refine w_if_ne (x := v 6 0) hx hb dX7_part_51 (tgt := 57) (by decide) (by omega) (fun c51 => ?_) (fun c51 => ?_)
        · skip
          refine lv_bipush (v := nI (80)) hx hb dX7_part_57 (by decide) ?_
          refine lv_iload_n hx hb dX7_part_59 rfl (lv_at hl 2 rfl) ?_
          refine w_imul (x := 80) (y := j_6) hx hb dX7_part_60  ?_
          refine lv_iload_n hx hb dX7_part_61 rfl (lv_at hl 4 rfl) ?_
          refine w_iadd (x := 80 * j_6) (y := ia) hx hb dX7_part_62  ?_
          refine lv_istore (lv' := [(6, .int (nI (80 * j_6 + ia))), (5, .int (nI (0))), (0, .ref (b 0)), (1, .int (nI (j_6))), (2, .int (nI (j_15))), (3, .int (nI (ia))), (4, .int (nI (na)))]) hx hb dX7_part_63 hl (by decide) rfl (fun ls hl => ?_)
          refine lv_iload hx hb dX7_part_65 (lv_at hl 6 rfl) ?_
          refine w_if_eq (x := na) hx hb dX7_part_67 (tgt := 89) (by decide) (by omega) (fun c67 => ?_) (fun c67 => ?_)
          · skip
            refine lv_bipush (v := -2) hx hb dX7_part_89 (by decide) ?_
            exact hret ((-2)) (va_up v 0 (va_up (v 0) 0 (0)), c) _ _ 91 _ dX7_part_91 rfl (by exact mx_of (MI_rd hI ⟨rfl, rfl, rfl, rfl, rfl, rfl, rfl, rfl, rfl, rfl, rfl, rfl, rfl⟩ (hsp)) (Or.inr ⟨_, _, ia, na, tky_o (c2 := cM c 2) id h_6 h_15 (m_has h_15 h2_30) hjn rfl, rfl, Or.inr (Or.inl ⟨Nat.pos_of_ne_zero c51, Or.inl c67, rfl⟩)⟩) rfl ⟨rfl, rfl, rfl, rfl, rfl, rfl, rfl, rfl, rfl, rfl, rfl, rfl, rfl⟩) hP hD hS
          · skip
            refine lv_aload_n hx hb dX7_part_70 rfl (lv_at hl 2 rfl) ?_
            refine lv_iconst (v := nI (1)) hx hb dX7_part_71 (by decide) ?_
            refine lv_aload_n hx hb dX7_part_72 rfl (lv_at hl 2 rfl) ?_
            refine va_get (D := D) (ci := 7) (v := .int (nI (v 5 0))) (C := RX7) (T := TX7) (N := 24) hx hb hts hinX7 hown hK hP 0 rfl rfl 5 (by decide) (hts (.fieldLink RX7 63 "DancedLockModel" "boards" "I") (List.mem_of_getElem? (i := 3) rfl)) (fun _ h9 => h9) rfl dX7_part_73 ?_
            refine w_ishl (x := 1) (y := v 5 0) hx hb dX7_part_76 (by omega) (by omega) ?_
            refine lv_iconst (v := nI (1)) hx hb dX7_part_77 (by decide) ?_
            refine w_isub (x := 1 * 2 ^ (v 5 0)) (y := 1) hx hb dX7_part_78 (by omega) ?_
            rw [show (nI ((1 * 2 ^ (v 5 0)) - 1)) = (nI (2 ^ v 5 0 - 1)) from by rw [Nat.one_mul]]
            refine lv_iload hx hb dX7_part_79 (lv_at hl 0 rfl) ?_
            refine lv_iload hx hb dX7_part_81 (lv_at hl 6 rfl) ?_
            refine w_cVi (rest := []) hx hb hml hown hts (m_areWithin l D b cI cJ cZ A (va_up v 0 (va_up (v 0) 0 (0))) c (2 ^ v 5 0 - 1) (80 * j_6 + ia) na  (by omega)) 3 gX7_part_X7_areWithin rfl hdX7_areWithin ⟨Nat.le_of_ble_eq_true rfl, Nat.le_of_ble_eq_true rfl⟩ hK hN hP hD hS hA 0 7 rfl rfl rfl rfl hl.1 rfl (Nat.le_of_ble_eq_true rfl) dX7_part_83 ⟨Nat.le_of_ble_eq_true rfl, Nat.le_of_ble_eq_true rfl⟩ (fun r u H locs hq hP hD hS => ?_)
            rcases hq with ⟨rfl, h_83⟩ | ⟨rfl, h_83⟩
            · skip
              have h_83 : ∀ e, e < na → (c 4) ((80 * j_6 + ia) + e) ||| nI (2 ^ v 5 0 - 1) = nI (2 ^ v 5 0 - 1) := h_83
              have hP : va_P D vwCl (mW b cI cJ cZ (va_up v 0 (va_up (v 0) 0 (0))) c) H := hP
              have hD : va_D A (mW b cI cJ cZ (va_up v 0 (va_up (v 0) 0 (0))) c) := hD
              refine w_if_ne (x := 1) hx hb dX7_part_86 (tgt := 92) (by decide) (by decide) (fun _ => ?_) (fun h => absurd h (by decide))
              refine lv_iconst (v := nI (0)) hx hb dX7_part_92 (by decide) ?_
              refine lv_istore (lv' := [(7, .int (nI (0))), (6, .int (nI (80 * j_6 + ia))), (5, .int (nI (0))), (0, .ref (b 0)), (1, .int (nI (j_6))), (2, .int (nI (j_15))), (3, .int (nI (ia))), (4, .int (nI (na)))]) hx hb dX7_part_93 hl (by decide) rfl (fun ls hl => ?_)
              refine lv_iconst (v := nI (0)) hx hb dX7_part_95 (by decide) ?_
              refine lv_istore (lv' := [(8, .int (nI (0))), (7, .int (nI (0))), (6, .int (nI (80 * j_6 + ia))), (5, .int (nI (0))), (0, .ref (b 0)), (1, .int (nI (j_6))), (2, .int (nI (j_15))), (3, .int (nI (ia))), (4, .int (nI (na)))]) hx hb dX7_part_96 hl (by decide) rfl (fun ls hl => ?_)
              have L98 : ∀ (n : Nat) (i : Nat) (q : Nat) (H : Heap) (locs : List Loc) (ls : Array Slot), v 6 0 - i < n → (i ≤ v 6 0) → (q = dset (fun d => ∃ f1, f1 + na ≤ v 8 d ∧ ∀ e, e < na → nI (v 9 (d * 6 + (f1 + e))) = c 4 (80 * j_6 + ia + e)) i) → va_P D vwCl (mW b cI cJ cZ (va_up v 0 (va_up (v 0) 0 (0))) c) H → va_D A (mW b cI cJ cZ (va_up v 0 (va_up (v 0) 0 (0))) c) → va_S A s.heap H locs → lv_has ls 9 [(7, .int (nI (q))), (8, .int (nI (i))), (0, .ref (b 0)), (1, .int (nI (j_6))), (2, .int (nI (j_15))), (3, .int (nI (ia))), (4, .int (nI (na))), (5, .int (nI (0))), (6, .int (nI (80 * j_6 + ia)))] → W p l e { frames := 2, cells := 0, slots := 0, locals := 46 } s m args below meth c0 H locs 0 0 Q (F0 m 98 ls []) := by
                intro n
                induction n with
                | zero => intro i q H locs ls hm; exact absurd hm (Nat.not_lt_zero _)
                | succ n ih98 =>
                  intro i q H locs ls hm98 h1 h2 hP hD hS hl
                  refine lv_iload hx hb dX7_part_98 (lv_at hl 1 rfl) ?_
                  refine lv_aload_n hx hb dX7_part_100 rfl (lv_at hl 2 rfl) ?_
                  refine va_get (D := D) (ci := 7) (v := .int (nI (v 6 0))) (C := RX7) (T := TX7) (N := 24) hx hb hts hinX7 hown hK hP 0 rfl rfl 6 (by decide) (hts (.fieldLink RX7 66 "DancedLockModel" "doors" "I") (List.mem_of_getElem? (i := 2) rfl)) (fun _ h9 => h9) rfl dX7_part_101 ?_
                  refine w_icmp_ge (x := i) (y := v 6 0) hx hb dX7_part_104 (tgt := 139) (by decide) (by omega) (by omega) (fun c104 => ?_) (fun c104 => ?_)
                  · skip
                    have e0 : i = v 6 0 := (by omega)
                    refine lv_iload hx hb dX7_part_139 (lv_at hl 0 rfl) ?_
                    exact hret (nI (q)) (va_up v 0 (va_up (v 0) 0 (0)), c) _ _ 141 _ dX7_part_141 rfl (by exact mx_of (MI_rd hI ⟨rfl, rfl, rfl, rfl, rfl, rfl, rfl, rfl, rfl, rfl, rfl, rfl, rfl⟩ (hsp)) (Or.inr ⟨_, _, ia, na, tky_o (c2 := cM c 2) id h_6 h_15 (m_has h_15 h2_30) hjn rfl, rfl, Or.inr (Or.inr ⟨Nat.pos_of_ne_zero c51, c67, fun e he => by have h9 := h_83 e he; rw [show 80 * j_6 + ia + e = j_6 * 80 + (ia + e) by omega] at h9; exact h9, by rw [h2, e0]; exact congrArg nI (dset_congr (P := (fun d => ∃ f1, f1 + na ≤ v 8 d ∧ ∀ e, e < na → nI (v 9 (d * 6 + (f1 + e))) = c 4 (80 * j_6 + ia + e))) (P' := (fun d => ∃ f1, f1 + na ≤ v 8 d ∧ ∀ e, e < na → nI (v 9 (d * 6 + (f1 + e)) &&& (2 ^ v 5 0 - 1)) = c 4 (j_6 * 80 + (ia + e)))) _ (fun d hd => Iff.trans (exists_congr (fun f1 => and_congr Iff.rfl (forall_congr' (fun e => forall_congr' (fun he => by rw [show 80 * j_6 + ia + e = j_6 * 80 + (ia + e) by omega]))))) (part_iff (fun k hk => hfg d k hd hk)).symm))⟩)⟩) rfl ⟨rfl, rfl, rfl, rfl, rfl, rfl, rfl, rfl, rfl, rfl, rfl, rfl, rfl⟩) hP hD hS
                  · skip
                    refine lv_iload hx hb dX7_part_107 (lv_at hl 0 rfl) ?_
                    refine lv_aload_n hx hb dX7_part_109 rfl (lv_at hl 2 rfl) ?_
                    refine lv_iload hx hb dX7_part_110 (lv_at hl 1 rfl) ?_
                    refine lv_iload hx hb dX7_part_112 (lv_at hl 8 rfl) ?_
                    refine lv_iload hx hb dX7_part_114 (lv_at hl 6 rfl) ?_
                    refine w_cVi (rest := [.int (nI (q))]) hx hb hml hown hts (m_stands l D b cI cJ cZ A (va_up v 0 (va_up (v 0) 0 (0))) c i (80 * j_6 + ia) na  (by show MI (va_up v 0 (va_up (v 0) 0 (0))) c; exact hI) (by show i < (v 6 0); omega) (by omega) (by omega)) 3 gX7_part_X7_stands rfl hdX7_stands ⟨Nat.le_of_ble_eq_true rfl, Nat.le_of_ble_eq_true rfl⟩ hK hN hP hD hS hA 0 7 rfl rfl rfl rfl hl.1 rfl (Nat.le_of_ble_eq_true rfl) dX7_part_116 ⟨Nat.le_of_ble_eq_true rfl, Nat.le_of_ble_eq_true rfl⟩ (fun r u H locs hq hP hD hS => ?_)
                    rcases hq with ⟨rfl, h_116⟩ | ⟨rfl, h_116⟩
                    · skip
                      have h_116 : ∃ f1, f1 + na ≤ (v 8) i ∧ ∀ e, e < na → nI ((v 9) (i * 6 + (f1 + e))) = (c 4) ((80 * j_6 + ia) + e) := h_116
                      have hP : va_P D vwCl (mW b cI cJ cZ (va_up v 0 (va_up (v 0) 0 (0))) c) H := hP
                      have hD : va_D A (mW b cI cJ cZ (va_up v 0 (va_up (v 0) 0 (0))) c) := hD
                      refine w_if_eq (x := 1) hx hb dX7_part_119 (tgt := 129) (by decide) (by decide) (fun h => absurd h (by decide)) (fun _ => ?_)
                      refine lv_iconst (v := nI (1)) hx hb dX7_part_122 (by decide) ?_
                      refine lv_iload hx hb dX7_part_123 (lv_at hl 1 rfl) ?_
                      refine w_ishl (x := 1) (y := i) hx hb dX7_part_125 (by omega) (by have := Nat.pow_le_pow_right (show 0 < 2 by decide) (show i ≤ 7 by omega); omega) ?_
                      refine lv_goto (tgt := 130) hx hb dX7_part_126 (by decide) ?_
                      refine w_ior (x := q) (y := 1 * 2 ^ i) hx hb dX7_part_130  ?_
                      refine lv_istore (lv' := [(7, .int (nI (q ||| (1 * 2 ^ i)))), (8, .int (nI (i))), (0, .ref (b 0)), (1, .int (nI (j_6))), (2, .int (nI (j_15))), (3, .int (nI (ia))), (4, .int (nI (na))), (5, .int (nI (0))), (6, .int (nI (80 * j_6 + ia)))]) hx hb dX7_part_131 hl (by decide) rfl (fun ls hl => ?_)
                      refine lv_iinc (v := nI (i + 1)) (lv' := [(8, .int (nI (i + 1))), (7, .int (nI (q ||| (1 * 2 ^ i)))), (0, .ref (b 0)), (1, .int (nI (j_6))), (2, .int (nI (j_15))), (3, .int (nI (ia))), (4, .int (nI (na))), (5, .int (nI (0))), (6, .int (nI (80 * j_6 + ia)))]) hx hb dX7_part_133 hl (k := 1) rfl (nI_add i 1) (by decide) rfl (fun ls hl => ?_)
                      refine lv_goto (tgt := 98) hx hb dX7_part_136 (by decide) ?_
                      exact ih98 (i + 1) (q ||| (1 * 2 ^ i)) _ _ _ (by omega) (by omega) (by first | (rw [h2, dset_y h_116, Nat.one_mul]) | (rw [h2, dset_n h_116, Nat.or_zero])) hP hD hS (lv_sub hl [1, 0, 2, 3, 4, 5, 6, 7, 8] rfl)
                    · skip
                      have h_116 : ¬ ∃ f1, f1 + na ≤ (v 8) i ∧ ∀ e, e < na → nI ((v 9) (i * 6 + (f1 + e))) = (c 4) ((80 * j_6 + ia) + e) := h_116
                      have hP : va_P D vwCl (mW b cI cJ cZ (va_up v 0 (va_up (v 0) 0 (0))) c) H := hP
                      have hD : va_D A (mW b cI cJ cZ (va_up v 0 (va_up (v 0) 0 (0))) c) := hD
                      refine w_if_eq (x := 0) hx hb dX7_part_119 (tgt := 129) (by decide) (by decide) (fun _ => ?_) (fun h => absurd h (by decide))
                      refine lv_iconst (v := nI (0)) hx hb dX7_part_129 (by decide) ?_
                      refine w_ior (x := q) (y := 0) hx hb dX7_part_130  ?_
                      refine lv_istore (lv' := [(7, .int (nI (q ||| 0))), (8, .int (nI (i))), (0, .ref (b 0)), (1, .int (nI (j_6))), (2, .int (nI (j_15))), (3, .int (nI (ia))), (4, .int (nI (na))), (5, .int (nI (0))), (6, .int (nI (80 * j_6 + ia)))]) hx hb dX7_part_131 hl (by decide) rfl (fun ls hl => ?_)
                      refine lv_iinc (v := nI (i + 1)) (lv' := [(8, .int (nI (i + 1))), (7, .int (nI (q ||| 0))), (0, .ref (b 0)), (1, .int (nI (j_6))), (2, .int (nI (j_15))), (3, .int (nI (ia))), (4, .int (nI (na))), (5, .int (nI (0))), (6, .int (nI (80 * j_6 + ia)))]) hx hb dX7_part_133 hl (k := 1) rfl (nI_add i 1) (by decide) rfl (fun ls hl => ?_)
                      refine lv_goto (tgt := 98) hx hb dX7_part_136 (by decide) ?_
                      exact ih98 (i + 1) (q ||| 0) _ _ _ (by omega) (by omega) (by first | (rw [h2, dset_y h_116, Nat.one_mul]) | (rw [h2, dset_n h_116, Nat.or_zero])) hP hD hS (lv_sub hl [1, 0, 2, 3, 4, 5, 6, 7, 8] rfl)
              exact L98 ((v 6 0 - 0) + 1) 0 0 _ _ _ (Nat.lt_succ_self _) (by omega) (by rfl) hP hD hS (lv_sub hl [1, 0, 4, 5, 6, 7, 8, 3, 2] rfl)
            · skip
              have h_83 : ¬ (∀ e, e < na → (c 4) ((80 * j_6 + ia) + e) ||| nI (2 ^ v 5 0 - 1) = nI (2 ^ v 5 0 - 1)) := h_83
              have hP : va_P D vwCl (mW b cI cJ cZ (va_up v 0 (va_up (v 0) 0 (0))) c) H := hP
              have hD : va_D A (mW b cI cJ cZ (va_up v 0 (va_up (v 0) 0 (0))) c) := hD
              refine w_if_ne (x := 0) hx hb dX7_part_86 (tgt := 92) (by decide) (by decide) (fun h => absurd h (by decide)) (fun _ => ?_)
              refine lv_bipush (v := -2) hx hb dX7_part_89 (by decide) ?_
              exact hret ((-2)) (va_up v 0 (va_up (v 0) 0 (0)), c) _ _ 91 _ dX7_part_91 rfl (by exact mx_of (MI_rd hI ⟨rfl, rfl, rfl, rfl, rfl, rfl, rfl, rfl, rfl, rfl, rfl, rfl, rfl⟩ (hsp)) (Or.inr ⟨_, _, ia, na, tky_o (c2 := cM c 2) id h_6 h_15 (m_has h_15 h2_30) hjn rfl, rfl, Or.inr (Or.inl ⟨Nat.pos_of_ne_zero c51, Or.inr (fun y => h_83 (fun e he => by have h9 := y e he; rw [show 80 * j_6 + ia + e = j_6 * 80 + (ia + e) by omega]; exact h9)), rfl⟩)⟩) rfl ⟨rfl, rfl, rfl, rfl, rfl, rfl, rfl, rfl, rfl, rfl, rfl, rfl, rfl⟩) hP hD hS
        · skip
          refine lv_bipush (v := -3) hx hb dX7_part_54 (by decide) ?_
          exact hret ((-3)) (va_up v 0 (va_up (v 0) 0 (0)), c) _ _ 56 _ dX7_part_56 rfl (by exact mx_of (MI_rd hI ⟨rfl, rfl, rfl, rfl, rfl, rfl, rfl, rfl, rfl, rfl, rfl, rfl, rfl⟩ (hsp)) (Or.inr ⟨_, _, ia, na, tky_o (c2 := cM c 2) id h_6 h_15 (m_has h_15 h2_30) hjn rfl, rfl, Or.inl ⟨c51, rfl⟩⟩) rfl ⟨rfl, rfl, rfl, rfl, rfl, rfl, rfl, rfl, rfl, rfl, rfl, rfl, rfl⟩) hP hD hS
    · skip
      have hP : va_P D vwCl (mW b cI cJ cZ (va_up v 0 (va_up (v 0) 0 (0))) c) H := hP
      have hD : va_D A (mW b cI cJ cZ (va_up v 0 (va_up (v 0) 0 (0))) c) := hD
      refine w_if_ne (x := 0) hx hb dX7_part_18 (tgt := 24) (by decide) (by decide) (fun h => absurd h (by decide)) (fun _ => ?_)
      refine lv_bipush (v := -2) hx hb dX7_part_21 (by decide) ?_
      exact hret ((-2)) (va_up v 0 (va_up (v 0) 0 (0)), c) _ _ 23 _ dX7_part_23 rfl (by exact mx_of (MI_rd hI ⟨rfl, rfl, rfl, rfl, rfl, rfl, rfl, rfl, rfl, rfl, rfl, rfl, rfl⟩ (hsp)) (Or.inl (tb_1 h_6 (by omega))) rfl ⟨rfl, rfl, rfl, rfl, rfl, rfl, rfl, rfl, rfl, rfl, rfl, rfl, rfl⟩) hP hD hS
  · skip
    have hP : va_P D vwCl (mW b cI cJ cZ (va_up v 0 (va_up (v 0) 0 (0))) c) H := hP
    have hD : va_D A (mW b cI cJ cZ (va_up v 0 (va_up (v 0) 0 (0))) c) := hD
    refine w_if_ne (x := 0) hx hb dX7_part_9 (tgt := 14) (by decide) (by decide) (fun h => absurd h (by decide)) (fun _ => ?_)
    refine lv_iconst (v := -1) hx hb dX7_part_12 (by decide) ?_
    exact hret ((-1)) (va_up v 0 (va_up (v 0) 0 (0)), c) _ _ 13 _ dX7_part_13 rfl (by exact mx_of (MI_rd hI ⟨rfl, rfl, rfl, rfl, rfl, rfl, rfl, rfl, rfl, rfl, rfl, rfl, rfl⟩ (hsp)) (Or.inl (tb_0 (by omega))) rfl ⟨rfl, rfl, rfl, rfl, rfl, rfl, rfl, rfl, rfl, rfl, rfl, rfl, rfl⟩) hP hD hS
