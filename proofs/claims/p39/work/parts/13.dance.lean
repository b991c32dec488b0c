/-! ===== dances ===== -/
set_option maxHeartbeats 4000000 in
set_option maxRecDepth 100000 in
theorem k_callUp0 (l : Launch) (D : va_G) (a : Nat → Nat) (cI cJ cZ : ClassId) (A : Nat → Prop) (v : Nat → Nat → Nat) (c : Nat → Nat → Int32) (hnc : v 15 0 ≤ 4) (hdk : ∀ d, d < v 15 0 → v 16 d ≤ 2 ∧ 1 ≤ v 17 d ∧ v 17 d ≤ 9) :
    mV l yX0_callUp wsX0_callUp 2 42 [.ref (a 10), .int (nI 0)] D (xT cI cJ cZ) A (xW a cI cJ cZ v c) (fun u : ((Nat → Nat → Nat) × (Nat → Nat → Int32)) => xW a cI cJ cZ u.1 u.2)
    (fun (u : ((Nat → Nat → Nat) × (Nat → Nat → Int32))) => ∃ g20 : Nat → Nat, ∃ g21 : Nat → Nat, u = (va_up (va_up (va_up v 10 (va_up (v 10) 6 (v 15 0))) 20 (g20)) 21 (g21), c) ∧ (∀ d, d < v 15 0 → g20 d = pA (v 16) (v 17) d ∧ g21 d = lA (v 16) d)) := by
  refine w_bV cX0_callUp 4 (by decide) rfl (Nat.le_of_ble_eq_true rfl) ?_
  intro p e s m args below meth c0 ls Q hx hb hml hts hown hK hN hA hret hP hD hS hl
  have hl : lv_has ls 4 [(0, .ref (a 10)), (1, .int (nI (0)))] := hl
  have hinX0 : ∀ w ∈ wsX00, w ∈ wsX0_callUp := fun w h => List.mem_cons_of_mem _ (List.mem_append_left _ (List.mem_append_right _ h))
  have hinX5 : ∀ w ∈ wsX50, w ∈ wsX0_callUp := fun w h => List.mem_cons_of_mem _ (List.mem_append_right _ h)
  refine lv_aload_n hx hb dX0_callUp_0 rfl (lv_at hl 0 rfl) ?_
  refine lv_aload_n hx hb dX0_callUp_1 rfl (lv_at hl 0 rfl) ?_
  refine va_get (D := D) (ci := 0) (v := .ref (a 15)) (C := RX0) (T := TX0) (N := 8) hx hb hts hinX0 hown hK hP 10 rfl rfl 1 (by decide) (hts (.fieldLink RX0 21 "DancedLock$Dance" "troupe" "LDancedLock$Troupe;") (List.mem_of_getElem? (i := 1) rfl)) (fun _ h9 => h9) rfl dX0_callUp_2 ?_
  refine va_getN (D := D) (ci := 5) (v := .int (nI (v 15 0))) (C := RX5) (T := TX5) (N := 3) hx hb hts hinX5 hown hK hP 15 rfl rfl 0 (by decide) (va_Nw.use rfl (hN (.fieldLinkNest RX0 43 "DancedLock$Troupe" "count" "I" "DancedLock") (List.mem_of_getElem? (i := 6) rfl))) (fun _ h9 => h9) rfl dX0_callUp_5 ?_
  refine lv_iconst (v := nI (4)) hx hb dX0_callUp_8 (by decide) ?_
  refine w_mmin (x := v 15 0) (y := 4) (rest := [.ref (a 10)]) hx hb (hml.trans hl.1.symm) (own := RX0) hown (hts (.methodLink RX0 47 Lib.Math.min.name) (List.mem_of_getElem? (i := 2) rfl)) (hts (.static Lib.Math.min.name) (List.mem_of_getElem? (i := 3) rfl)) (hts (.initialized "java/lang/Math") (List.mem_of_getElem? (i := 4) rfl)) (hts (.code Lib.Math.min.name Lib.Math.min.code 2 (some .int)) (List.mem_of_getElem? (i := 5) rfl)) (Nat.le_of_ble_eq_true rfl) (Nat.le_of_ble_eq_true rfl) (Nat.le_of_ble_eq_true rfl) (Nat.le_of_ble_eq_true rfl) (by omega) (by omega) dX0_callUp_9 ?_
  rw [show (nI (min (v 15 0) 4)) = (nI (v 15 0)) from by rw [Nat.min_eq_left hnc]]
  refine va_put (D := D) (ci := 0) (v := .int (nI (v 15 0))) (ty := .int) (C := RX0) (T := TX0) (N := 8) hx hb hts hinX0 tyX0 tyX0_ok nmX0 hown hK hP hD hS 10 rfl rfl 6 (by decide) (hts (.fieldLink RX0 53 "DancedLock$Dance" "dancers" "I") (List.mem_of_getElem? (i := 6) rfl)) (fun _ h9 => h9) rfl (by decide +kernel) rfl (rfl) (Nat.le_of_ble_eq_true rfl) dX0_callUp_12 (fun H locs hP hD hS => ?_)
  have hP : va_P D vwCl (xW a cI cJ cZ (va_up v 10 (va_up (v 10) 6 (v 15 0))) c) H := hP
  have hD : va_D A (xW a cI cJ cZ (va_up v 10 (va_up (v 10) 6 (v 15 0))) c) := hD
  refine lv_iconst (v := nI (0)) hx hb dX0_callUp_15 (by decide) ?_
  refine lv_istore_n (lv' := [(2, .int (nI (0))), (0, .ref (a 10)), (1, .int (nI (0)))]) hx hb dX0_callUp_16 rfl hl (by decide) rfl (fun ls hl => ?_)
  have L17 : ∀ (n : Nat) (i : Nat) (g20 : Nat → Nat) (g21 : Nat → Nat) (H : Heap) (locs : List Loc) (ls : Array Slot), v 15 0 - i < n → (i ≤ v 15 0) → (∀ d, d < i → g20 d = pA (v 16) (v 17) d ∧ g21 d = lA (v 16) d) → va_P D vwCl (xW a cI cJ cZ (va_up (va_up (va_up v 10 (va_up (v 10) 6 (v 15 0))) 20 (g20)) 21 (g21)) c) H → va_D A (xW a cI cJ cZ (va_up (va_up (va_up v 10 (va_up (v 10) 6 (v 15 0))) 20 (g20)) 21 (g21)) c) → va_S A s.heap H locs → lv_has ls 4 [(2, .int (nI (i))), (0, .ref (a 10)), (1, .int (nI (0)))] → W p l e { frames := 2, cells := 0, slots := 0, locals := 42 } s m args below meth c0 H locs 0 0 Q (F0 m 17 ls []) := by
    intro n
    induction n with
    | zero => intro i g20 g21 H locs ls hm; exact absurd hm (Nat.not_lt_zero _)
    | succ n ih17 =>
      intro i g20 g21 H locs ls hm17 h1 h2 hP hD hS hl
      refine lv_iload_n hx hb dX0_callUp_17 rfl (lv_at hl 0 rfl) ?_
      refine lv_aload_n hx hb dX0_callUp_18 rfl (lv_at hl 1 rfl) ?_
      refine va_get (D := D) (ci := 0) (v := .int (nI (v 15 0))) (C := RX0) (T := TX0) (N := 8) hx hb hts hinX0 hown hK hP 10 rfl rfl 6 (by decide) (hts (.fieldLink RX0 53 "DancedLock$Dance" "dancers" "I") (List.mem_of_getElem? (i := 6) rfl)) (fun _ h9 => h9) rfl dX0_callUp_19 ?_
      refine w_icmp_ge (x := i) (y := v 15 0) hx hb dX0_callUp_22 (tgt := 82) (by decide) (by omega) (by omega) (fun c22 => ?_) (fun c22 => ?_)
      · skip
        exact hret (va_up (va_up (va_up v 10 (va_up (v 10) 6 (v 15 0))) 20 (g20)) 21 (g21), c) _ _ 82 _ dX0_callUp_82 (by have e : i = v 15 0 := (by omega); subst e; exact ⟨g20, g21, rfl, h2⟩) hP hD hS
      · skip
        have hdi := hdk i (by omega)
        refine lv_iload_n hx hb dX0_callUp_25 rfl (lv_at hl 2 rfl) ?_
        refine w_if_eq (x := 0) hx hb dX0_callUp_26 (tgt := 33) (by decide) (by decide) (fun _ => ?_) (fun h => absurd h (by decide))
        refine lv_aload_n hx hb dX0_callUp_33 rfl (lv_at hl 1 rfl) ?_
        refine va_get (D := D) (ci := 0) (v := .ref (a 15)) (C := RX0) (T := TX0) (N := 8) hx hb hts hinX0 hown hK hP 10 rfl rfl 1 (by decide) (hts (.fieldLink RX0 21 "DancedLock$Dance" "troupe" "LDancedLock$Troupe;") (List.mem_of_getElem? (i := 1) rfl)) (fun _ h9 => h9) rfl dX0_callUp_34 ?_
        refine lv_iload_n hx hb dX0_callUp_37 rfl (lv_at hl 0 rfl) ?_
        refine w_cVi (rest := []) hx hb hml hown hts (k_kindOf l D a cI cJ cZ A (va_up (va_up (va_up v 10 (va_up (v 10) 6 (v 15 0))) 20 (g20)) 21 (g21)) c i  (by first | assumption | omega) (by first | assumption | omega)) 1 gX0_callUp_X5_kindOf rfl hdX5_kindOf ⟨Nat.le_of_ble_eq_true rfl, Nat.le_of_ble_eq_true rfl⟩ hK hN hP hD hS hA 15 5 rfl rfl rfl rfl hl.1 rfl (Nat.le_of_ble_eq_true rfl) dX0_callUp_38 ⟨Nat.le_of_ble_eq_true rfl, Nat.le_of_ble_eq_true rfl⟩ (fun r u H locs hq hP hD hS => ?_)
        have hr_38 := hq
        have hr_38 : r = nI ((v 16) i) := hr_38
        subst hr_38
        have hP : va_P D vwCl (xW a cI cJ cZ (va_up (va_up (va_up v 10 (va_up (v 10) 6 (v 15 0))) 20 (g20)) 21 (g21)) c) H := hP
        have hD : va_D A (xW a cI cJ cZ (va_up (va_up (va_up v 10 (va_up (v 10) 6 (v 15 0))) 20 (g20)) 21 (g21)) c) := hD
        refine lv_istore_n (lv' := [(3, .int (nI ((v 16) i))), (2, .int (nI (i))), (0, .ref (a 10)), (1, .int (nI (0)))]) hx hb dX0_callUp_41 rfl hl (by decide) rfl (fun ls hl => ?_)
        refine lv_aload_n hx hb dX0_callUp_42 rfl (lv_at hl 2 rfl) ?_
        refine va_get (D := D) (ci := 0) (v := .ref (a 20)) (C := RX0) (T := TX0) (N := 8) hx hb hts hinX0 hown hK hP 10 rfl rfl 4 (by decide) (hts (.fieldLink RX0 32 "DancedLock$Dance" "pulls" "[I") (List.mem_of_getElem? (i := 7) rfl)) (fun _ h9 => h9) rfl dX0_callUp_43 ?_
        refine lv_iload_n hx hb dX0_callUp_46 rfl (lv_at hl 1 rfl) ?_
        refine lv_iload_n hx hb dX0_callUp_47 rfl (lv_at hl 0 rfl) ?_
        refine lv_aload_n hx hb dX0_callUp_48 rfl (lv_at hl 2 rfl) ?_
        refine va_get (D := D) (ci := 0) (v := .ref (a 15)) (C := RX0) (T := TX0) (N := 8) hx hb hts hinX0 hown hK hP 10 rfl rfl 1 (by decide) (hts (.fieldLink RX0 21 "DancedLock$Dance" "troupe" "LDancedLock$Troupe;") (List.mem_of_getElem? (i := 1) rfl)) (fun _ h9 => h9) rfl dX0_callUp_49 ?_
        refine lv_iload_n hx hb dX0_callUp_52 rfl (lv_at hl 1 rfl) ?_
        refine w_cVi (rest := [.int (nI ((v 16) i)), .int (nI (i)), .ref (a 20)]) hx hb hml hown hts (k_weightOf l D a cI cJ cZ A (va_up (va_up (va_up v 10 (va_up (v 10) 6 (v 15 0))) 20 (g20)) 21 (g21)) c i  (by first | assumption | omega) (by first | assumption | omega)) 1 gX0_callUp_X5_weightOf rfl hdX5_weightOf ⟨Nat.le_of_ble_eq_true rfl, Nat.le_of_ble_eq_true rfl⟩ hK hN hP hD hS hA 15 5 rfl rfl rfl rfl hl.1 rfl (Nat.le_of_ble_eq_true rfl) dX0_callUp_53 ⟨Nat.le_of_ble_eq_true rfl, Nat.le_of_ble_eq_true rfl⟩ (fun r u H locs hq hP hD hS => ?_)
        have hr_53 := hq
        have hr_53 : r = nI ((v 17) i) := hr_53
        subst hr_53
        have hP : va_P D vwCl (xW a cI cJ cZ (va_up (va_up (va_up v 10 (va_up (v 10) 6 (v 15 0))) 20 (g20)) 21 (g21)) c) H := hP
        have hD : va_D A (xW a cI cJ cZ (va_up (va_up (va_up v 10 (va_up (v 10) 6 (v 15 0))) 20 (g20)) 21 (g21)) c) := hD
        refine w_cSi (rest := [.int (nI (i)), .ref (a 20)]) hx hb hml hown hts (k_pull l D a cI cJ cZ A (va_up (va_up (va_up v 10 (va_up (v 10) 6 (v 15 0))) 20 (g20)) 21 (g21)) c ((v 16) i) ((v 17) i)  (by first | assumption | omega) (by first | assumption | omega)) 2 gX0_callUp_X5_pull rfl hdX5_pull ⟨Nat.le_of_ble_eq_true rfl, Nat.le_of_ble_eq_true rfl⟩ hK hN hP hD hS hA rfl hl.1 rfl (Nat.le_of_ble_eq_true rfl) dX0_callUp_56 ⟨Nat.le_of_ble_eq_true rfl, Nat.le_of_ble_eq_true rfl⟩ (fun r u H locs hq hP hD hS => ?_)
        obtain rfl := hq
        have hP : va_P D vwCl (xW a cI cJ cZ (va_up (va_up (va_up v 10 (va_up (v 10) 6 (v 15 0))) 20 (g20)) 21 (g21)) c) H := hP
        have hD : va_D A (xW a cI cJ cZ (va_up (va_up (va_up v 10 (va_up (v 10) 6 (v 15 0))) 20 (g20)) 21 (g21)) c) := hD
        refine w_iast (f := g20) (w := if ((v 16) i) = 2 then ((v 17) i) / 2 else ((v 17) i)) hx hb hK hP hD hS 20 0 rfl rfl (i := i) (by omega) (by decide) dX0_callUp_59 (fun H locs hP hD hS => ?_)
        have hP : va_P D vwCl (xW a cI cJ cZ (va_up (va_up (va_up v 10 (va_up (v 10) 6 (v 15 0))) 20 (va_up g20 i (if ((v 16) i) = 2 then ((v 17) i) / 2 else ((v 17) i)))) 21 (g21)) c) H := hP
        have hD : va_D A (xW a cI cJ cZ (va_up (va_up (va_up v 10 (va_up (v 10) 6 (v 15 0))) 20 (va_up g20 i (if ((v 16) i) = 2 then ((v 17) i) / 2 else ((v 17) i)))) 21 (g21)) c) := hD
        refine lv_aload_n hx hb dX0_callUp_60 rfl (lv_at hl 2 rfl) ?_
        refine va_get (D := D) (ci := 0) (v := .ref (a 21)) (C := RX0) (T := TX0) (N := 8) hx hb hts hinX0 hown hK hP 10 rfl rfl 5 (by decide) (hts (.fieldLink RX0 35 "DancedLock$Dance" "limping" "[Z") (List.mem_of_getElem? (i := 8) rfl)) (fun _ h9 => h9) rfl dX0_callUp_61 ?_
        refine lv_iload_n hx hb dX0_callUp_64 rfl (lv_at hl 1 rfl) ?_
        refine lv_iload_n hx hb dX0_callUp_65 rfl (lv_at hl 0 rfl) ?_
        refine lv_iconst (v := nI (1)) hx hb dX0_callUp_66 (by decide) ?_
        refine w_icmp_lt (x := (v 16) i) (y := 1) hx hb dX0_callUp_67 (tgt := 74) (by decide) (by omega) (by omega) (fun c67 => ?_) (fun c67 => ?_)
        · skip
          refine lv_iconst (v := nI (0)) hx hb dX0_callUp_74 (by decide) ?_
          refine w_zast (f := g21) (w := 0) hx hb hK hP hD hS 21 2 rfl rfl (i := i) (by omega) (by decide) (by decide) dX0_callUp_75 (fun H locs hP hD hS => ?_)
          have hP : va_P D vwCl (xW a cI cJ cZ (va_up (va_up (va_up v 10 (va_up (v 10) 6 (v 15 0))) 20 (va_up g20 i (if ((v 16) i) = 2 then ((v 17) i) / 2 else ((v 17) i)))) 21 (va_up g21 i 0)) c) H := hP
          have hD : va_D A (xW a cI cJ cZ (va_up (va_up (va_up v 10 (va_up (v 10) 6 (v 15 0))) 20 (va_up g20 i (if ((v 16) i) = 2 then ((v 17) i) / 2 else ((v 17) i)))) 21 (va_up g21 i 0)) c) := hD
          refine lv_iinc (v := nI (i + 1)) (lv' := [(2, .int (nI (i + 1))), (3, .int (nI ((v 16) i))), (0, .ref (a 10)), (1, .int (nI (0)))]) hx hb dX0_callUp_76 hl (k := 1) rfl (nI_add i 1) (by decide) rfl (fun ls hl => ?_)
          refine lv_goto (tgt := 17) hx hb dX0_callUp_79 (by decide) ?_
          exact ih17 (i + 1) (va_up g20 i (if ((v 16) i) = 2 then ((v 17) i) / 2 else ((v 17) i))) (va_up g21 i 0) _ _ _ (by omega) (by omega) (by exact up2_s h2 (by first | rfl | (show _ = (if _ then _ else _); rfl)) (by first | rfl | (show _ = (if _ then _ else _); first | rw [if_pos (by omega)] | rw [if_neg (by omega)]))) hP hD hS (lv_sub hl [0, 2, 3] rfl)
        · skip
          refine lv_iconst (v := nI (1)) hx hb dX0_callUp_70 (by decide) ?_
          refine lv_goto (tgt := 75) hx hb dX0_callUp_71 (by decide) ?_
          refine w_zast (f := g21) (w := 1) hx hb hK hP hD hS 21 2 rfl rfl (i := i) (by omega) (by decide) (by decide) dX0_callUp_75 (fun H locs hP hD hS => ?_)
          have hP : va_P D vwCl (xW a cI cJ cZ (va_up (va_up (va_up v 10 (va_up (v 10) 6 (v 15 0))) 20 (va_up g20 i (if ((v 16) i) = 2 then ((v 17) i) / 2 else ((v 17) i)))) 21 (va_up g21 i 1)) c) H := hP
          have hD : va_D A (xW a cI cJ cZ (va_up (va_up (va_up v 10 (va_up (v 10) 6 (v 15 0))) 20 (va_up g20 i (if ((v 16) i) = 2 then ((v 17) i) / 2 else ((v 17) i)))) 21 (va_up g21 i 1)) c) := hD
          refine lv_iinc (v := nI (i + 1)) (lv' := [(2, .int (nI (i + 1))), (3, .int (nI ((v 16) i))), (0, .ref (a 10)), (1, .int (nI (0)))]) hx hb dX0_callUp_76 hl (k := 1) rfl (nI_add i 1) (by decide) rfl (fun ls hl => ?_)
          refine lv_goto (tgt := 17) hx hb dX0_callUp_79 (by decide) ?_
          exact ih17 (i + 1) (va_up g20 i (if ((v 16) i) = 2 then ((v 17) i) / 2 else ((v 17) i))) (va_up g21 i 1) _ _ _ (by omega) (by omega) (by exact up2_s h2 (by first | rfl | (show _ = (if _ then _ else _); rfl)) (by first | rfl | (show _ = (if _ then _ else _); first | rw [if_pos (by omega)] | rw [if_neg (by omega)]))) hP hD hS (lv_sub hl [0, 2, 3] rfl)
  exact L17 ((v 15 0 - 0) + 1) 0 (v 20) (v 21) _ _ _ (Nat.lt_succ_self _) (by omega) (by exact fun d hd => absurd hd (Nat.not_lt_zero _)) hP hD hS (lv_sub hl [0, 1, 2] rfl)

set_option maxHeartbeats 4000000 in
set_option maxRecDepth 100000 in
theorem k_callUp1 (l : Launch) (D : va_G) (a : Nat → Nat) (cI cJ cZ : ClassId) (A : Nat → Prop) (v : Nat → Nat → Nat) (c : Nat → Nat → Int32) (hnc : v 15 0 ≤ 4) (hdk : ∀ d, d < v 15 0 → v 16 d ≤ 2 ∧ 1 ≤ v 17 d ∧ v 17 d ≤ 9) :
    mV l yX0_callUp wsX0_callUp 2 42 [.ref (a 10), .int (nI 1)] D (xT cI cJ cZ) A (xW a cI cJ cZ v c) (fun u : ((Nat → Nat → Nat) × (Nat → Nat → Int32)) => xW a cI cJ cZ u.1 u.2)
    (fun (u : ((Nat → Nat → Nat) × (Nat → Nat → Int32))) => ∃ g20 : Nat → Nat, ∃ g21 : Nat → Nat, u = (va_up (va_up (va_up v 10 (va_up (v 10) 6 (v 15 0))) 20 (g20)) 21 (g21), c) ∧ (∀ d, d < v 15 0 → g20 d = v 17 d ∧ g21 d = (fun _ => 0) d)) := by
  refine w_bV cX0_callUp 4 (by decide) rfl (Nat.le_of_ble_eq_true rfl) ?_
  intro p e s m args below meth c0 ls Q hx hb hml hts hown hK hN hA hret hP hD hS hl
  have hl : lv_has ls 4 [(0, .ref (a 10)), (1, .int (nI (1)))] := hl
  have hinX0 : ∀ w ∈ wsX00, w ∈ wsX0_callUp := fun w h => List.mem_cons_of_mem _ (List.mem_append_left _ (List.mem_append_right _ h))
  have hinX5 : ∀ w ∈ wsX50, w ∈ wsX0_callUp := fun w h => List.mem_cons_of_mem _ (List.mem_append_right _ h)
  refine lv_aload_n hx hb dX0_callUp_0 rfl (lv_at hl 0 rfl) ?_
  refine lv_aload_n hx hb dX0_callUp_1 rfl (lv_at hl 0 rfl) ?_
  refine va_get (D := D) (ci := 0) (v := .ref (a 15)) (C := RX0) (T := TX0) (N := 8) hx hb hts hinX0 hown hK hP 10 rfl rfl 1 (by decide) (hts (.fieldLink RX0 21 "DancedLock$Dance" "troupe" "LDancedLock$Troupe;") (List.mem_of_getElem? (i := 1) rfl)) (fun _ h9 => h9) rfl dX0_callUp_2 ?_
  refine va_getN (D := D) (ci := 5) (v := .int (nI (v 15 0))) (C := RX5) (T := TX5) (N := 3) hx hb hts hinX5 hown hK hP 15 rfl rfl 0 (by decide) (va_Nw.use rfl (hN (.fieldLinkNest RX0 43 "DancedLock$Troupe" "count" "I" "DancedLock") (List.mem_of_getElem? (i := 6) rfl))) (fun _ h9 => h9) rfl dX0_callUp_5 ?_
  refine lv_iconst (v := nI (4)) hx hb dX0_callUp_8 (by decide) ?_
  refine w_mmin (x := v 15 0) (y := 4) (rest := [.ref (a 10)]) hx hb (hml.trans hl.1.symm) (own := RX0) hown (hts (.methodLink RX0 47 Lib.Math.min.name) (List.mem_of_getElem? (i := 2) rfl)) (hts (.static Lib.Math.min.name) (List.mem_of_getElem? (i := 3) rfl)) (hts (.initialized "java/lang/Math") (List.mem_of_getElem? (i := 4) rfl)) (hts (.code Lib.Math.min.name Lib.Math.min.code 2 (some .int)) (List.mem_of_getElem? (i := 5) rfl)) (Nat.le_of_ble_eq_true rfl) (Nat.le_of_ble_eq_true rfl) (Nat.le_of_ble_eq_true rfl) (Nat.le_of_ble_eq_true rfl) (by omega) (by omega) dX0_callUp_9 ?_
  rw [show (nI (min (v 15 0) 4)) = (nI (v 15 0)) from by rw [Nat.min_eq_left hnc]]
  refine va_put (D := D) (ci := 0) (v := .int (nI (v 15 0))) (ty := .int) (C := RX0) (T := TX0) (N := 8) hx hb hts hinX0 tyX0 tyX0_ok nmX0 hown hK hP hD hS 10 rfl rfl 6 (by decide) (hts (.fieldLink RX0 53 "DancedLock$Dance" "dancers" "I") (List.mem_of_getElem? (i := 6) rfl)) (fun _ h9 => h9) rfl (by decide +kernel) rfl (rfl) (Nat.le_of_ble_eq_true rfl) dX0_callUp_12 (fun H locs hP hD hS => ?_)
  have hP : va_P D vwCl (xW a cI cJ cZ (va_up v 10 (va_up (v 10) 6 (v 15 0))) c) H := hP
  have hD : va_D A (xW a cI cJ cZ (va_up v 10 (va_up (v 10) 6 (v 15 0))) c) := hD
  refine lv_iconst (v := nI (0)) hx hb dX0_callUp_15 (by decide) ?_
  refine lv_istore_n (lv' := [(2, .int (nI (0))), (0, .ref (a 10)), (1, .int (nI (1)))]) hx hb dX0_callUp_16 rfl hl (by decide) rfl (fun ls hl => ?_)
  have L17 : ∀ (n : Nat) (i : Nat) (g20 : Nat → Nat) (g21 : Nat → Nat) (H : Heap) (locs : List Loc) (ls : Array Slot), v 15 0 - i < n → (i ≤ v 15 0) → (∀ d, d < i → g20 d = v 17 d ∧ g21 d = (fun _ => 0) d) → va_P D vwCl (xW a cI cJ cZ (va_up (va_up (va_up v 10 (va_up (v 10) 6 (v 15 0))) 20 (g20)) 21 (g21)) c) H → va_D A (xW a cI cJ cZ (va_up (va_up (va_up v 10 (va_up (v 10) 6 (v 15 0))) 20 (g20)) 21 (g21)) c) → va_S A s.heap H locs → lv_has ls 4 [(2, .int (nI (i))), (0, .ref (a 10)), (1, .int (nI (1)))] → W p l e { frames := 2, cells := 0, slots := 0, locals := 42 } s m args below meth c0 H locs 0 0 Q (F0 m 17 ls []) := by
    intro n
    induction n with
    | zero => intro i g20 g21 H locs ls hm; exact absurd hm (Nat.not_lt_zero _)
    | succ n ih17 =>
      intro i g20 g21 H locs ls hm17 h1 h2 hP hD hS hl
      refine lv_iload_n hx hb dX0_callUp_17 rfl (lv_at hl 0 rfl) ?_
      refine lv_aload_n hx hb dX0_callUp_18 rfl (lv_at hl 1 rfl) ?_
      refine va_get (D := D) (ci := 0) (v := .int (nI (v 15 0))) (C := RX0) (T := TX0) (N := 8) hx hb hts hinX0 hown hK hP 10 rfl rfl 6 (by decide) (hts (.fieldLink RX0 53 "DancedLock$Dance" "dancers" "I") (List.mem_of_getElem? (i := 6) rfl)) (fun _ h9 => h9) rfl dX0_callUp_19 ?_
      refine w_icmp_ge (x := i) (y := v 15 0) hx hb dX0_callUp_22 (tgt := 82) (by decide) (by omega) (by omega) (fun c22 => ?_) (fun c22 => ?_)
      · skip
        exact hret (va_up (va_up (va_up v 10 (va_up (v 10) 6 (v 15 0))) 20 (g20)) 21 (g21), c) _ _ 82 _ dX0_callUp_82 (by have e : i = v 15 0 := (by omega); subst e; exact ⟨g20, g21, rfl, h2⟩) hP hD hS
      · skip
        have hdi := hdk i (by omega)
        refine lv_iload_n hx hb dX0_callUp_25 rfl (lv_at hl 2 rfl) ?_
        refine w_if_eq (x := 1) hx hb dX0_callUp_26 (tgt := 33) (by decide) (by decide) (fun h => absurd h (by decide)) (fun _ => ?_)
        refine lv_iconst (v := nI (0)) hx hb dX0_callUp_29 (by decide) ?_
        refine lv_goto (tgt := 41) hx hb dX0_callUp_30 (by decide) ?_
        refine lv_istore_n (lv' := [(3, .int (nI (0))), (2, .int (nI (i))), (0, .ref (a 10)), (1, .int (nI (1)))]) hx hb dX0_callUp_41 rfl hl (by decide) rfl (fun ls hl => ?_)
        refine lv_aload_n hx hb dX0_callUp_42 rfl (lv_at hl 2 rfl) ?_
        refine va_get (D := D) (ci := 0) (v := .ref (a 20)) (C := RX0) (T := TX0) (N := 8) hx hb hts hinX0 hown hK hP 10 rfl rfl 4 (by decide) (hts (.fieldLink RX0 32 "DancedLock$Dance" "pulls" "[I") (List.mem_of_getElem? (i := 7) rfl)) (fun _ h9 => h9) rfl dX0_callUp_43 ?_
        refine lv_iload_n hx hb dX0_callUp_46 rfl (lv_at hl 1 rfl) ?_
        refine lv_iload_n hx hb dX0_callUp_47 rfl (lv_at hl 0 rfl) ?_
        refine lv_aload_n hx hb dX0_callUp_48 rfl (lv_at hl 2 rfl) ?_
        refine va_get (D := D) (ci := 0) (v := .ref (a 15)) (C := RX0) (T := TX0) (N := 8) hx hb hts hinX0 hown hK hP 10 rfl rfl 1 (by decide) (hts (.fieldLink RX0 21 "DancedLock$Dance" "troupe" "LDancedLock$Troupe;") (List.mem_of_getElem? (i := 1) rfl)) (fun _ h9 => h9) rfl dX0_callUp_49 ?_
        refine lv_iload_n hx hb dX0_callUp_52 rfl (lv_at hl 1 rfl) ?_
        refine w_cVi (rest := [.int (nI (0)), .int (nI (i)), .ref (a 20)]) hx hb hml hown hts (k_weightOf l D a cI cJ cZ A (va_up (va_up (va_up v 10 (va_up (v 10) 6 (v 15 0))) 20 (g20)) 21 (g21)) c i  (by first | assumption | omega) (by first | assumption | omega)) 1 gX0_callUp_X5_weightOf rfl hdX5_weightOf ⟨Nat.le_of_ble_eq_true rfl, Nat.le_of_ble_eq_true rfl⟩ hK hN hP hD hS hA 15 5 rfl rfl rfl rfl hl.1 rfl (Nat.le_of_ble_eq_true rfl) dX0_callUp_53 ⟨Nat.le_of_ble_eq_true rfl, Nat.le_of_ble_eq_true rfl⟩ (fun r u H locs hq hP hD hS => ?_)
        have hr_53 := hq
        have hr_53 : r = nI ((v 17) i) := hr_53
        subst hr_53
        have hP : va_P D vwCl (xW a cI cJ cZ (va_up (va_up (va_up v 10 (va_up (v 10) 6 (v 15 0))) 20 (g20)) 21 (g21)) c) H := hP
        have hD : va_D A (xW a cI cJ cZ (va_up (va_up (va_up v 10 (va_up (v 10) 6 (v 15 0))) 20 (g20)) 21 (g21)) c) := hD
        refine w_cSi (rest := [.int (nI (i)), .ref (a 20)]) hx hb hml hown hts (k_pull l D a cI cJ cZ A (va_up (va_up (va_up v 10 (va_up (v 10) 6 (v 15 0))) 20 (g20)) 21 (g21)) c 0 ((v 17) i)  (by first | assumption | omega) (by first | assumption | omega)) 2 gX0_callUp_X5_pull rfl hdX5_pull ⟨Nat.le_of_ble_eq_true rfl, Nat.le_of_ble_eq_true rfl⟩ hK hN hP hD hS hA rfl hl.1 rfl (Nat.le_of_ble_eq_true rfl) dX0_callUp_56 ⟨Nat.le_of_ble_eq_true rfl, Nat.le_of_ble_eq_true rfl⟩ (fun r u H locs hq hP hD hS => ?_)
        obtain rfl := hq
        have hP : va_P D vwCl (xW a cI cJ cZ (va_up (va_up (va_up v 10 (va_up (v 10) 6 (v 15 0))) 20 (g20)) 21 (g21)) c) H := hP
        have hD : va_D A (xW a cI cJ cZ (va_up (va_up (va_up v 10 (va_up (v 10) 6 (v 15 0))) 20 (g20)) 21 (g21)) c) := hD
        refine w_iast (f := g20) (w := if 0 = 2 then ((v 17) i) / 2 else ((v 17) i)) hx hb hK hP hD hS 20 0 rfl rfl (i := i) (by omega) (by decide) dX0_callUp_59 (fun H locs hP hD hS => ?_)
        have hP : va_P D vwCl (xW a cI cJ cZ (va_up (va_up (va_up v 10 (va_up (v 10) 6 (v 15 0))) 20 (va_up g20 i (if 0 = 2 then ((v 17) i) / 2 else ((v 17) i)))) 21 (g21)) c) H := hP
        have hD : va_D A (xW a cI cJ cZ (va_up (va_up (va_up v 10 (va_up (v 10) 6 (v 15 0))) 20 (va_up g20 i (if 0 = 2 then ((v 17) i) / 2 else ((v 17) i)))) 21 (g21)) c) := hD
        refine lv_aload_n hx hb dX0_callUp_60 rfl (lv_at hl 2 rfl) ?_
        refine va_get (D := D) (ci := 0) (v := .ref (a 21)) (C := RX0) (T := TX0) (N := 8) hx hb hts hinX0 hown hK hP 10 rfl rfl 5 (by decide) (hts (.fieldLink RX0 35 "DancedLock$Dance" "limping" "[Z") (List.mem_of_getElem? (i := 8) rfl)) (fun _ h9 => h9) rfl dX0_callUp_61 ?_
        refine lv_iload_n hx hb dX0_callUp_64 rfl (lv_at hl 1 rfl) ?_
        refine lv_iload_n hx hb dX0_callUp_65 rfl (lv_at hl 0 rfl) ?_
        refine lv_iconst (v := nI (1)) hx hb dX0_callUp_66 (by decide) ?_
        refine w_icmp_lt (x := 0) (y := 1) hx hb dX0_callUp_67 (tgt := 74) (by decide) (by decide) (by decide) (fun _ => ?_) (fun h => absurd h (by decide))
        refine lv_iconst (v := nI (0)) hx hb dX0_callUp_74 (by decide) ?_
        refine w_zast (f := g21) (w := 0) hx hb hK hP hD hS 21 2 rfl rfl (i := i) (by omega) (by decide) (by decide) dX0_callUp_75 (fun H locs hP hD hS => ?_)
        have hP : va_P D vwCl (xW a cI cJ cZ (va_up (va_up (va_up v 10 (va_up (v 10) 6 (v 15 0))) 20 (va_up g20 i (if 0 = 2 then ((v 17) i) / 2 else ((v 17) i)))) 21 (va_up g21 i 0)) c) H := hP
        have hD : va_D A (xW a cI cJ cZ (va_up (va_up (va_up v 10 (va_up (v 10) 6 (v 15 0))) 20 (va_up g20 i (if 0 = 2 then ((v 17) i) / 2 else ((v 17) i)))) 21 (va_up g21 i 0)) c) := hD
        refine lv_iinc (v := nI (i + 1)) (lv' := [(2, .int (nI (i + 1))), (3, .int (nI (0))), (0, .ref (a 10)), (1, .int (nI (1)))]) hx hb dX0_callUp_76 hl (k := 1) rfl (nI_add i 1) (by decide) rfl (fun ls hl => ?_)
        refine lv_goto (tgt := 17) hx hb dX0_callUp_79 (by decide) ?_
        exact ih17 (i + 1) (va_up g20 i (if 0 = 2 then ((v 17) i) / 2 else ((v 17) i))) (va_up g21 i 0) _ _ _ (by omega) (by omega) (by exact up2_s h2 (by first | rfl | (show _ = (if _ then _ else _); rfl)) (by first | rfl | (show _ = (if _ then _ else _); first | rw [if_pos (by omega)] | rw [if_neg (by omega)]))) hP hD hS (lv_sub hl [0, 2, 3] rfl)
  exact L17 ((v 15 0 - 0) + 1) 0 (v 20) (v 21) _ _ _ (Nat.lt_succ_self _) (by omega) (by exact fun d hd => absurd hd (Nat.not_lt_zero _)) hP hD hS (lv_sub hl [0, 1, 2] rfl)

set_option maxHeartbeats 4000000 in
set_option maxRecDepth 100000 in
theorem k_stepOf (l : Launch) (D : va_G) (a : Nat → Nat) (cI cJ cZ : ClassId) (A : Nat → Prop) (v : Nat → Nat → Nat) (c : Nat → Nat → Int32) (k : Nat) (d : Nat) (hq : k * 4 + d < 24) :
    mI l yX0_stepOf wsX0_stepOf 0 0 [.ref (a 10), .int (nI k), .int (nI d)] D (xT cI cJ cZ) A (xW a cI cJ cZ v c) (fun _ : Unit => xW a cI cJ cZ v c)
    (fun (r : Int32) (u : Unit) => r = nI (v 18 (k * 4 + d))) := by
  refine w_bI cX0_stepOf 4 .int (by decide) rfl (Nat.le_of_ble_eq_true rfl) (Or.inl rfl) ?_
  intro p e s m args below meth c0 ls Q hx hb hml hts hown hK hN hA hret hP hD hS hl
  have hl : lv_has ls 4 [(0, .ref (a 10)), (1, .int (nI (k))), (2, .int (nI (d)))] := hl
  have hinX0 : ∀ w ∈ wsX00, w ∈ wsX0_stepOf := fun w h => List.mem_cons_of_mem _ (List.mem_append_right _ h)
  refine lv_iload_n hx hb dX0_stepOf_0 rfl (lv_at hl 1 rfl) ?_
  refine lv_iconst (v := nI (4)) hx hb dX0_stepOf_1 (by decide) ?_
  refine w_imul (x := k) (y := 4) hx hb dX0_stepOf_2  ?_
  refine lv_iload_n hx hb dX0_stepOf_3 rfl (lv_at hl 2 rfl) ?_
  refine w_iadd (x := k * 4) (y := d) hx hb dX0_stepOf_4  ?_
  refine lv_istore_n (lv' := [(3, .int (nI (k * 4 + d))), (0, .ref (a 10)), (1, .int (nI (k))), (2, .int (nI (d)))]) hx hb dX0_stepOf_5 rfl hl (by decide) rfl (fun ls hl => ?_)
  refine lv_iload_n hx hb dX0_stepOf_6 rfl (lv_at hl 0 rfl) ?_
  refine w_if_lt (x := k * 4 + d) hx hb dX0_stepOf_7 (tgt := 28) (by decide) (by omega) ?_
  refine lv_iload_n hx hb dX0_stepOf_10 rfl (lv_at hl 0 rfl) ?_
  refine lv_aload_n hx hb dX0_stepOf_11 rfl (lv_at hl 1 rfl) ?_
  refine va_get (D := D) (ci := 0) (v := .ref (a 18)) (C := RX0) (T := TX0) (N := 8) hx hb hts hinX0 hown hK hP 10 rfl rfl 2 (by decide) (hts (.fieldLink RX0 25 "DancedLock$Dance" "steps" "[I") (List.mem_of_getElem? (i := 1) rfl)) (fun _ h9 => h9) rfl dX0_stepOf_12 ?_
  refine va_alen (v := nI 24) hx hb hK hP 18 0 rfl rfl rfl dX0_stepOf_15 ?_
  refine w_icmp_ge (x := k * 4 + d) (y := 24) hx hb dX0_stepOf_16 (tgt := 28) (by decide) (by omega) (by omega) (fun c16 => absurd c16 (by omega)) (fun c16 => ?_)
  refine lv_aload_n hx hb dX0_stepOf_19 rfl (lv_at hl 1 rfl) ?_
  refine va_get (D := D) (ci := 0) (v := .ref (a 18)) (C := RX0) (T := TX0) (N := 8) hx hb hts hinX0 hown hK hP 10 rfl rfl 2 (by decide) (hts (.fieldLink RX0 25 "DancedLock$Dance" "steps" "[I") (List.mem_of_getElem? (i := 1) rfl)) (fun _ h9 => h9) rfl dX0_stepOf_20 ?_
  refine lv_iload_n hx hb dX0_stepOf_23 rfl (lv_at hl 0 rfl) ?_
  refine w_iald (f := v 18) hx hb hK hP 18 0 rfl rfl (i := k * 4 + d) (by omega) (by decide) dX0_stepOf_24 ?_
  refine lv_goto (tgt := 29) hx hb dX0_stepOf_25 (by decide) ?_
  exact hret (nI (v 18 (k * 4 + d))) () _ _ 29 _ dX0_stepOf_29 rfl (by rfl) hP hD hS

set_option maxHeartbeats 4000000 in
set_option maxRecDepth 100000 in
theorem k_step (l : Launch) (D : va_G) (a : Nat → Nat) (cI cJ cZ : ClassId) (A : Nat → Prop) (v : Nat → Nat → Nat) (c : Nat → Nat → Int32) (k : Nat) (d : Nat) (x : Nat) (hq : k * 4 + d < 24) :
    mV l yX0_step wsX0_step 0 0 [.ref (a 10), .int (nI k), .int (nI d), .int (nI x)] D (xT cI cJ cZ) A (xW a cI cJ cZ v c) (fun u : ((Nat → Nat → Nat) × (Nat → Nat → Int32)) => xW a cI cJ cZ u.1 u.2)
    (fun (u : ((Nat → Nat → Nat) × (Nat → Nat → Int32))) => u = (va_up v 18 (va_up (v 18) (k * 4 + d) x), c)) := by
  refine w_bV cX0_step 5 (by decide) rfl (Nat.le_of_ble_eq_true rfl) ?_
  intro p e s m args below meth c0 ls Q hx hb hml hts hown hK hN hA hret hP hD hS hl
  have hl : lv_has ls 5 [(0, .ref (a 10)), (1, .int (nI (k))), (2, .int (nI (d))), (3, .int (nI (x)))] := hl
  have hinX0 : ∀ w ∈ wsX00, w ∈ wsX0_step := fun w h => List.mem_cons_of_mem _ (List.mem_append_right _ h)
  refine lv_iload_n hx hb dX0_step_0 rfl (lv_at hl 1 rfl) ?_
  refine lv_iconst (v := nI (4)) hx hb dX0_step_1 (by decide) ?_
  refine w_imul (x := k) (y := 4) hx hb dX0_step_2  ?_
  refine lv_iload_n hx hb dX0_step_3 rfl (lv_at hl 2 rfl) ?_
  refine w_iadd (x := k * 4) (y := d) hx hb dX0_step_4  ?_
  refine lv_istore (lv' := [(4, .int (nI (k * 4 + d))), (0, .ref (a 10)), (1, .int (nI (k))), (2, .int (nI (d))), (3, .int (nI (x)))]) hx hb dX0_step_5 hl (by decide) rfl (fun ls hl => ?_)
  refine lv_iload hx hb dX0_step_7 (lv_at hl 0 rfl) ?_
  refine w_if_lt (x := k * 4 + d) hx hb dX0_step_9 (tgt := 30) (by decide) (by omega) ?_
  refine lv_iload hx hb dX0_step_12 (lv_at hl 0 rfl) ?_
  refine lv_aload_n hx hb dX0_step_14 rfl (lv_at hl 1 rfl) ?_
  refine va_get (D := D) (ci := 0) (v := .ref (a 18)) (C := RX0) (T := TX0) (N := 8) hx hb hts hinX0 hown hK hP 10 rfl rfl 2 (by decide) (hts (.fieldLink RX0 25 "DancedLock$Dance" "steps" "[I") (List.mem_of_getElem? (i := 1) rfl)) (fun _ h9 => h9) rfl dX0_step_15 ?_
  refine va_alen (v := nI 24) hx hb hK hP 18 0 rfl rfl rfl dX0_step_18 ?_
  refine w_icmp_ge (x := k * 4 + d) (y := 24) hx hb dX0_step_19 (tgt := 30) (by decide) (by omega) (by omega) (fun c19 => absurd c19 (by omega)) (fun c19 => ?_)
  refine lv_aload_n hx hb dX0_step_22 rfl (lv_at hl 1 rfl) ?_
  refine va_get (D := D) (ci := 0) (v := .ref (a 18)) (C := RX0) (T := TX0) (N := 8) hx hb hts hinX0 hown hK hP 10 rfl rfl 2 (by decide) (hts (.fieldLink RX0 25 "DancedLock$Dance" "steps" "[I") (List.mem_of_getElem? (i := 1) rfl)) (fun _ h9 => h9) rfl dX0_step_23 ?_
  refine lv_iload hx hb dX0_step_26 (lv_at hl 0 rfl) ?_
  refine lv_iload_n hx hb dX0_step_28 rfl (lv_at hl 4 rfl) ?_
  refine w_iast (f := v 18) (w := x) hx hb hK hP hD hS 18 0 rfl rfl (i := k * 4 + d) (by omega) (by decide) dX0_step_29 (fun H locs hP hD hS => ?_)
  have hP : va_P D vwCl (xW a cI cJ cZ (va_up v 18 (va_up (v 18) (k * 4 + d) x)) c) H := hP
  have hD : va_D A (xW a cI cJ cZ (va_up v 18 (va_up (v 18) (k * 4 + d) x)) c) := hD
  exact hret (va_up v 18 (va_up (v 18) (k * 4 + d) x), c) _ _ 30 _ dX0_step_30 (by rfl) hP hD hS

set_option maxHeartbeats 4000000 in
set_option maxRecDepth 100000 in
theorem k_isBound (l : Launch) (D : va_G) (a : Nat → Nat) (cI cJ cZ : ClassId) (A : Nat → Prop) (v : Nat → Nat → Nat) (c : Nat → Nat → Int32) (k : Nat) (d : Nat) (hdn : v 10 6 ≤ 4) (hli : ∀ d, d < v 10 6 → v 21 d ≤ 1) (hd : d < v 10 6) (hk : k < 6) :
    mI l yX0_isBound wsX0_isBound 0 0 [.ref (a 10), .int (nI k), .int (nI d)] D (xT cI cJ cZ) A (xW a cI cJ cZ v c) (fun _ : Unit => xW a cI cJ cZ v c)
    (fun (r : Int32) (u : Unit) => (r = nI (1) ∧ k % 2 = 1 ∧ v 21 d ≠ 0) ∨ (r = nI (0) ∧ (¬ (k % 2 = 1 ∧ v 21 d ≠ 0)))) := by
  refine w_bI cX0_isBound 3 .boolean (by decide) rfl (Nat.le_of_ble_eq_true rfl) (Or.inr rfl) ?_
  intro p e s m args below meth c0 ls Q hx hb hml hts hown hK hN hA hret hP hD hS hl
  have hl : lv_has ls 3 [(0, .ref (a 10)), (1, .int (nI (k))), (2, .int (nI (d)))] := hl
  have hinX0 : ∀ w ∈ wsX00, w ∈ wsX0_isBound := fun w h => List.mem_cons_of_mem _ (List.mem_append_right _ h)
  have hld := hli d hd
  refine lv_iload_n hx hb dX0_isBound_0 rfl (lv_at hl 1 rfl) ?_
  refine lv_iconst (v := nI (2)) hx hb dX0_isBound_1 (by decide) ?_
  refine w_irem (x := k) (y := 2) hx hb dX0_isBound_2 (by omega) (by omega) (by omega) ?_
  refine lv_iconst (v := nI (1)) hx hb dX0_isBound_3 (by decide) ?_
  refine w_icmp_ne (x := k % 2) (y := 1) hx hb dX0_isBound_4 (tgt := 37) (by decide) (by omega) (by omega) (fun c4 => ?_) (fun c4 => ?_)
  · skip
    refine lv_iconst (v := nI (0)) hx hb dX0_isBound_37 (by decide) ?_
    exact hret (nI (0)) () _ _ 38 _ dX0_isBound_38 rfl (by first | (exact Or.inr ⟨rfl, fun z => c4 z.1⟩) | (exact Or.inr ⟨rfl, fun z => z.2 c30⟩)) hP hD hS
  · skip
    refine lv_iload_n hx hb dX0_isBound_7 rfl (lv_at hl 2 rfl) ?_
    refine w_if_lt (x := d) hx hb dX0_isBound_8 (tgt := 37) (by decide) (by omega) ?_
    refine lv_iload_n hx hb dX0_isBound_11 rfl (lv_at hl 2 rfl) ?_
    refine lv_aload_n hx hb dX0_isBound_12 rfl (lv_at hl 0 rfl) ?_
    refine va_get (D := D) (ci := 0) (v := .int (nI (v 10 6))) (C := RX0) (T := TX0) (N := 8) hx hb hts hinX0 hown hK hP 10 rfl rfl 6 (by decide) (hts (.fieldLink RX0 53 "DancedLock$Dance" "dancers" "I") (List.mem_of_getElem? (i := 1) rfl)) (fun _ h9 => h9) rfl dX0_isBound_13 ?_
    refine w_icmp_ge (x := d) (y := v 10 6) hx hb dX0_isBound_16 (tgt := 37) (by decide) (by omega) (by omega) (fun c16 => absurd c16 (by omega)) (fun c16 => ?_)
    refine lv_iload_n hx hb dX0_isBound_19 rfl (lv_at hl 2 rfl) ?_
    refine lv_iconst (v := nI (4)) hx hb dX0_isBound_20 (by decide) ?_
    refine w_icmp_ge (x := d) (y := 4) hx hb dX0_isBound_21 (tgt := 37) (by decide) (by omega) (by omega) (fun c21 => absurd c21 (by omega)) (fun c21 => ?_)
    refine lv_aload_n hx hb dX0_isBound_24 rfl (lv_at hl 0 rfl) ?_
    refine va_get (D := D) (ci := 0) (v := .ref (a 21)) (C := RX0) (T := TX0) (N := 8) hx hb hts hinX0 hown hK hP 10 rfl rfl 5 (by decide) (hts (.fieldLink RX0 35 "DancedLock$Dance" "limping" "[Z") (List.mem_of_getElem? (i := 2) rfl)) (fun _ h9 => h9) rfl dX0_isBound_25 ?_
    refine lv_iload_n hx hb dX0_isBound_28 rfl (lv_at hl 2 rfl) ?_
    refine w_zald (f := v 21) hx hb hK hP 21 2 rfl rfl (i := d) (by omega) (by decide) dX0_isBound_29 ?_
    refine w_if_eq (x := v 21 d) hx hb dX0_isBound_30 (tgt := 37) (by decide) (by omega) (fun c30 => ?_) (fun c30 => ?_)
    · skip
      refine lv_iconst (v := nI (0)) hx hb dX0_isBound_37 (by decide) ?_
      exact hret (nI (0)) () _ _ 38 _ dX0_isBound_38 rfl (by first | (exact Or.inr ⟨rfl, fun z => c4 z.1⟩) | (exact Or.inr ⟨rfl, fun z => z.2 c30⟩)) hP hD hS
    · skip
      refine lv_iconst (v := nI (1)) hx hb dX0_isBound_33 (by decide) ?_
      refine lv_goto (tgt := 38) hx hb dX0_isBound_34 (by decide) ?_
      exact hret (nI (1)) () _ _ 38 _ dX0_isBound_38 rfl (by exact Or.inl ⟨rfl, c4, c30⟩) hP hD hS

set_option maxHeartbeats 4000000 in
set_option maxRecDepth 100000 in
theorem k_pullOf (l : Launch) (D : va_G) (a : Nat → Nat) (cI cJ cZ : ClassId) (A : Nat → Prop) (v : Nat → Nat → Nat) (c : Nat → Nat → Int32) (d : Nat) (hdn : v 10 6 ≤ 4) (hpl : ∀ d, d < v 10 6 → v 20 d ≤ 9) (hd : d < v 10 6) :
    mI l yX0_pullOf wsX0_pullOf 0 0 [.ref (a 10), .int (nI d)] D (xT cI cJ cZ) A (xW a cI cJ cZ v c) (fun _ : Unit => xW a cI cJ cZ v c)
    (fun (r : Int32) (u : Unit) => r = nI (v 20 d)) := by
  refine w_bI cX0_pullOf 2 .int (by decide) rfl (Nat.le_of_ble_eq_true rfl) (Or.inl rfl) ?_
  intro p e s m args below meth c0 ls Q hx hb hml hts hown hK hN hA hret hP hD hS hl
  have hl : lv_has ls 2 [(0, .ref (a 10)), (1, .int (nI (d)))] := hl
  have hinX0 : ∀ w ∈ wsX00, w ∈ wsX0_pullOf := fun w h => List.mem_cons_of_mem _ (List.mem_append_right _ h)
  have hpd := hpl d hd
  refine lv_iload_n hx hb dX0_pullOf_0 rfl (lv_at hl 1 rfl) ?_
  refine w_if_lt (x := d) hx hb dX0_pullOf_1 (tgt := 26) (by decide) (by omega) ?_
  refine lv_iload_n hx hb dX0_pullOf_4 rfl (lv_at hl 1 rfl) ?_
  refine lv_aload_n hx hb dX0_pullOf_5 rfl (lv_at hl 0 rfl) ?_
  refine va_get (D := D) (ci := 0) (v := .int (nI (v 10 6))) (C := RX0) (T := TX0) (N := 8) hx hb hts hinX0 hown hK hP 10 rfl rfl 6 (by decide) (hts (.fieldLink RX0 53 "DancedLock$Dance" "dancers" "I") (List.mem_of_getElem? (i := 1) rfl)) (fun _ h9 => h9) rfl dX0_pullOf_6 ?_
  refine w_icmp_ge (x := d) (y := v 10 6) hx hb dX0_pullOf_9 (tgt := 26) (by decide) (by omega) (by omega) (fun c9 => absurd c9 (by omega)) (fun c9 => ?_)
  refine lv_iload_n hx hb dX0_pullOf_12 rfl (lv_at hl 1 rfl) ?_
  refine lv_iconst (v := nI (4)) hx hb dX0_pullOf_13 (by decide) ?_
  refine w_icmp_ge (x := d) (y := 4) hx hb dX0_pullOf_14 (tgt := 26) (by decide) (by omega) (by omega) (fun c14 => absurd c14 (by omega)) (fun c14 => ?_)
  refine lv_aload_n hx hb dX0_pullOf_17 rfl (lv_at hl 0 rfl) ?_
  refine va_get (D := D) (ci := 0) (v := .ref (a 20)) (C := RX0) (T := TX0) (N := 8) hx hb hts hinX0 hown hK hP 10 rfl rfl 4 (by decide) (hts (.fieldLink RX0 32 "DancedLock$Dance" "pulls" "[I") (List.mem_of_getElem? (i := 2) rfl)) (fun _ h9 => h9) rfl dX0_pullOf_18 ?_
  refine lv_iload_n hx hb dX0_pullOf_21 rfl (lv_at hl 1 rfl) ?_
  refine w_iald (f := v 20) hx hb hK hP 20 0 rfl rfl (i := d) (by omega) (by decide) dX0_pullOf_22 ?_
  refine lv_goto (tgt := 27) hx hb dX0_pullOf_23 (by decide) ?_
  exact hret (nI (v 20 d)) () _ _ 27 _ dX0_pullOf_27 rfl (by rfl) hP hD hS

set_option maxHeartbeats 4000000 in
set_option maxRecDepth 100000 in
theorem k_missingOn (l : Launch) (D : va_G) (a : Nat → Nat) (cI cJ cZ : ClassId) (A : Nat → Prop) (v : Nat → Nat → Nat) (c : Nat → Nat → Int32) (b : Nat) (hnb : v 11 0 ≤ 7) (hbb : b < v 11 0) :
    mI l yX0_missingOn wsX0_missingOn 1 21 [.ref (a 10), .int (nI b)] D (xT cI cJ cZ) A (xW a cI cJ cZ v c) (fun _ : Unit => xW a cI cJ cZ v c)
    (fun (r : Int32) (u : Unit) => r = nI (v 12 b) - nI (v 19 b)) := by
  refine w_bI cX0_missingOn 2 .int (by decide) rfl (Nat.le_of_ble_eq_true rfl) (Or.inl rfl) ?_
  intro p e s m args below meth c0 ls Q hx hb hml hts hown hK hN hA hret hP hD hS hl
  have hl : lv_has ls 2 [(0, .ref (a 10)), (1, .int (nI (b)))] := hl
  have hinX0 : ∀ w ∈ wsX00, w ∈ wsX0_missingOn := fun w h => List.mem_cons_of_mem _ (List.mem_append_left _ (List.mem_append_right _ h))
  have hinX2 : ∀ w ∈ wsX20, w ∈ wsX0_missingOn := fun w h => List.mem_cons_of_mem _ (List.mem_append_right _ h)
  refine lv_aload_n hx hb dX0_missingOn_0 rfl (lv_at hl 0 rfl) ?_
  refine va_get (D := D) (ci := 0) (v := .ref (a 11)) (C := RX0) (T := TX0) (N := 8) hx hb hts hinX0 hown hK hP 10 rfl rfl 0 (by decide) (hts (.fieldLink RX0 12 "DancedLock$Dance" "floor" "LDancedLock$Floor;") (List.mem_of_getElem? (i := 1) rfl)) (fun _ h9 => h9) rfl dX0_missingOn_1 ?_
  refine lv_iload_n hx hb dX0_missingOn_4 rfl (lv_at hl 1 rfl) ?_
  refine w_cVi (rest := []) hx hb hml hown hts (k_hasBoard_N l D a cI cJ cZ A v c b  (by first | assumption | omega) (by first | assumption | omega)) 1 gX0_missingOn_X2_hasBoard rfl hdX2_hasBoard ⟨Nat.le_of_ble_eq_true rfl, Nat.le_of_ble_eq_true rfl⟩ hK hN hP hD hS hA 11 2 rfl rfl rfl rfl hl.1 rfl (Nat.le_of_ble_eq_true rfl) dX0_missingOn_5 ⟨Nat.le_of_ble_eq_true rfl, Nat.le_of_ble_eq_true rfl⟩ (fun r u H locs hq hP hD hS => ?_)
  rcases hq with ⟨rfl, h_5⟩ | ⟨rfl, h_5⟩
  · skip
    have hP : va_P D vwCl (xW a cI cJ cZ v c) H := hP
    have hD : va_D A (xW a cI cJ cZ v c) := hD
    refine w_if_eq (x := 1) hx hb dX0_missingOn_8 (tgt := 30) (by decide) (by decide) (fun h => absurd h (by decide)) (fun _ => ?_)
    refine lv_aload_n hx hb dX0_missingOn_11 rfl (lv_at hl 0 rfl) ?_
    refine va_get (D := D) (ci := 0) (v := .ref (a 11)) (C := RX0) (T := TX0) (N := 8) hx hb hts hinX0 hown hK hP 10 rfl rfl 0 (by decide) (hts (.fieldLink RX0 12 "DancedLock$Dance" "floor" "LDancedLock$Floor;") (List.mem_of_getElem? (i := 1) rfl)) (fun _ h9 => h9) rfl dX0_missingOn_12 ?_
    refine va_getN (D := D) (ci := 2) (v := .ref (a 12)) (C := RX2) (T := TX2) (N := 5) hx hb hts hinX2 hown hK hP 11 rfl rfl 2 (by decide) (va_Nw.use rfl (hN (.fieldLinkNest RX0 103 "DancedLock$Floor" "needs" "[I" "DancedLock") (List.mem_of_getElem? (i := 4) rfl))) (fun _ h9 => h9) rfl dX0_missingOn_15 ?_
    refine lv_iload_n hx hb dX0_missingOn_18 rfl (lv_at hl 1 rfl) ?_
    refine w_iald (f := v 12) hx hb hK hP 12 0 rfl rfl (i := b) (by omega) (by decide) dX0_missingOn_19 ?_
    refine lv_aload_n hx hb dX0_missingOn_20 rfl (lv_at hl 0 rfl) ?_
    refine va_get (D := D) (ci := 0) (v := .ref (a 19)) (C := RX0) (T := TX0) (N := 8) hx hb hts hinX0 hown hK hP 10 rfl rfl 3 (by decide) (hts (.fieldLink RX0 29 "DancedLock$Dance" "loads" "[I") (List.mem_of_getElem? (i := 2) rfl)) (fun _ h9 => h9) rfl dX0_missingOn_21 ?_
    refine lv_iload_n hx hb dX0_missingOn_24 rfl (lv_at hl 1 rfl) ?_
    refine w_iald (f := v 19) hx hb hK hP 19 0 rfl rfl (i := b) (by omega) (by decide) dX0_missingOn_25 ?_
    refine lv_isub hx hb dX0_missingOn_26 ?_
    refine lv_goto (tgt := 31) hx hb dX0_missingOn_27 (by decide) ?_
    exact hret ((nI (v 12 b)) - (nI (v 19 b))) () _ _ 31 _ dX0_missingOn_31 rfl (by first | rfl | (exfalso; omega)) hP hD hS
  · skip
    have hP : va_P D vwCl (xW a cI cJ cZ v c) H := hP
    have hD : va_D A (xW a cI cJ cZ v c) := hD
    refine w_if_eq (x := 0) hx hb dX0_missingOn_8 (tgt := 30) (by decide) (by decide) (fun _ => ?_) (fun h => absurd h (by decide))
    refine lv_iconst (v := nI (0)) hx hb dX0_missingOn_30 (by decide) ?_
    exact hret (nI (0)) () _ _ 31 _ dX0_missingOn_31 rfl (by first | rfl | (exfalso; omega)) hP hD hS

set_option maxHeartbeats 4000000 in
set_option maxRecDepth 100000 in
theorem k_load (l : Launch) (D : va_G) (a : Nat → Nat) (cI cJ cZ : ClassId) (A : Nat → Prop) (v : Nat → Nat → Nat) (c : Nat → Nat → Int32) (k : Nat) (kn : Nat) (hdn : v 10 6 ≤ 4) (hli : ∀ d, d < v 10 6 → v 21 d ≤ 1) (hpl : ∀ d, d < v 10 6 → v 20 d ≤ 9) (hnb : v 11 0 ≤ 7) (hsp : ∀ q, q < 24 → v 18 q < 8) (hk : k < 6) (hkn4 : kn ≤ 4) :
    mV l yX0_load wsX0_load 1 23 [.ref (a 10), .int (nI k), .int (nI kn)] D (xT cI cJ cZ) A (xW a cI cJ cZ v c) (fun u : ((Nat → Nat → Nat) × (Nat → Nat → Int32)) => xW a cI cJ cZ u.1 u.2)
    (fun (u : ((Nat → Nat → Nat) × (Nat → Nat → Int32))) => ∃ g19 : Nat → Nat, u = (va_up v 19 (g19), c) ∧ (∀ b, b < v 11 0 → g19 b = LD (v 20) (v 21) (v 18) k kn (v 10 6) b)) := by
  refine w_bV cX0_load 6 (by decide) rfl (Nat.le_of_ble_eq_true rfl) ?_
  intro p e s m args below meth c0 ls Q hx hb hml hts hown hK hN hA hret hP hD hS hl
  have hl : lv_has ls 6 [(0, .ref (a 10)), (1, .int (nI (k))), (2, .int (nI (kn)))] := hl
  have hinX0 : ∀ w ∈ wsX00, w ∈ wsX0_load := fun w h => List.mem_cons_of_mem _ (List.mem_append_left _ (List.mem_append_right _ h))
  refine lv_aload_n hx hb dX0_load_0 rfl (lv_at hl 0 rfl) ?_
  refine va_get (D := D) (ci := 0) (v := .ref (a 19)) (C := RX0) (T := TX0) (N := 8) hx hb hts hinX0 hown hK hP 10 rfl rfl 3 (by decide) (hts (.fieldLink RX0 29 "DancedLock$Dance" "loads" "[I") (List.mem_of_getElem? (i := 1) rfl)) (fun _ h9 => h9) rfl dX0_load_1 ?_
  refine lv_iconst (v := nI (0)) hx hb dX0_load_4 (by decide) ?_
  refine w_cSv (rest := []) hx hb hml hown hts (k_fillLoads l D a cI cJ cZ A v c   ) 2 gX0_load_J7_fill_53178 rfl hdJ7_fill_53178 ⟨Nat.le_of_ble_eq_true rfl, Nat.le_of_ble_eq_true rfl⟩ hK hN hP hD hS hA rfl hl.1 rfl (Nat.le_of_ble_eq_true rfl) dX0_load_5 ⟨Nat.le_of_ble_eq_true rfl, Nat.le_of_ble_eq_true rfl⟩ (fun u H locs hq hP hD hS => ?_)
  obtain rfl := hq
  have hP : va_P D vwCl (xW a cI cJ cZ (va_up v 19 (flf ((v 19)) 0 7 0)) c) H := hP
  have hD : va_D A (xW a cI cJ cZ (va_up v 19 (flf ((v 19)) 0 7 0)) c) := hD
  refine lv_iconst (v := nI (0)) hx hb dX0_load_8 (by decide) ?_
  refine lv_istore_n (lv' := [(3, .int (nI (0))), (0, .ref (a 10)), (1, .int (nI (k))), (2, .int (nI (kn)))]) hx hb dX0_load_9 rfl hl (by decide) rfl (fun ls hl => ?_)
  have L10 : ∀ (n : Nat) (i : Nat) (g : Nat → Nat) (H : Heap) (locs : List Loc) (ls : Array Slot), v 10 6 - i < n → (i ≤ v 10 6) → (∀ b, b < v 11 0 → g b = LD (v 20) (v 21) (v 18) k kn i b) → va_P D vwCl (xW a cI cJ cZ (va_up v 19 (g)) c) H → va_D A (xW a cI cJ cZ (va_up v 19 (g)) c) → va_S A s.heap H locs → lv_has ls 6 [(3, .int (nI (i))), (0, .ref (a 10)), (1, .int (nI (k))), (2, .int (nI (kn)))] → W p l e { frames := 1, cells := 0, slots := 0, locals := 23 } s m args below meth c0 H locs 0 0 Q (F0 m 10 ls []) := by
    intro n
    induction n with
    | zero => intro i g H locs ls hm; exact absurd hm (Nat.not_lt_zero _)
    | succ n ih10 =>
      intro i g H locs ls hm10 h1 h2 hP hD hS hl
      refine lv_iload_n hx hb dX0_load_10 rfl (lv_at hl 0 rfl) ?_
      refine lv_aload_n hx hb dX0_load_11 rfl (lv_at hl 1 rfl) ?_
      refine va_get (D := D) (ci := 0) (v := .int (nI (v 10 6))) (C := RX0) (T := TX0) (N := 8) hx hb hts hinX0 hown hK hP 10 rfl rfl 6 (by decide) (hts (.fieldLink RX0 53 "DancedLock$Dance" "dancers" "I") (List.mem_of_getElem? (i := 2) rfl)) (fun _ h9 => h9) rfl dX0_load_12 ?_
      refine w_icmp_ge (x := i) (y := v 10 6) hx hb dX0_load_15 (tgt := 88) (by decide) (by omega) (by omega) (fun c15 => ?_) (fun c15 => ?_)
      · skip
        exact hret (va_up v 19 (g), c) _ _ 88 _ dX0_load_88 (by have e : i = v 10 6 := (by omega); subst e; exact ⟨g, rfl, h2⟩) hP hD hS
      · skip
        have hpi := hpl i (by omega)
        refine lv_aload_n hx hb dX0_load_18 rfl (lv_at hl 1 rfl) ?_
        refine lv_iload_n hx hb dX0_load_19 rfl (lv_at hl 2 rfl) ?_
        refine lv_iload_n hx hb dX0_load_20 rfl (lv_at hl 0 rfl) ?_
        refine w_cVi (rest := []) hx hb hml hown hts (k_isBound l D a cI cJ cZ A (va_up v 19 (g)) c k i  (by show (v 10 6) ≤ 4; first | assumption | omega) (by show ∀ i, i < (v 10 6) → (v 21) i ≤ 1; first | assumption | omega) (by show i < (v 10 6); first | assumption | omega) (by first | assumption | omega)) 2 gX0_load_X0_isBound rfl hdX0_isBound ⟨Nat.le_of_ble_eq_true rfl, Nat.le_of_ble_eq_true rfl⟩ hK hN hP hD hS hA 10 0 rfl rfl rfl rfl hl.1 rfl (Nat.le_of_ble_eq_true rfl) dX0_load_21 ⟨Nat.le_of_ble_eq_true rfl, Nat.le_of_ble_eq_true rfl⟩ (fun r u H locs hq hP hD hS => ?_)
        rcases hq with ⟨rfl, h1_21, h2_21⟩ | ⟨rfl, h_21⟩
        · skip
          have h2_21 : (v 21) i ≠ 0 := h2_21
          have hP : va_P D vwCl (xW a cI cJ cZ (va_up v 19 (g)) c) H := hP
          have hD : va_D A (xW a cI cJ cZ (va_up v 19 (g)) c) := hD
          refine lv_istore (lv' := [(4, .int (nI (1))), (3, .int (nI (i))), (0, .ref (a 10)), (1, .int (nI (k))), (2, .int (nI (kn)))]) hx hb dX0_load_24 hl (by decide) rfl (fun ls hl => ?_)
          refine lv_aload_n hx hb dX0_load_26 rfl (lv_at hl 2 rfl) ?_
          refine lv_iload hx hb dX0_load_27 (lv_at hl 0 rfl) ?_
          refine w_if_eq (x := 1) hx hb dX0_load_29 (tgt := 38) (by decide) (by decide) (fun h => absurd h (by decide)) (fun _ => ?_)
          refine lv_iload_n hx hb dX0_load_32 rfl (lv_at hl 3 rfl) ?_
          refine lv_iconst (v := nI (1)) hx hb dX0_load_33 (by decide) ?_
          refine w_isub (x := k) (y := 1) hx hb dX0_load_34 (by omega) ?_
          refine lv_goto (tgt := 39) hx hb dX0_load_35 (by decide) ?_
          refine lv_iload_n hx hb dX0_load_39 rfl (lv_at hl 1 rfl) ?_
          refine w_cVi (rest := []) hx hb hml hown hts (k_stepOf l D a cI cJ cZ A (va_up v 19 (g)) c (k - 1) i  (by omega)) 2 gX0_load_X0_stepOf rfl hdX0_stepOf ⟨Nat.le_of_ble_eq_true rfl, Nat.le_of_ble_eq_true rfl⟩ hK hN hP hD hS hA 10 0 rfl rfl rfl rfl hl.1 rfl (Nat.le_of_ble_eq_true rfl) dX0_load_40 ⟨Nat.le_of_ble_eq_true rfl, Nat.le_of_ble_eq_true rfl⟩ (fun r u H locs hq hP hD hS => ?_)
          have hr_40 := hq
          have hr_40 : r = nI ((v 18) ((k - 1) * 4 + i)) := hr_40
          subst hr_40
          have hP : va_P D vwCl (xW a cI cJ cZ (va_up v 19 (g)) c) H := hP
          have hD : va_D A (xW a cI cJ cZ (va_up v 19 (g)) c) := hD
          refine lv_istore (lv' := [(5, .int (nI ((v 18) ((k - 1) * 4 + i)))), (4, .int (nI (1))), (3, .int (nI (i))), (0, .ref (a 10)), (1, .int (nI (k))), (2, .int (nI (kn)))]) hx hb dX0_load_43 hl (by decide) rfl (fun ls hl => ?_)
          refine lv_iload hx hb dX0_load_45 (lv_at hl 1 rfl) ?_
          refine w_if_ne (x := 1) hx hb dX0_load_47 (tgt := 55) (by decide) (by decide) (fun _ => ?_) (fun h => absurd h (by decide))
          refine lv_aload_n hx hb dX0_load_55 rfl (lv_at hl 3 rfl) ?_
          refine va_get (D := D) (ci := 0) (v := .ref (a 11)) (C := RX0) (T := TX0) (N := 8) hx hb hts hinX0 hown hK hP 10 rfl rfl 0 (by decide) (hts (.fieldLink RX0 12 "DancedLock$Dance" "floor" "LDancedLock$Floor;") (List.mem_of_getElem? (i := 3) rfl)) (fun _ h9 => h9) rfl dX0_load_56 ?_
          refine lv_iload hx hb dX0_load_59 (lv_at hl 0 rfl) ?_
          refine w_cVi (rest := []) hx hb hml hown hts (k_hasBoard_N l D a cI cJ cZ A (va_up v 19 (g)) c ((v 18) ((k - 1) * 4 + i))  (by show (v 11 0) ≤ 7; first | assumption | omega | (have := hsp (k * 4 + i) (by omega); omega) | (have := hsp ((k - 1) * 4 + i) (by omega); omega)) (by first | assumption | omega | (have := hsp (k * 4 + i) (by omega); omega) | (have := hsp ((k - 1) * 4 + i) (by omega); omega))) 1 gX0_load_X2_hasBoard rfl hdX2_hasBoard ⟨Nat.le_of_ble_eq_true rfl, Nat.le_of_ble_eq_true rfl⟩ hK hN hP hD hS hA 11 2 rfl rfl rfl rfl hl.1 rfl (Nat.le_of_ble_eq_true rfl) dX0_load_61 ⟨Nat.le_of_ble_eq_true rfl, Nat.le_of_ble_eq_true rfl⟩ (fun r u H locs hq hP hD hS => ?_)
          rcases hq with ⟨rfl, h_61⟩ | ⟨rfl, h_61⟩
          · skip
            have h_61 : ((v 18) ((k - 1) * 4 + i)) < (v 11 0) := h_61
            have hP : va_P D vwCl (xW a cI cJ cZ (va_up v 19 (g)) c) H := hP
            have hD : va_D A (xW a cI cJ cZ (va_up v 19 (g)) c) := hD
            refine w_if_eq (x := 1) hx hb dX0_load_64 (tgt := 82) (by decide) (by decide) (fun h => absurd h (by decide)) (fun _ => ?_)
            refine lv_aload_n hx hb dX0_load_67 rfl (lv_at hl 3 rfl) ?_
            refine va_get (D := D) (ci := 0) (v := .ref (a 19)) (C := RX0) (T := TX0) (N := 8) hx hb hts hinX0 hown hK hP 10 rfl rfl 3 (by decide) (hts (.fieldLink RX0 29 "DancedLock$Dance" "loads" "[I") (List.mem_of_getElem? (i := 1) rfl)) (fun _ h9 => h9) rfl dX0_load_68 ?_
            refine lv_iload hx hb dX0_load_71 (lv_at hl 0 rfl) ?_
            refine lv_dup2_11 hx hb dX0_load_73 rfl rfl ?_
            refine w_iald (f := g) hx hb hK hP 19 0 rfl rfl (i := (v 18) ((k - 1) * 4 + i)) (by omega) (by decide) dX0_load_74 ?_
            refine lv_aload_n hx hb dX0_load_75 rfl (lv_at hl 3 rfl) ?_
            refine lv_iload_n hx hb dX0_load_76 rfl (lv_at hl 2 rfl) ?_
            refine w_cVi (rest := [.int (nI (g ((v 18) ((k - 1) * 4 + i)))), .int (nI ((v 18) ((k - 1) * 4 + i))), .ref (a 19)]) hx hb hml hown hts (k_pullOf l D a cI cJ cZ A (va_up v 19 (g)) c i  (by show (v 10 6) ≤ 4; first | assumption | omega | exact hpl) (by show ∀ i, i < (v 10 6) → (v 20) i ≤ 9; first | assumption | omega | exact hpl) (by show i < (v 10 6); first | assumption | omega | exact hpl)) 1 gX0_load_X0_pullOf rfl hdX0_pullOf ⟨Nat.le_of_ble_eq_true rfl, Nat.le_of_ble_eq_true rfl⟩ hK hN hP hD hS hA 10 0 rfl rfl rfl rfl hl.1 rfl (Nat.le_of_ble_eq_true rfl) dX0_load_77 ⟨Nat.le_of_ble_eq_true rfl, Nat.le_of_ble_eq_true rfl⟩ (fun r u H locs hq hP hD hS => ?_)
            have hr_77 := hq
            have hr_77 : r = nI ((v 20) i) := hr_77
            subst hr_77
            have hP : va_P D vwCl (xW a cI cJ cZ (va_up v 19 (g)) c) H := hP
            have hD : va_D A (xW a cI cJ cZ (va_up v 19 (g)) c) := hD
            refine w_iadd (x := g ((v 18) ((k - 1) * 4 + i))) (y := (v 20) i) hx hb dX0_load_80  ?_
            refine w_iast (f := g) (w := g ((v 18) ((k - 1) * 4 + i)) + ((v 20) i)) hx hb hK hP hD hS 19 0 rfl rfl (i := (v 18) ((k - 1) * 4 + i)) (by omega) (by decide) dX0_load_81 (fun H locs hP hD hS => ?_)
            have hP : va_P D vwCl (xW a cI cJ cZ (va_up v 19 (va_up g ((v 18) ((k - 1) * 4 + i)) (g ((v 18) ((k - 1) * 4 + i)) + ((v 20) i)))) c) H := hP
            have hD : va_D A (xW a cI cJ cZ (va_up v 19 (va_up g ((v 18) ((k - 1) * 4 + i)) (g ((v 18) ((k - 1) * 4 + i)) + ((v 20) i)))) c) := hD
            refine lv_iinc (v := nI (i + 1)) (lv' := [(3, .int (nI (i + 1))), (5, .int (nI ((v 18) ((k - 1) * 4 + i)))), (4, .int (nI (1))), (0, .ref (a 10)), (1, .int (nI (k))), (2, .int (nI (kn)))]) hx hb dX0_load_82 hl (k := 2) rfl (nI_add i 1) (by decide) rfl (fun ls hl => ?_)
            refine lv_goto (tgt := 10) hx hb dX0_load_85 (by decide) ?_
            exact ih10 (i + 1) (va_up g ((v 18) ((k - 1) * 4 + i)) (g ((v 18) ((k - 1) * 4 + i)) + ((v 20) i))) _ _ _ (by omega) (by omega) (by intro b hb; show _ = sm _ i + _; first | (rw [up_add, h2 b hb, ldt_b h1_21 h2_21]; rfl) | (rw [h2 b hb, ldt_b h1_21 h2_21, if_neg (by omega)]; rfl) | (rw [up_add, h2 b hb, ldt_f h_21 (by omega)]; rfl) | (rw [h2 b hb, ldt_f h_21 (by omega), if_neg (by omega)]; rfl) | (rw [h2 b hb, ldt_n h_21 (by omega)]; rfl)) hP hD hS (lv_sub hl [0, 3, 4, 5] rfl)
          · skip
            have h_61 : (v 11 0) ≤ ((v 18) ((k - 1) * 4 + i)) := h_61
            have hP : va_P D vwCl (xW a cI cJ cZ (va_up v 19 (g)) c) H := hP
            have hD : va_D A (xW a cI cJ cZ (va_up v 19 (g)) c) := hD
            refine w_if_eq (x := 0) hx hb dX0_load_64 (tgt := 82) (by decide) (by decide) (fun _ => ?_) (fun h => absurd h (by decide))
            refine lv_iinc (v := nI (i + 1)) (lv' := [(3, .int (nI (i + 1))), (5, .int (nI ((v 18) ((k - 1) * 4 + i)))), (4, .int (nI (1))), (0, .ref (a 10)), (1, .int (nI (k))), (2, .int (nI (kn)))]) hx hb dX0_load_82 hl (k := 2) rfl (nI_add i 1) (by decide) rfl (fun ls hl => ?_)
            refine lv_goto (tgt := 10) hx hb dX0_load_85 (by decide) ?_
            exact ih10 (i + 1) g _ _ _ (by omega) (by omega) (by intro b hb; show _ = sm _ i + _; first | (rw [up_add, h2 b hb, ldt_b h1_21 h2_21]; rfl) | (rw [h2 b hb, ldt_b h1_21 h2_21, if_neg (by omega)]; rfl) | (rw [up_add, h2 b hb, ldt_f h_21 (by omega)]; rfl) | (rw [h2 b hb, ldt_f h_21 (by omega), if_neg (by omega)]; rfl) | (rw [h2 b hb, ldt_n h_21 (by omega)]; rfl)) hP hD hS (lv_sub hl [0, 3, 4, 5] rfl)
        · skip
          have h_21 : ¬ (k % 2 = 1 ∧ (v 21) i ≠ 0) := h_21
          have hP : va_P D vwCl (xW a cI cJ cZ (va_up v 19 (g)) c) H := hP
          have hD : va_D A (xW a cI cJ cZ (va_up v 19 (g)) c) := hD
          refine lv_istore (lv' := [(4, .int (nI (0))), (3, .int (nI (i))), (0, .ref (a 10)), (1, .int (nI (k))), (2, .int (nI (kn)))]) hx hb dX0_load_24 hl (by decide) rfl (fun ls hl => ?_)
          refine lv_aload_n hx hb dX0_load_26 rfl (lv_at hl 2 rfl) ?_
          refine lv_iload hx hb dX0_load_27 (lv_at hl 0 rfl) ?_
          refine w_if_eq (x := 0) hx hb dX0_load_29 (tgt := 38) (by decide) (by decide) (fun _ => ?_) (fun h => absurd h (by decide))
          refine lv_iload_n hx hb dX0_load_38 rfl (lv_at hl 3 rfl) ?_
          refine lv_iload_n hx hb dX0_load_39 rfl (lv_at hl 1 rfl) ?_
          refine w_cVi (rest := []) hx hb hml hown hts (k_stepOf l D a cI cJ cZ A (va_up v 19 (g)) c k i  (by omega)) 2 gX0_load_X0_stepOf rfl hdX0_stepOf ⟨Nat.le_of_ble_eq_true rfl, Nat.le_of_ble_eq_true rfl⟩ hK hN hP hD hS hA 10 0 rfl rfl rfl rfl hl.1 rfl (Nat.le_of_ble_eq_true rfl) dX0_load_40 ⟨Nat.le_of_ble_eq_true rfl, Nat.le_of_ble_eq_true rfl⟩ (fun r u H locs hq hP hD hS => ?_)
          have hr_40 := hq
          have hr_40 : r = nI ((v 18) (k * 4 + i)) := hr_40
          subst hr_40
          have hP : va_P D vwCl (xW a cI cJ cZ (va_up v 19 (g)) c) H := hP
          have hD : va_D A (xW a cI cJ cZ (va_up v 19 (g)) c) := hD
          refine lv_istore (lv' := [(5, .int (nI ((v 18) (k * 4 + i)))), (4, .int (nI (0))), (3, .int (nI (i))), (0, .ref (a 10)), (1, .int (nI (k))), (2, .int (nI (kn)))]) hx hb dX0_load_43 hl (by decide) rfl (fun ls hl => ?_)
          refine lv_iload hx hb dX0_load_45 (lv_at hl 1 rfl) ?_
          refine w_if_ne (x := 0) hx hb dX0_load_47 (tgt := 55) (by decide) (by decide) (fun h => absurd h (by decide)) (fun _ => ?_)
          refine lv_iload_n hx hb dX0_load_50 rfl (lv_at hl 2 rfl) ?_
          refine lv_iload_n hx hb dX0_load_51 rfl (lv_at hl 5 rfl) ?_
          refine w_icmp_ge (x := i) (y := kn) hx hb dX0_load_52 (tgt := 82) (by decide) (by omega) (by omega) (fun c52 => ?_) (fun c52 => ?_)
          · skip
            refine lv_iinc (v := nI (i + 1)) (lv' := [(3, .int (nI (i + 1))), (5, .int (nI ((v 18) (k * 4 + i)))), (4, .int (nI (0))), (0, .ref (a 10)), (1, .int (nI (k))), (2, .int (nI (kn)))]) hx hb dX0_load_82 hl (k := 2) rfl (nI_add i 1) (by decide) rfl (fun ls hl => ?_)
            refine lv_goto (tgt := 10) hx hb dX0_load_85 (by decide) ?_
            exact ih10 (i + 1) g _ _ _ (by omega) (by omega) (by intro b hb; show _ = sm _ i + _; first | (rw [up_add, h2 b hb, ldt_b h1_21 h2_21]; rfl) | (rw [h2 b hb, ldt_b h1_21 h2_21, if_neg (by omega)]; rfl) | (rw [up_add, h2 b hb, ldt_f h_21 (by omega)]; rfl) | (rw [h2 b hb, ldt_f h_21 (by omega), if_neg (by omega)]; rfl) | (rw [h2 b hb, ldt_n h_21 (by omega)]; rfl)) hP hD hS (lv_sub hl [0, 3, 4, 5] rfl)
          · skip
            refine lv_aload_n hx hb dX0_load_55 rfl (lv_at hl 3 rfl) ?_
            refine va_get (D := D) (ci := 0) (v := .ref (a 11)) (C := RX0) (T := TX0) (N := 8) hx hb hts hinX0 hown hK hP 10 rfl rfl 0 (by decide) (hts (.fieldLink RX0 12 "DancedLock$Dance" "floor" "LDancedLock$Floor;") (List.mem_of_getElem? (i := 3) rfl)) (fun _ h9 => h9) rfl dX0_load_56 ?_
            refine lv_iload hx hb dX0_load_59 (lv_at hl 0 rfl) ?_
            refine w_cVi (rest := []) hx hb hml hown hts (k_hasBoard_N l D a cI cJ cZ A (va_up v 19 (g)) c ((v 18) (k * 4 + i))  (by show (v 11 0) ≤ 7; first | assumption | omega | (have := hsp (k * 4 + i) (by omega); omega) | (have := hsp ((k - 1) * 4 + i) (by omega); omega)) (by first | assumption | omega | (have := hsp (k * 4 + i) (by omega); omega) | (have := hsp ((k - 1) * 4 + i) (by omega); omega))) 1 gX0_load_X2_hasBoard rfl hdX2_hasBoard ⟨Nat.le_of_ble_eq_true rfl, Nat.le_of_ble_eq_true rfl⟩ hK hN hP hD hS hA 11 2 rfl rfl rfl rfl hl.1 rfl (Nat.le_of_ble_eq_true rfl) dX0_load_61 ⟨Nat.le_of_ble_eq_true rfl, Nat.le_of_ble_eq_true rfl⟩ (fun r u H locs hq hP hD hS => ?_)
            rcases hq with ⟨rfl, h_61⟩ | ⟨rfl, h_61⟩
            · skip
              have h_61 : ((v 18) (k * 4 + i)) < (v 11 0) := h_61
              have hP : va_P D vwCl (xW a cI cJ cZ (va_up v 19 (g)) c) H := hP
              have hD : va_D A (xW a cI cJ cZ (va_up v 19 (g)) c) := hD
              refine w_if_eq (x := 1) hx hb dX0_load_64 (tgt := 82) (by decide) (by decide) (fun h => absurd h (by decide)) (fun _ => ?_)
              refine lv_aload_n hx hb dX0_load_67 rfl (lv_at hl 3 rfl) ?_
              refine va_get (D := D) (ci := 0) (v := .ref (a 19)) (C := RX0) (T := TX0) (N := 8) hx hb hts hinX0 hown hK hP 10 rfl rfl 3 (by decide) (hts (.fieldLink RX0 29 "DancedLock$Dance" "loads" "[I") (List.mem_of_getElem? (i := 1) rfl)) (fun _ h9 => h9) rfl dX0_load_68 ?_
              refine lv_iload hx hb dX0_load_71 (lv_at hl 0 rfl) ?_
              refine lv_dup2_11 hx hb dX0_load_73 rfl rfl ?_
              refine w_iald (f := g) hx hb hK hP 19 0 rfl rfl (i := (v 18) (k * 4 + i)) (by omega) (by decide) dX0_load_74 ?_
              refine lv_aload_n hx hb dX0_load_75 rfl (lv_at hl 3 rfl) ?_
              refine lv_iload_n hx hb dX0_load_76 rfl (lv_at hl 2 rfl) ?_
              refine w_cVi (rest := [.int (nI (g ((v 18) (k * 4 + i)))), .int (nI ((v 18) (k * 4 + i))), .ref (a 19)]) hx hb hml hown hts (k_pullOf l D a cI cJ cZ A (va_up v 19 (g)) c i  (by show (v 10 6) ≤ 4; first | assumption | omega | exact hpl) (by show ∀ i, i < (v 10 6) → (v 20) i ≤ 9; first | assumption | omega | exact hpl) (by show i < (v 10 6); first | assumption | omega | exact hpl)) 1 gX0_load_X0_pullOf rfl hdX0_pullOf ⟨Nat.le_of_ble_eq_true rfl, Nat.le_of_ble_eq_true rfl⟩ hK hN hP hD hS hA 10 0 rfl rfl rfl rfl hl.1 rfl (Nat.le_of_ble_eq_true rfl) dX0_load_77 ⟨Nat.le_of_ble_eq_true rfl, Nat.le_of_ble_eq_true rfl⟩ (fun r u H locs hq hP hD hS => ?_)
              have hr_77 := hq
              have hr_77 : r = nI ((v 20) i) := hr_77
              subst hr_77
              have hP : va_P D vwCl (xW a cI cJ cZ (va_up v 19 (g)) c) H := hP
              have hD : va_D A (xW a cI cJ cZ (va_up v 19 (g)) c) := hD
              refine w_iadd (x := g ((v 18) (k * 4 + i))) (y := (v 20) i) hx hb dX0_load_80  ?_
              refine w_iast (f := g) (w := g ((v 18) (k * 4 + i)) + ((v 20) i)) hx hb hK hP hD hS 19 0 rfl rfl (i := (v 18) (k * 4 + i)) (by omega) (by decide) dX0_load_81 (fun H locs hP hD hS => ?_)
              have hP : va_P D vwCl (xW a cI cJ cZ (va_up v 19 (va_up g ((v 18) (k * 4 + i)) (g ((v 18) (k * 4 + i)) + ((v 20) i)))) c) H := hP
              have hD : va_D A (xW a cI cJ cZ (va_up v 19 (va_up g ((v 18) (k * 4 + i)) (g ((v 18) (k * 4 + i)) + ((v 20) i)))) c) := hD
              refine lv_iinc (v := nI (i + 1)) (lv' := [(3, .int (nI (i + 1))), (5, .int (nI ((v 18) (k * 4 + i)))), (4, .int (nI (0))), (0, .ref (a 10)), (1, .int (nI (k))), (2, .int (nI (kn)))]) hx hb dX0_load_82 hl (k := 2) rfl (nI_add i 1) (by decide) rfl (fun ls hl => ?_)
              refine lv_goto (tgt := 10) hx hb dX0_load_85 (by decide) ?_
              exact ih10 (i + 1) (va_up g ((v 18) (k * 4 + i)) (g ((v 18) (k * 4 + i)) + ((v 20) i))) _ _ _ (by omega) (by omega) (by intro b hb; show _ = sm _ i + _; first | (rw [up_add, h2 b hb, ldt_b h1_21 h2_21]; rfl) | (rw [h2 b hb, ldt_b h1_21 h2_21, if_neg (by omega)]; rfl) | (rw [up_add, h2 b hb, ldt_f h_21 (by omega)]; rfl) | (rw [h2 b hb, ldt_f h_21 (by omega), if_neg (by omega)]; rfl) | (rw [h2 b hb, ldt_n h_21 (by omega)]; rfl)) hP hD hS (lv_sub hl [0, 3, 4, 5] rfl)
            · skip
              have h_61 : (v 11 0) ≤ ((v 18) (k * 4 + i)) := h_61
              have hP : va_P D vwCl (xW a cI cJ cZ (va_up v 19 (g)) c) H := hP
              have hD : va_D A (xW a cI cJ cZ (va_up v 19 (g)) c) := hD
              refine w_if_eq (x := 0) hx hb dX0_load_64 (tgt := 82) (by decide) (by decide) (fun _ => ?_) (fun h => absurd h (by decide))
              refine lv_iinc (v := nI (i + 1)) (lv' := [(3, .int (nI (i + 1))), (5, .int (nI ((v 18) (k * 4 + i)))), (4, .int (nI (0))), (0, .ref (a 10)), (1, .int (nI (k))), (2, .int (nI (kn)))]) hx hb dX0_load_82 hl (k := 2) rfl (nI_add i 1) (by decide) rfl (fun ls hl => ?_)
              refine lv_goto (tgt := 10) hx hb dX0_load_85 (by decide) ?_
              exact ih10 (i + 1) g _ _ _ (by omega) (by omega) (by intro b hb; show _ = sm _ i + _; first | (rw [up_add, h2 b hb, ldt_b h1_21 h2_21]; rfl) | (rw [h2 b hb, ldt_b h1_21 h2_21, if_neg (by omega)]; rfl) | (rw [up_add, h2 b hb, ldt_f h_21 (by omega)]; rfl) | (rw [h2 b hb, ldt_f h_21 (by omega), if_neg (by omega)]; rfl) | (rw [h2 b hb, ldt_n h_21 (by omega)]; rfl)) hP hD hS (lv_sub hl [0, 3, 4, 5] rfl)
  exact L10 ((v 10 6 - 0) + 1) 0 (flf ((v 19)) 0 7 0) _ _ _ (Nat.lt_succ_self _) (by omega) (by intro b hb; show (if _ then _ else _) = _; rw [if_pos (by omega)]; rfl) hP hD hS (lv_sub hl [0, 1, 2, 3] rfl)

set_option maxHeartbeats 4000000 in
set_option maxRecDepth 100000 in
theorem k_feltIn (l : Launch) (D : va_G) (a : Nat → Nat) (cI cJ cZ : ClassId) (A : Nat → Prop) (v : Nat → Nat → Nat) (c : Nat → Nat → Int32) (k : Nat) (hI : XI v) (hk : k < 6) :
    mI l yX0_feltIn wsX0_feltIn 3 65 [.ref (a 10), .int (nI k)] D (xT cI cJ cZ) A (xW a cI cJ cZ v c) (fun u : ((Nat → Nat → Nat) × (Nat → Nat → Int32)) => xW a cI cJ cZ u.1 u.2)
    (fun (r : Int32) (u : ((Nat → Nat → Nat) × (Nat → Nat → Int32))) => ∃ g19 : Nat → Nat, ∃ g20 : Nat → Nat, ∃ g21 : Nat → Nat, r = nI (FE (v 11 0) (v 12) (v 15 0) (lA (v 16)) (pA (v 16) (v 17)) (v 18) k) ∧ u = (va_up (va_up (va_up (va_up v 10 (va_up (v 10) 6 (v 15 0))) 19 (g19)) 20 (g20)) 21 (g21), c)) := by
  refine w_bI cX0_feltIn 4 .int (by decide) rfl (Nat.le_of_ble_eq_true rfl) (Or.inl rfl) ?_
  intro p e s m args below meth c0 ls Q hx hb hml hts hown hK hN hA hret hP hD hS hl
  have hl : lv_has ls 4 [(0, .ref (a 10)), (1, .int (nI (k)))] := hl
  have hinX0 : ∀ w ∈ wsX00, w ∈ wsX0_feltIn := fun w h => List.mem_cons_of_mem _ (List.mem_append_left _ (List.mem_append_left _ (List.mem_append_right _ h)))
  have hinX2 : ∀ w ∈ wsX20, w ∈ wsX0_feltIn := fun w h => List.mem_cons_of_mem _ (List.mem_append_left _ (List.mem_append_right _ h))
  obtain ⟨hnb, hnd, hbt, hfg, hne, hnc, hdk, hnf, hkn, hln, hst, hdc, hsp⟩ := id hI
  refine lv_aload_n hx hb dX0_feltIn_0 rfl (lv_at hl 0 rfl) ?_
  refine lv_iconst (v := nI (0)) hx hb dX0_feltIn_1 (by decide) ?_
  refine w_cVv (rest := []) hx hb hml hown hts (k_callUp0 l D a cI cJ cZ A v c   (by first | assumption | omega) (by first | assumption | omega)) 1 gX0_feltIn_X0_callUp rfl hdX0_callUp ⟨Nat.le_of_ble_eq_true rfl, Nat.le_of_ble_eq_true rfl⟩ hK hN hP hD hS hA 10 0 rfl rfl rfl rfl hl.1 rfl (Nat.le_of_ble_eq_true rfl) dX0_feltIn_2 ⟨Nat.le_of_ble_eq_true rfl, Nat.le_of_ble_eq_true rfl⟩ (fun u H locs hq hP hD hS => ?_)
  obtain ⟨g20_2, g21_2, rfl, hg_2⟩ := hq
  have hP : va_P D vwCl (xW a cI cJ cZ (va_up (va_up (va_up v 10 (va_up (v 10) 6 ((v 15 0)))) 20 (g20_2)) 21 (g21_2)) c) H := hP
  have hD : va_D A (xW a cI cJ cZ (va_up (va_up (va_up v 10 (va_up (v 10) 6 ((v 15 0)))) 20 (g20_2)) 21 (g21_2)) c) := hD
  have hpl : ∀ d, d < v 15 0 → g20_2 d ≤ 9 := fun d hd => by rw [(hg_2 d hd).1]; exact pA_le (hdk d hd).2.2
  have hli : ∀ d, d < v 15 0 → g21_2 d ≤ 1 := fun d hd => by rw [(hg_2 d hd).2]; exact lA_le
  refine lv_aload_n hx hb dX0_feltIn_5 rfl (lv_at hl 0 rfl) ?_
  refine lv_iload_n hx hb dX0_feltIn_6 rfl (lv_at hl 1 rfl) ?_
  refine lv_aload_n hx hb dX0_feltIn_7 rfl (lv_at hl 0 rfl) ?_
  refine va_get (D := D) (ci := 0) (v := .int (nI ((v 15 0)))) (C := RX0) (T := TX0) (N := 8) hx hb hts hinX0 hown hK hP 10 rfl rfl 6 (by decide) (hts (.fieldLink RX0 53 "DancedLock$Dance" "dancers" "I") (List.mem_of_getElem? (i := 1) rfl)) (fun _ h9 => h9) rfl dX0_feltIn_8 ?_
  refine w_cVv (rest := []) hx hb hml hown hts (k_load l D a cI cJ cZ A (va_up (va_up (va_up v 10 (va_up (v 10) 6 ((v 15 0)))) 20 (g20_2)) 21 (g21_2)) c k (v 15 0)  (by show (v 15 0) ≤ 4; first | assumption | omega | exact hsp) (by show ∀ d, d < (v 15 0) → g21_2 d ≤ 1; first | assumption | omega | exact hsp) (by show ∀ d, d < (v 15 0) → g20_2 d ≤ 9; first | assumption | omega | exact hsp) (by show (v 11 0) ≤ 7; first | assumption | omega | exact hsp) (by show ∀ q, q < 24 → (v 18) q < 8; first | assumption | omega | exact hsp) (by first | assumption | omega | exact hsp) (by first | assumption | omega | exact hsp)) 2 gX0_feltIn_X0_load rfl hdX0_load ⟨Nat.le_of_ble_eq_true rfl, Nat.le_of_ble_eq_true rfl⟩ hK hN hP hD hS hA 10 0 rfl rfl rfl rfl hl.1 rfl (Nat.le_of_ble_eq_true rfl) dX0_feltIn_11 ⟨Nat.le_of_ble_eq_true rfl, Nat.le_of_ble_eq_true rfl⟩ (fun u H locs hq hP hD hS => ?_)
  obtain ⟨g19_11, rfl, hg_11⟩ := hq
  have hg_11 : ∀ b, b < (v 11 0) → g19_11 b = LD (g20_2) (g21_2) ((v 18)) k (v 15 0) ((v 15 0)) b := hg_11
  have hP : va_P D vwCl (xW a cI cJ cZ (va_up (va_up (va_up (va_up v 10 (va_up (v 10) 6 ((v 15 0)))) 19 (g19_11)) 20 (g20_2)) 21 (g21_2)) c) H := hP
  have hD : va_D A (xW a cI cJ cZ (va_up (va_up (va_up (va_up v 10 (va_up (v 10) 6 ((v 15 0)))) 19 (g19_11)) 20 (g20_2)) 21 (g21_2)) c) := hD
  have hg2 : ∀ b, b < v 11 0 → g19_11 b = sm (fun d => if tr (lA (v 16)) (v 18) k d = b then pA (v 16) (v 17) d else 0) (v 15 0) := fun b hb => (hg_11 b hb).trans (LD_all hg_2)
  have hle : ∀ b, b < v 11 0 → g19_11 b ≤ 36 := fun b hb => by rw [hg_11 b hb]; have h9 := LD_le (st := v 18) (li := g21_2) (k := k) (kn := v 15 0) (b := b) hpl; omega
  refine lv_iconst (v := nI (0)) hx hb dX0_feltIn_14 (by decide) ?_
  refine lv_istore_n (lv' := [(2, .int (nI (0))), (0, .ref (a 10)), (1, .int (nI (k)))]) hx hb dX0_feltIn_15 rfl hl (by decide) rfl (fun ls hl => ?_)
  refine lv_iconst (v := nI (0)) hx hb dX0_feltIn_16 (by decide) ?_
  refine lv_istore_n (lv' := [(3, .int (nI (0))), (2, .int (nI (0))), (0, .ref (a 10)), (1, .int (nI (k)))]) hx hb dX0_feltIn_17 rfl hl (by decide) rfl (fun ls hl => ?_)
  have L18 : ∀ (n : Nat) (i : Nat) (q : Nat) (H : Heap) (locs : List Loc) (ls : Array Slot), v 11 0 - i < n → (i ≤ v 11 0) → (q = fe (fun b => sm (fun d => if tr (lA (v 16)) (v 18) k d = b then pA (v 16) (v 17) d else 0) (v 15 0)) (v 12) i) → va_P D vwCl (xW a cI cJ cZ (va_up (va_up (va_up (va_up v 10 (va_up (v 10) 6 ((v 15 0)))) 19 (g19_11)) 20 (g20_2)) 21 (g21_2)) c) H → va_D A (xW a cI cJ cZ (va_up (va_up (va_up (va_up v 10 (va_up (v 10) 6 ((v 15 0)))) 19 (g19_11)) 20 (g20_2)) 21 (g21_2)) c) → va_S A s.heap H locs → lv_has ls 4 [(2, .int (nI (q))), (3, .int (nI (i))), (0, .ref (a 10)), (1, .int (nI (k)))] → W p l e { frames := 3, cells := 0, slots := 0, locals := 65 } s m args below meth c0 H locs 0 0 Q (F0 m 18 ls []) := by
    intro n
    induction n with
    | zero => intro i q H locs ls hm; exact absurd hm (Nat.not_lt_zero _)
    | succ n ih18 =>
      intro i q H locs ls hm18 h1 h2 hP hD hS hl
      refine lv_iload_n hx hb dX0_feltIn_18 rfl (lv_at hl 1 rfl) ?_
      refine lv_aload_n hx hb dX0_feltIn_19 rfl (lv_at hl 2 rfl) ?_
      refine va_get (D := D) (ci := 0) (v := .ref (a 11)) (C := RX0) (T := TX0) (N := 8) hx hb hts hinX0 hown hK hP 10 rfl rfl 0 (by decide) (hts (.fieldLink RX0 12 "DancedLock$Dance" "floor" "LDancedLock$Floor;") (List.mem_of_getElem? (i := 2) rfl)) (fun _ h9 => h9) rfl dX0_feltIn_20 ?_
      refine va_getN (D := D) (ci := 2) (v := .int (nI (v 11 0))) (C := RX2) (T := TX2) (N := 5) hx hb hts hinX2 hown hK hP 11 rfl rfl 0 (by decide) (va_Nw.use rfl (hN (.fieldLinkNest RX0 97 "DancedLock$Floor" "boards" "I" "DancedLock") (List.mem_of_getElem? (i := 0) rfl))) (fun _ h9 => h9) rfl dX0_feltIn_23 ?_
      refine w_icmp_ge (x := i) (y := v 11 0) hx hb dX0_feltIn_26 (tgt := 49) (by decide) (by omega) (by omega) (fun c26 => ?_) (fun c26 => ?_)
      · skip
        refine lv_iload_n hx hb dX0_feltIn_49 rfl (lv_at hl 0 rfl) ?_
        exact hret (nI (q)) (va_up (va_up (va_up (va_up v 10 (va_up (v 10) 6 ((v 15 0)))) 19 (g19_11)) 20 (g20_2)) 21 (g21_2), c) _ _ 50 _ dX0_feltIn_50 rfl (by have e : i = v 11 0 := (by omega); subst e; exact ⟨g19_11, g20_2, g21_2, by rw [h2]; rfl, rfl⟩) hP hD hS
      · skip
        have hgi := hg2 i (by omega)
        have hni := hne i (by omega)
        have hgl := hle i (by omega)
        refine lv_aload_n hx hb dX0_feltIn_29 rfl (lv_at hl 2 rfl) ?_
        refine lv_iload_n hx hb dX0_feltIn_30 rfl (lv_at hl 1 rfl) ?_
        refine w_cVi (rest := []) hx hb hml hown hts (k_missingOn l D a cI cJ cZ A (va_up (va_up (va_up (va_up v 10 (va_up (v 10) 6 ((v 15 0)))) 19 (g19_11)) 20 (g20_2)) 21 (g21_2)) c i  (by show (v 11 0) ≤ 7; first | assumption | omega) (by show i < (v 11 0); first | assumption | omega)) 1 gX0_feltIn_X0_missingOn rfl hdX0_missingOn ⟨Nat.le_of_ble_eq_true rfl, Nat.le_of_ble_eq_true rfl⟩ hK hN hP hD hS hA 10 0 rfl rfl rfl rfl hl.1 rfl (Nat.le_of_ble_eq_true rfl) dX0_feltIn_31 ⟨Nat.le_of_ble_eq_true rfl, Nat.le_of_ble_eq_true rfl⟩ (fun r u H locs hq hP hD hS => ?_)
        have hr_31 := hq
        have hr_31 : r = nI ((v 12) i) - nI (g19_11 i) := hr_31
        subst hr_31
        have hP : va_P D vwCl (xW a cI cJ cZ (va_up (va_up (va_up (va_up v 10 (va_up (v 10) 6 ((v 15 0)))) 19 (g19_11)) 20 (g20_2)) 21 (g21_2)) c) H := hP
        have hD : va_D A (xW a cI cJ cZ (va_up (va_up (va_up (va_up v 10 (va_up (v 10) 6 ((v 15 0)))) 19 (g19_11)) 20 (g20_2)) 21 (g21_2)) c) := hD
        refine lv_topi (fun zz hzz => ?_)
        have zzT : zz.toInt = (v 12 i : Int) - g19_11 i := by rw [hzz]; exact pk_sub_toInt (by omega) (by omega)
        refine r_if_gt hx hb dX0_feltIn_34 (tgt := 43) (by decide) (fun c34 => ?_) (fun c34 => ?_)
        · skip
          refine lv_iinc (v := nI (i + 1)) (lv' := [(3, .int (nI (i + 1))), (2, .int (nI (q))), (0, .ref (a 10)), (1, .int (nI (k)))]) hx hb dX0_feltIn_43 hl (k := 1) rfl (nI_add i 1) (by decide) rfl (fun ls hl => ?_)
          refine lv_goto (tgt := 18) hx hb dX0_feltIn_46 (by decide) ?_
          exact ih18 (i + 1) q _ _ _ (by omega) (by omega) (by first | (rw [h2, fe_y (by show _ ≤ sm _ _; rw [← hgi]; omega), Nat.one_mul]) | (rw [h2, fe_n (by show sm _ _ < _; rw [← hgi]; omega)])) hP hD hS (lv_sub hl [1, 0, 2, 3] rfl)
        · skip
          refine lv_iload_n hx hb dX0_feltIn_37 rfl (lv_at hl 0 rfl) ?_
          refine lv_iconst (v := nI (1)) hx hb dX0_feltIn_38 (by decide) ?_
          refine lv_iload_n hx hb dX0_feltIn_39 rfl (lv_at hl 1 rfl) ?_
          refine w_ishl (x := 1) (y := i) hx hb dX0_feltIn_40 (by omega) (by have := pow_le_128 (show i ≤ 7 by omega); omega) ?_
          refine w_ior (x := q) (y := 1 * 2 ^ i) hx hb dX0_feltIn_41  ?_
          refine lv_istore_n (lv' := [(2, .int (nI (q ||| (1 * 2 ^ i)))), (3, .int (nI (i))), (0, .ref (a 10)), (1, .int (nI (k)))]) hx hb dX0_feltIn_42 rfl hl (by decide) rfl (fun ls hl => ?_)
          refine lv_iinc (v := nI (i + 1)) (lv' := [(3, .int (nI (i + 1))), (2, .int (nI (q ||| (1 * 2 ^ i)))), (0, .ref (a 10)), (1, .int (nI (k)))]) hx hb dX0_feltIn_43 hl (k := 1) rfl (nI_add i 1) (by decide) rfl (fun ls hl => ?_)
          refine lv_goto (tgt := 18) hx hb dX0_feltIn_46 (by decide) ?_
          exact ih18 (i + 1) (q ||| (1 * 2 ^ i)) _ _ _ (by omega) (by omega) (by first | (rw [h2, fe_y (by show _ ≤ sm _ _; rw [← hgi]; omega), Nat.one_mul]) | (rw [h2, fe_n (by show sm _ _ < _; rw [← hgi]; omega)])) hP hD hS (lv_sub hl [1, 0, 2, 3] rfl)
  exact L18 ((v 11 0 - 0) + 1) 0 0 _ _ _ (Nat.lt_succ_self _) (by omega) (by rfl) hP hD hS (lv_sub hl [1, 0, 2, 3] rfl)

set_option maxHeartbeats 4000000 in
set_option maxRecDepth 100000 in
theorem k_firstWrong (l : Launch) (D : va_G) (a : Nat → Nat) (cI cJ cZ : ClassId) (A : Nat → Prop) (v : Nat → Nat → Nat) (c : Nat → Nat → Int32) (d : Nat) (hI : XI v) (hd : d < v 11 1) :
    mI l yX0_firstWrong wsX0_firstWrong 4 88 [.ref (a 10), .int (nI d)] D (xT cI cJ cZ) A (xW a cI cJ cZ v c) (fun u : ((Nat → Nat → Nat) × (Nat → Nat → Int32)) => xW a cI cJ cZ u.1 u.2)
    (fun (r : Int32) (u : ((Nat → Nat → Nat) × (Nat → Nat → Int32))) => (∃ g19 : Nat → Nat, ∃ g20 : Nat → Nat, ∃ g21 : Nat → Nat, ∃ nd : Nat, ∃ k : Nat, r = nI (k) ∧ u = (va_up (va_up (va_up (va_up v 10 (va_up (v 10) 6 (nd))) 19 (g19)) 20 (g20)) 21 (g21), c) ∧ k < v 13 d ∧ FE (v 11 0) (v 12) (v 15 0) (lA (v 16)) (pA (v 16) (v 17)) (v 18) k ≠ v 14 (d * 6 + k) ∧ (∀ j, j < k → FE (v 11 0) (v 12) (v 15 0) (lA (v 16)) (pA (v 16) (v 17)) (v 18) j = v 14 (d * 6 + j))) ∨ (∃ g19 : Nat → Nat, ∃ g20 : Nat → Nat, ∃ g21 : Nat → Nat, ∃ nd : Nat, r = -9 ∧ u = (va_up (va_up (va_up (va_up v 10 (va_up (v 10) 6 (nd))) 19 (g19)) 20 (g20)) 21 (g21), c) ∧ (∀ j, j < v 13 d → FE (v 11 0) (v 12) (v 15 0) (lA (v 16)) (pA (v 16) (v 17)) (v 18) j = v 14 (d * 6 + j)))) := by
  refine w_bI cX0_firstWrong 3 .int (by decide) rfl (Nat.le_of_ble_eq_true rfl) (Or.inl rfl) ?_
  intro p e s m args below meth c0 ls Q hx hb hml hts hown hK hN hA hret hP hD hS hl
  have hl : lv_has ls 3 [(0, .ref (a 10)), (1, .int (nI (d)))] := hl
  have hinX0 : ∀ w ∈ wsX00, w ∈ wsX0_firstWrong := fun w h => List.mem_cons_of_mem _ (List.mem_append_left _ (List.mem_append_left _ (List.mem_append_right _ h)))
  obtain ⟨hnb, hnd, hbt, hfg, hne, hnc, hdk, hnf, hkn, hln, hst, hdc, hsp⟩ := id hI
  have hbd := hbt d hd
  refine lv_iconst (v := nI (0)) hx hb dX0_firstWrong_0 (by decide) ?_
  refine lv_istore_n (lv' := [(2, .int (nI (0))), (0, .ref (a 10)), (1, .int (nI (d)))]) hx hb dX0_firstWrong_1 rfl hl (by decide) rfl (fun ls hl => ?_)
  have L2 : ∀ (n : Nat) (i : Nat) (g19 : Nat → Nat) (g20 : Nat → Nat) (g21 : Nat → Nat) (nd : Nat) (H : Heap) (locs : List Loc) (ls : Array Slot), v 13 d - i < n → (i ≤ v 13 d) → (∀ j, j < i → FE (v 11 0) (v 12) (v 15 0) (lA (v 16)) (pA (v 16) (v 17)) (v 18) j = v 14 (d * 6 + j)) → va_P D vwCl (xW a cI cJ cZ (va_up (va_up (va_up (va_up v 10 (va_up (v 10) 6 (nd))) 19 (g19)) 20 (g20)) 21 (g21)) c) H → va_D A (xW a cI cJ cZ (va_up (va_up (va_up (va_up v 10 (va_up (v 10) 6 (nd))) 19 (g19)) 20 (g20)) 21 (g21)) c) → va_S A s.heap H locs → lv_has ls 3 [(2, .int (nI (i))), (0, .ref (a 10)), (1, .int (nI (d)))] → W p l e { frames := 4, cells := 0, slots := 0, locals := 88 } s m args below meth c0 H locs 0 0 Q (F0 m 2 ls []) := by
    intro n
    induction n with
    | zero => intro i g19 g20 g21 nd H locs ls hm; exact absurd hm (Nat.not_lt_zero _)
    | succ n ih2 =>
      intro i g19 g20 g21 nd H locs ls hm2 h1 h2 hP hD hS hl
      refine lv_iload_n hx hb dX0_firstWrong_2 rfl (lv_at hl 0 rfl) ?_
      refine lv_aload_n hx hb dX0_firstWrong_3 rfl (lv_at hl 1 rfl) ?_
      refine va_get (D := D) (ci := 0) (v := .ref (a 11)) (C := RX0) (T := TX0) (N := 8) hx hb hts hinX0 hown hK hP 10 rfl rfl 0 (by decide) (hts (.fieldLink RX0 12 "DancedLock$Dance" "floor" "LDancedLock$Floor;") (List.mem_of_getElem? (i := 1) rfl)) (fun _ h9 => h9) rfl dX0_firstWrong_4 ?_
      refine lv_iload_n hx hb dX0_firstWrong_7 rfl (lv_at hl 2 rfl) ?_
      refine w_cVi (rest := [.int (nI (i))]) hx hb hml hown hts (k_beatsOf l D a cI cJ cZ A (va_up (va_up (va_up (va_up v 10 (va_up (v 10) 6 (nd))) 19 (g19)) 20 (g20)) 21 (g21)) c d  (by show (v 11 1) ≤ 4; first | exact hI | assumption | omega) (by show d < (v 11 1); first | exact hI | assumption | omega)) 1 gX0_firstWrong_X2_beatsOf rfl hdX2_beatsOf ⟨Nat.le_of_ble_eq_true rfl, Nat.le_of_ble_eq_true rfl⟩ hK hN hP hD hS hA 11 2 rfl rfl rfl rfl hl.1 rfl (Nat.le_of_ble_eq_true rfl) dX0_firstWrong_8 ⟨Nat.le_of_ble_eq_true rfl, Nat.le_of_ble_eq_true rfl⟩ (fun r u H locs hq hP hD hS => ?_)
      have hr_8 := hq
      have hr_8 : r = nI ((v 13) d) := hr_8
      subst hr_8
      have hP : va_P D vwCl (xW a cI cJ cZ (va_up (va_up (va_up (va_up v 10 (va_up (v 10) 6 (nd))) 19 (g19)) 20 (g20)) 21 (g21)) c) H := hP
      have hD : va_D A (xW a cI cJ cZ (va_up (va_up (va_up (va_up v 10 (va_up (v 10) 6 (nd))) 19 (g19)) 20 (g20)) 21 (g21)) c) := hD
      refine w_icmp_ge (x := i) (y := (v 13) d) hx hb dX0_firstWrong_11 (tgt := 39) (by decide) (by omega) (by omega) (fun c11 => ?_) (fun c11 => ?_)
      · skip
        refine lv_bipush (v := -9) hx hb dX0_firstWrong_39 (by decide) ?_
        exact hret ((-9)) (va_up (va_up (va_up (va_up v 10 (va_up (v 10) 6 (nd))) 19 (g19)) 20 (g20)) 21 (g21), c) _ _ 41 _ dX0_firstWrong_41 rfl (by exact Or.inr ⟨_, _, _, _, rfl, rfl, fun j hj => h2 j (by omega)⟩) hP hD hS
      · skip
        refine lv_aload_n hx hb dX0_firstWrong_14 rfl (lv_at hl 1 rfl) ?_
        refine lv_iload_n hx hb dX0_firstWrong_15 rfl (lv_at hl 0 rfl) ?_
        refine w_cVi (rest := []) hx hb hml hown hts (k_feltIn l D a cI cJ cZ A (va_up (va_up (va_up (va_up v 10 (va_up (v 10) 6 (nd))) 19 (g19)) 20 (g20)) 21 (g21)) c i  (by show XI (va_up (va_up (va_up (va_up v 10 (va_up (v 10) 6 (nd))) 19 (g19)) 20 (g20)) 21 (g21)); first | exact hI | assumption | omega) (by first | exact hI | assumption | omega)) 1 gX0_firstWrong_X0_feltIn rfl hdX0_feltIn ⟨Nat.le_of_ble_eq_true rfl, Nat.le_of_ble_eq_true rfl⟩ hK hN hP hD hS hA 10 0 rfl rfl rfl rfl hl.1 rfl (Nat.le_of_ble_eq_true rfl) dX0_firstWrong_16 ⟨Nat.le_of_ble_eq_true rfl, Nat.le_of_ble_eq_true rfl⟩ (fun r u H locs hq hP hD hS => ?_)
        obtain ⟨g19_16, g20_16, g21_16, hr_16, rfl⟩ := hq
        have hr_16 : r = nI (FE ((v 11 0)) ((v 12)) ((v 15 0)) (lA ((v 16))) (pA ((v 16)) ((v 17))) ((v 18)) i) := hr_16
        subst hr_16
        have hP : va_P D vwCl (xW a cI cJ cZ (va_up (va_up (va_up (va_up v 10 (va_up (v 10) 6 ((v 15 0)))) 19 (g19_16)) 20 (g20_16)) 21 (g21_16)) c) H := hP
        have hD : va_D A (xW a cI cJ cZ (va_up (va_up (va_up (va_up v 10 (va_up (v 10) 6 ((v 15 0)))) 19 (g19_16)) 20 (g20_16)) 21 (g21_16)) c) := hD
        refine lv_aload_n hx hb dX0_firstWrong_19 rfl (lv_at hl 1 rfl) ?_
        refine va_get (D := D) (ci := 0) (v := .ref (a 11)) (C := RX0) (T := TX0) (N := 8) hx hb hts hinX0 hown hK hP 10 rfl rfl 0 (by decide) (hts (.fieldLink RX0 12 "DancedLock$Dance" "floor" "LDancedLock$Floor;") (List.mem_of_getElem? (i := 1) rfl)) (fun _ h9 => h9) rfl dX0_firstWrong_20 ?_
        refine lv_iload_n hx hb dX0_firstWrong_23 rfl (lv_at hl 2 rfl) ?_
        refine lv_iload_n hx hb dX0_firstWrong_24 rfl (lv_at hl 0 rfl) ?_
        refine w_cVi (rest := [.int (nI (FE ((v 11 0)) ((v 12)) ((v 15 0)) (lA ((v 16))) (pA ((v 16)) ((v 17))) ((v 18)) i))]) hx hb hml hown hts (k_figureAt l D a cI cJ cZ A (va_up (va_up (va_up (va_up v 10 (va_up (v 10) 6 ((v 15 0)))) 19 (g19_16)) 20 (g20_16)) 21 (g21_16)) c d i  (by show (v 11 1) ≤ 4; first | exact hI | assumption | omega) (by show ∀ d, d < (v 11 1) → 1 ≤ (v 13) d ∧ (v 13) d ≤ 6; first | exact hI | assumption | omega) (by show d < (v 11 1); first | exact hI | assumption | omega) (by first | exact hI | assumption | omega)) 2 gX0_firstWrong_X2_figureAt rfl hdX2_figureAt ⟨Nat.le_of_ble_eq_true rfl, Nat.le_of_ble_eq_true rfl⟩ hK hN hP hD hS hA 11 2 rfl rfl rfl rfl hl.1 rfl (Nat.le_of_ble_eq_true rfl) dX0_firstWrong_25 ⟨Nat.le_of_ble_eq_true rfl, Nat.le_of_ble_eq_true rfl⟩ (fun r u H locs hq hP hD hS => ?_)
        have hr_25 := hq
        have hr_25 : r = nI (if i < (v 13) d then (v 14) (d * 6 + i) else 0) := hr_25
        subst hr_25
        have hP : va_P D vwCl (xW a cI cJ cZ (va_up (va_up (va_up (va_up v 10 (va_up (v 10) 6 ((v 15 0)))) 19 (g19_16)) 20 (g20_16)) 21 (g21_16)) c) H := hP
        have hD : va_D A (xW a cI cJ cZ (va_up (va_up (va_up (va_up v 10 (va_up (v 10) 6 ((v 15 0)))) 19 (g19_16)) 20 (g20_16)) 21 (g21_16)) c) := hD
        rw [show (nI (if i < (v 13) d then (v 14) (d * 6 + i) else 0)) = (nI (v 14 (d * 6 + i))) from by rw [if_pos (by omega)]]
        have hf1 := FE_lt (v 11 0) (v 12) (v 15 0) (lA (v 16)) (pA (v 16) (v 17)) (v 18) i
        have hf2 := hfg d i hd (by omega)
        have hf3 := pow_le_128 hnb
        refine w_icmp_eq (x := FE ((v 11 0)) ((v 12)) ((v 15 0)) (lA ((v 16))) (pA ((v 16)) ((v 17))) ((v 18)) i) (y := v 14 (d * 6 + i)) hx hb dX0_firstWrong_28 (tgt := 33) (by decide) (by omega) (by omega) (fun c28 => ?_) (fun c28 => ?_)
        · skip
          refine lv_iinc (v := nI (i + 1)) (lv' := [(2, .int (nI (i + 1))), (0, .ref (a 10)), (1, .int (nI (d)))]) hx hb dX0_firstWrong_33 hl (k := 0) rfl (nI_add i 1) (by decide) rfl (fun ls hl => ?_)
          refine lv_goto (tgt := 2) hx hb dX0_firstWrong_36 (by decide) ?_
          exact ih2 (i + 1) g19_16 g20_16 g21_16 (v 15 0) _ _ _ (by omega) (by omega) (by exact lt_s h2 c28) hP hD hS (lv_sub hl [0, 1, 2] rfl)
        · skip
          refine lv_iload_n hx hb dX0_firstWrong_31 rfl (lv_at hl 0 rfl) ?_
          exact hret (nI (i)) (va_up (va_up (va_up (va_up v 10 (va_up (v 10) 6 ((v 15 0)))) 19 (g19_16)) 20 (g20_16)) 21 (g21_16), c) _ _ 32 _ dX0_firstWrong_32 rfl (by exact Or.inl ⟨_, _, _, _, i, rfl, rfl, by omega, c28, h2⟩) hP hD hS
  exact L2 ((v 13 d - 0) + 1) 0 (v 19) (v 20) (v 21) (v 10 6) _ _ _ (Nat.lt_succ_self _) (by omega) (by exact fun j hj => absurd hj (Nat.not_lt_zero _)) hP hD hS (lv_sub hl [0, 1, 2] rfl)

set_option maxHeartbeats 4000000 in
set_option maxRecDepth 100000 in
theorem k_doorOpened (l : Launch) (D : va_G) (a : Nat → Nat) (cI cJ cZ : ClassId) (A : Nat → Prop) (v : Nat → Nat → Nat) (c : Nat → Nat → Int32) (bt : Nat) (hI : XI v) (hbt6 : bt ≤ 6) :
    mI l yX0_doorOpened wsX0_doorOpened 5 110 [.ref (a 10), .int (nI bt)] D (xT cI cJ cZ) A (xW a cI cJ cZ v c) (fun u : ((Nat → Nat → Nat) × (Nat → Nat → Int32)) => xW a cI cJ cZ u.1 u.2)
    (fun (r : Int32) (u : ((Nat → Nat → Nat) × (Nat → Nat → Int32))) => (∃ g19 : Nat → Nat, ∃ g20 : Nat → Nat, ∃ g21 : Nat → Nat, ∃ nd : Nat, ∃ d : Nat, r = nI (d) ∧ u = (va_up (va_up (va_up (va_up v 10 (va_up (v 10) 6 (nd))) 19 (g19)) 20 (g20)) 21 (g21), c) ∧ d < v 11 1 ∧ (v 13 d = bt ∧ ∀ j, j < v 13 d → FE (v 11 0) (v 12) (v 15 0) (lA (v 16)) (pA (v 16) (v 17)) (v 18) j = v 14 (d * 6 + j)) ∧ (∀ e, e < d → ¬ (v 13 e = bt ∧ ∀ j, j < v 13 e → FE (v 11 0) (v 12) (v 15 0) (lA (v 16)) (pA (v 16) (v 17)) (v 18) j = v 14 (e * 6 + j)))) ∨ (∃ g19 : Nat → Nat, ∃ g20 : Nat → Nat, ∃ g21 : Nat → Nat, ∃ nd : Nat, r = -9 ∧ u = (va_up (va_up (va_up (va_up v 10 (va_up (v 10) 6 (nd))) 19 (g19)) 20 (g20)) 21 (g21), c) ∧ (∀ e, e < v 11 1 → ¬ (v 13 e = bt ∧ ∀ j, j < v 13 e → FE (v 11 0) (v 12) (v 15 0) (lA (v 16)) (pA (v 16) (v 17)) (v 18) j = v 14 (e * 6 + j))))) := by
  refine w_bI cX0_doorOpened 3 .int (by decide) rfl (Nat.le_of_ble_eq_true rfl) (Or.inl rfl) ?_
  intro p e s m args below meth c0 ls Q hx hb hml hts hown hK hN hA hret hP hD hS hl
  have hl : lv_has ls 3 [(0, .ref (a 10)), (1, .int (nI (bt)))] := hl
  have hinX0 : ∀ w ∈ wsX00, w ∈ wsX0_doorOpened := fun w h => List.mem_cons_of_mem _ (List.mem_append_left _ (List.mem_append_left _ (List.mem_append_right _ h)))
  have hinX2 : ∀ w ∈ wsX20, w ∈ wsX0_doorOpened := fun w h => List.mem_cons_of_mem _ (List.mem_append_left _ (List.mem_append_right _ h))
  obtain ⟨hnb, hnd, hbt, hfg, hne, hnc, hdk, hnf, hkn, hln, hst, hdc, hsp⟩ := id hI
  refine lv_iconst (v := nI (0)) hx hb dX0_doorOpened_0 (by decide) ?_
  refine lv_istore_n (lv' := [(2, .int (nI (0))), (0, .ref (a 10)), (1, .int (nI (bt)))]) hx hb dX0_doorOpened_1 rfl hl (by decide) rfl (fun ls hl => ?_)
  have L2 : ∀ (n : Nat) (i : Nat) (g19 : Nat → Nat) (g20 : Nat → Nat) (g21 : Nat → Nat) (nd : Nat) (H : Heap) (locs : List Loc) (ls : Array Slot), v 11 1 - i < n → (i ≤ v 11 1) → (∀ e, e < i → ¬ (v 13 e = bt ∧ ∀ j, j < v 13 e → FE (v 11 0) (v 12) (v 15 0) (lA (v 16)) (pA (v 16) (v 17)) (v 18) j = v 14 (e * 6 + j))) → va_P D vwCl (xW a cI cJ cZ (va_up (va_up (va_up (va_up v 10 (va_up (v 10) 6 (nd))) 19 (g19)) 20 (g20)) 21 (g21)) c) H → va_D A (xW a cI cJ cZ (va_up (va_up (va_up (va_up v 10 (va_up (v 10) 6 (nd))) 19 (g19)) 20 (g20)) 21 (g21)) c) → va_S A s.heap H locs → lv_has ls 3 [(2, .int (nI (i))), (0, .ref (a 10)), (1, .int (nI (bt)))] → W p l e { frames := 5, cells := 0, slots := 0, locals := 110 } s m args below meth c0 H locs 0 0 Q (F0 m 2 ls []) := by
    intro n
    induction n with
    | zero => intro i g19 g20 g21 nd H locs ls hm; exact absurd hm (Nat.not_lt_zero _)
    | succ n ih2 =>
      intro i g19 g20 g21 nd H locs ls hm2 h1 h2 hP hD hS hl
      refine lv_iload_n hx hb dX0_doorOpened_2 rfl (lv_at hl 0 rfl) ?_
      refine lv_aload_n hx hb dX0_doorOpened_3 rfl (lv_at hl 1 rfl) ?_
      refine va_get (D := D) (ci := 0) (v := .ref (a 11)) (C := RX0) (T := TX0) (N := 8) hx hb hts hinX0 hown hK hP 10 rfl rfl 0 (by decide) (hts (.fieldLink RX0 12 "DancedLock$Dance" "floor" "LDancedLock$Floor;") (List.mem_of_getElem? (i := 1) rfl)) (fun _ h9 => h9) rfl dX0_doorOpened_4 ?_
      refine va_getN (D := D) (ci := 2) (v := .int (nI (v 11 1))) (C := RX2) (T := TX2) (N := 5) hx hb hts hinX2 hown hK hP 11 rfl rfl 1 (by decide) (va_Nw.use rfl (hN (.fieldLinkNest RX0 74 "DancedLock$Floor" "doors" "I" "DancedLock") (List.mem_of_getElem? (i := 3) rfl))) (fun _ h9 => h9) rfl dX0_doorOpened_7 ?_
      refine w_icmp_ge (x := i) (y := v 11 1) hx hb dX0_doorOpened_10 (tgt := 43) (by decide) (by omega) (by omega) (fun c10 => ?_) (fun c10 => ?_)
      · skip
        refine lv_bipush (v := -9) hx hb dX0_doorOpened_43 (by decide) ?_
        exact hret ((-9)) (va_up (va_up (va_up (va_up v 10 (va_up (v 10) 6 (nd))) 19 (g19)) 20 (g20)) 21 (g21), c) _ _ 45 _ dX0_doorOpened_45 rfl (by exact Or.inr ⟨_, _, _, _, rfl, rfl, fun j hj => h2 j (by omega)⟩) hP hD hS
      · skip
        have hbi := hbt i (by omega)
        refine lv_aload_n hx hb dX0_doorOpened_13 rfl (lv_at hl 1 rfl) ?_
        refine va_get (D := D) (ci := 0) (v := .ref (a 11)) (C := RX0) (T := TX0) (N := 8) hx hb hts hinX0 hown hK hP 10 rfl rfl 0 (by decide) (hts (.fieldLink RX0 12 "DancedLock$Dance" "floor" "LDancedLock$Floor;") (List.mem_of_getElem? (i := 1) rfl)) (fun _ h9 => h9) rfl dX0_doorOpened_14 ?_
        refine lv_iload_n hx hb dX0_doorOpened_17 rfl (lv_at hl 0 rfl) ?_
        refine w_cVi (rest := []) hx hb hml hown hts (k_beatsOf l D a cI cJ cZ A (va_up (va_up (va_up (va_up v 10 (va_up (v 10) 6 (nd))) 19 (g19)) 20 (g20)) 21 (g21)) c i  (by show (v 11 1) ≤ 4; first | exact hI | assumption | omega) (by show i < (v 11 1); first | exact hI | assumption | omega)) 1 gX0_doorOpened_X2_beatsOf rfl hdX2_beatsOf ⟨Nat.le_of_ble_eq_true rfl, Nat.le_of_ble_eq_true rfl⟩ hK hN hP hD hS hA 11 2 rfl rfl rfl rfl hl.1 rfl (Nat.le_of_ble_eq_true rfl) dX0_doorOpened_18 ⟨Nat.le_of_ble_eq_true rfl, Nat.le_of_ble_eq_true rfl⟩ (fun r u H locs hq hP hD hS => ?_)
        have hr_18 := hq
        have hr_18 : r = nI ((v 13) i) := hr_18
        subst hr_18
        have hP : va_P D vwCl (xW a cI cJ cZ (va_up (va_up (va_up (va_up v 10 (va_up (v 10) 6 (nd))) 19 (g19)) 20 (g20)) 21 (g21)) c) H := hP
        have hD : va_D A (xW a cI cJ cZ (va_up (va_up (va_up (va_up v 10 (va_up (v 10) 6 (nd))) 19 (g19)) 20 (g20)) 21 (g21)) c) := hD
        refine lv_iload_n hx hb dX0_doorOpened_21 rfl (lv_at hl 2 rfl) ?_
        refine w_icmp_ne (x := (v 13) i) (y := bt) hx hb dX0_doorOpened_22 (tgt := 37) (by decide) (by omega) (by omega) (fun c22 => ?_) (fun c22 => ?_)
        · skip
          refine lv_iinc (v := nI (i + 1)) (lv' := [(2, .int (nI (i + 1))), (0, .ref (a 10)), (1, .int (nI (bt)))]) hx hb dX0_doorOpened_37 hl (k := 0) rfl (nI_add i 1) (by decide) rfl (fun ls hl => ?_)
          refine lv_goto (tgt := 2) hx hb dX0_doorOpened_40 (by decide) ?_
          exact ih2 (i + 1) g19 g20 g21 nd _ _ _ (by omega) (by omega) (by first | exact lt_s h2 (fun z => c22 z.1) | exact lt_s h2 (fun z => h2_27 (z.2 _ h1_27))) hP hD hS (lv_sub hl [0, 1, 2] rfl)
        · skip
          refine lv_aload_n hx hb dX0_doorOpened_25 rfl (lv_at hl 1 rfl) ?_
          refine lv_iload_n hx hb dX0_doorOpened_26 rfl (lv_at hl 0 rfl) ?_
          refine w_cVi (rest := []) hx hb hml hown hts (k_firstWrong l D a cI cJ cZ A (va_up (va_up (va_up (va_up v 10 (va_up (v 10) 6 (nd))) 19 (g19)) 20 (g20)) 21 (g21)) c i  (by show XI (va_up (va_up (va_up (va_up v 10 (va_up (v 10) 6 (nd))) 19 (g19)) 20 (g20)) 21 (g21)); first | exact hI | assumption | omega) (by show i < (v 11 1); first | exact hI | assumption | omega)) 1 gX0_doorOpened_X0_firstWrong rfl hdX0_firstWrong ⟨Nat.le_of_ble_eq_true rfl, Nat.le_of_ble_eq_true rfl⟩ hK hN hP hD hS hA 10 0 rfl rfl rfl rfl hl.1 rfl (Nat.le_of_ble_eq_true rfl) dX0_doorOpened_27 ⟨Nat.le_of_ble_eq_true rfl, Nat.le_of_ble_eq_true rfl⟩ (fun r u H locs hq hP hD hS => ?_)
          rcases hq with ⟨g19_27, g20_27, g21_27, nd_27, k_27, rfl, rfl, h1_27, h2_27, h3_27⟩ | ⟨g19_27, g20_27, g21_27, nd_27, rfl, rfl, h3_27⟩
          · skip
            have h1_27 : k_27 < (v 13) i := h1_27
            have h2_27 : FE ((v 11 0)) ((v 12)) ((v 15 0)) (lA ((v 16))) (pA ((v 16)) ((v 17))) ((v 18)) k_27 ≠ (v 14) (i * 6 + k_27) := h2_27
            have h3_27 : ∀ j, j < k_27 → FE ((v 11 0)) ((v 12)) ((v 15 0)) (lA ((v 16))) (pA ((v 16)) ((v 17))) ((v 18)) j = (v 14) (i * 6 + j) := h3_27
            have hP : va_P D vwCl (xW a cI cJ cZ (va_up (va_up (va_up (va_up v 10 (va_up (v 10) 6 (nd_27))) 19 (g19_27)) 20 (g20_27)) 21 (g21_27)) c) H := hP
            have hD : va_D A (xW a cI cJ cZ (va_up (va_up (va_up (va_up v 10 (va_up (v 10) 6 (nd_27))) 19 (g19_27)) 20 (g20_27)) 21 (g21_27)) c) := hD
            refine lv_bipush (v := -9) hx hb dX0_doorOpened_30 (by decide) ?_
            refine lv_icmp_ne hx hb dX0_doorOpened_32 (tgt := 37) (by decide) (fun _ => ?_) (fun h => absurd h (n_neg (by omega) (by decide)))
            refine lv_iinc (v := nI (i + 1)) (lv' := [(2, .int (nI (i + 1))), (0, .ref (a 10)), (1, .int (nI (bt)))]) hx hb dX0_doorOpened_37 hl (k := 0) rfl (nI_add i 1) (by decide) rfl (fun ls hl => ?_)
            refine lv_goto (tgt := 2) hx hb dX0_doorOpened_40 (by decide) ?_
            exact ih2 (i + 1) g19_27 g20_27 g21_27 nd_27 _ _ _ (by omega) (by omega) (by first | exact lt_s h2 (fun z => c22 z.1) | exact lt_s h2 (fun z => h2_27 (z.2 _ h1_27))) hP hD hS (lv_sub hl [0, 1, 2] rfl)
          · skip
            have h3_27 : ∀ j, j < (v 13) i → FE ((v 11 0)) ((v 12)) ((v 15 0)) (lA ((v 16))) (pA ((v 16)) ((v 17))) ((v 18)) j = (v 14) (i * 6 + j) := h3_27
            have hP : va_P D vwCl (xW a cI cJ cZ (va_up (va_up (va_up (va_up v 10 (va_up (v 10) 6 (nd_27))) 19 (g19_27)) 20 (g20_27)) 21 (g21_27)) c) H := hP
            have hD : va_D A (xW a cI cJ cZ (va_up (va_up (va_up (va_up v 10 (va_up (v 10) 6 (nd_27))) 19 (g19_27)) 20 (g20_27)) 21 (g21_27)) c) := hD
            refine lv_bipush (v := -9) hx hb dX0_doorOpened_30 (by decide) ?_
            refine lv_icmp_ne hx hb dX0_doorOpened_32 (tgt := 37) (by decide) (fun h => absurd h (by decide)) (fun _ => ?_)
            refine lv_iload_n hx hb dX0_doorOpened_35 rfl (lv_at hl 0 rfl) ?_
            exact hret (nI (i)) (va_up (va_up (va_up (va_up v 10 (va_up (v 10) 6 (nd_27))) 19 (g19_27)) 20 (g20_27)) 21 (g21_27), c) _ _ 36 _ dX0_doorOpened_36 rfl (by exact Or.inl ⟨_, _, _, _, i, rfl, rfl, by omega, ⟨c22, h3_27⟩, h2⟩) hP hD hS
  exact L2 ((v 11 1 - 0) + 1) 0 (v 19) (v 20) (v 21) (v 10 6) _ _ _ (Nat.lt_succ_self _) (by omega) (by exact fun j hj => absurd hj (Nat.not_lt_zero _)) hP hD hS (lv_sub hl [0, 1, 2] rfl)
