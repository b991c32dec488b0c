/-! ===== the search ===== -/
theorem up_self {α : Type} (f : Nat → α) (i : Nat) : va_up f i (f i) = f := by
  funext j
  by_cases h : j = i
  · subst h; simp [va_up]
  · simp [va_up, h]
theorem XI_18 {v : Nat → Nat → Nat} {g : Nat → Nat} (h : XI v) (hs : ∀ q, q < 24 → g q < 8) : XI (va_up v 18 g) := by
  obtain ⟨h1, h2, h3, h4, h5, h6, h7, h8, h9, h10, h11, h12, -⟩ := h
  exact ⟨h1, h2, h3, h4, h5, h6, h7, h8, h9, h10, h11, h12, hs⟩
set_option maxHeartbeats 4000000 in
set_option maxRecDepth 100000 in
theorem k_placeO_step (l : Launch) (D : va_G) (a : Nat → Nat) (cI cJ cZ : ClassId) (A : Nat → Prop) (v : Nat → Nat → Nat) (c : Nat → Nat → Int32) (dd : Nat) (k : Nat) (d : Nat) (mm : Nat) (ih : ∀ (v' : Nat → Nat → Nat) (c' : Nat → Nat → Int32), d < v 10 6 → (XI v') → (v' 10 6 ≤ 4) → (∀ e1, e1 < v' 10 6 → v' 21 e1 ≤ 1) → (∀ e1, e1 < v' 10 6 → v' 20 e1 ≤ 9) → (dd < v' 11 1) → (k < v' 13 dd) → (k % 2 = 1) → ((d + 1) ≤ v' 10 6) → ((d + 1) + (mm - 1) = 4) → mI l yX0_place wsX0_place (3 + (mm - 1)) (75 + 30 * (mm - 1)) [.ref (a 10), .int (nI dd), .int (nI k), .int (nI (d + 1))] D (xT cI cJ cZ) A (xW a cI cJ cZ v' c') (fun u : ((Nat → Nat → Nat) × (Nat → Nat → Int32)) => xW a cI cJ cZ u.1 u.2) (fun (r : Int32) (u : ((Nat → Nat → Nat) × (Nat → Nat → Int32))) => (∃ g18 : Nat → Nat, ∃ g19 : Nat → Nat, r = nI (1) ∧ u = (va_up (va_up v' 18 (g18)) 19 (g19), c') ∧ agr k (d + 1) g18 (v' 18) ∧ (∀ q, q < 24 → g18 q < 8) ∧ MINb (v' 11 0) (v' 10 6) (v' 21) k (d + 1) (v' 18) (OKb (v' 11 0) (v' 12) (v' 10 6) (v' 21) (v' 20) (fun j => v' 14 (dd * 6 + j)) k) g18) ∨ (∃ g18 : Nat → Nat, ∃ g19 : Nat → Nat, r = nI (0) ∧ u = (va_up (va_up v' 18 (g18)) 19 (g19), c') ∧ agr k (d + 1) g18 (v' 18) ∧ (∀ q, q < 24 → g18 q < 8) ∧ NOb (v' 11 0) (v' 10 6) (v' 21) k (d + 1) (v' 18) (OKb (v' 11 0) (v' 12) (v' 10 6) (v' 21) (v' 20) (fun j => v' 14 (dd * 6 + j)) k)))) (hI : XI v) (hdn : v 10 6 ≤ 4) (hli : ∀ e1, e1 < v 10 6 → v 21 e1 ≤ 1) (hpl : ∀ e1, e1 < v 10 6 → v 20 e1 ≤ 9) (hdd : dd < v 11 1) (hk : k < v 13 dd) (hko : k % 2 = 1) (hd : d ≤ v 10 6) (hm : d + mm = 4) :
    mI l yX0_place wsX0_place (3 + mm) (75 + 30 * mm) [.ref (a 10), .int (nI dd), .int (nI k), .int (nI d)] D (xT cI cJ cZ) A (xW a cI cJ cZ v c) (fun u : ((Nat → Nat → Nat) × (Nat → Nat → Int32)) => xW a cI cJ cZ u.1 u.2)
    (fun (r : Int32) (u : ((Nat → Nat → Nat) × (Nat → Nat → Int32))) => (∃ g18 : Nat → Nat, ∃ g19 : Nat → Nat, r = nI (1) ∧ u = (va_up (va_up v 18 (g18)) 19 (g19), c) ∧ agr k d g18 (v 18) ∧ (∀ q, q < 24 → g18 q < 8) ∧ MINb (v 11 0) (v 10 6) (v 21) k d (v 18) (OKb (v 11 0) (v 12) (v 10 6) (v 21) (v 20) (fun j => v 14 (dd * 6 + j)) k) g18) ∨ (∃ g18 : Nat → Nat, ∃ g19 : Nat → Nat, r = nI (0) ∧ u = (va_up (va_up v 18 (g18)) 19 (g19), c) ∧ agr k d g18 (v 18) ∧ (∀ q, q < 24 → g18 q < 8) ∧ NOb (v 11 0) (v 10 6) (v 21) k d (v 18) (OKb (v 11 0) (v 12) (v 10 6) (v 21) (v 20) (fun j => v 14 (dd * 6 + j)) k))) := by
  refine w_bI cX0_place 5 .boolean (by decide) rfl (Nat.le_of_ble_eq_true rfl) (Or.inr rfl) ?_
  intro p e s m args below meth c0 ls Q hx hb hml hts hown hK hN hA hret hP hD hS hl
  have hl : lv_has ls 5 [(0, .ref (a 10)), (1, .int (nI (dd))), (2, .int (nI (k))), (3, .int (nI (d)))] := hl
  have hinX0 : ∀ w ∈ wsX00, w ∈ wsX0_place := fun w h => List.mem_cons_of_mem _ (List.mem_append_left _ (List.mem_append_right _ h))
  have hinX2 : ∀ w ∈ wsX20, w ∈ wsX0_place := fun w h => List.mem_cons_of_mem _ (List.mem_append_right _ h)
  obtain ⟨hnb, hnd, hbt, hfg, hne, hnc, hdk, hnf, hkn, hln, hst, hdc, hsp⟩ := id hI
  have hbd := hbt dd hdd
  have hf1 := hfg dd k hdd hk
  have hf2 := pow_le_128 hnb
  refine lv_aload_n hx hb dX0_place_0 rfl (lv_at hl 0 rfl) ?_
  refine lv_aload_n hx hb dX0_place_1 rfl (lv_at hl 0 rfl) ?_
  refine va_get (D := D) (ci := 0) (v := .ref (a 11)) (C := RX0) (T := TX0) (N := 8) hx hb hts hinX0 hown hK hP 10 rfl rfl 0 (by decide) (hts (.fieldLink RX0 12 "DancedLock$Dance" "floor" "LDancedLock$Floor;") (List.mem_of_getElem? (i := 1) rfl)) (fun _ h9 => h9) rfl dX0_place_2 ?_
  refine lv_iload_n hx hb dX0_place_5 rfl (lv_at hl 1 rfl) ?_
  refine lv_iload_n hx hb dX0_place_6 rfl (lv_at hl 2 rfl) ?_
  refine w_cVi (rest := [.ref (a 10)]) hx hb hml hown hts (k_figureAt l D a cI cJ cZ A v c dd k  (by first | assumption | omega) (by first | assumption | omega) (by first | assumption | omega) (by first | assumption | omega)) 2 gX0_place_X2_figureAt rfl hdX2_figureAt ⟨by show 2 + 1 ≤ 3 + mm; omega, by show 8 + (3 + 11) + (43) ≤ 75 + 30 * mm; omega⟩ hK hN hP hD hS hA 11 2 rfl rfl rfl rfl hl.1 rfl (Nat.le_of_ble_eq_true rfl) dX0_place_7 ⟨Nat.le_of_ble_eq_true rfl, Nat.le_of_ble_eq_true rfl⟩ (fun r u H locs hq hP hD hS => ?_)
  obtain rfl := hq
  have hP : va_P D vwCl (xW a cI cJ cZ v c) H := hP
  have hD : va_D A (xW a cI cJ cZ v c) := hD
  rw [show (nI (if k < (v 13) dd then (v 14) (dd * 6 + k) else 0)) = (nI (v 14 (dd * 6 + k))) from by rw [if_pos hk]]
  refine lv_iload_n hx hb dX0_place_10 rfl (lv_at hl 2 rfl) ?_
  refine lv_iload_n hx hb dX0_place_11 rfl (lv_at hl 3 rfl) ?_
  refine w_cVi (rest := []) hx hb hml hown hts (k_isOpen l D a cI cJ cZ A v c (v 14 (dd * 6 + k)) k d  (by first | assumption | omega | exact hsp) (by first | assumption | omega | exact hsp) (by first | assumption | omega | exact hsp) (by first | assumption | omega | exact hsp) (by first | assumption | omega | exact hsp) (by first | assumption | omega | exact hsp) (by first | assumption | omega | exact hsp) (by first | assumption | omega | exact hsp) (by first | assumption | omega | exact hsp)) 3 gX0_place_X0_isOpen rfl hdX0_isOpen ⟨by show 2 + 1 ≤ 3 + mm; omega, by show 8 + (8 + 11) + (48) ≤ 75 + 30 * mm; omega⟩ hK hN hP hD hS hA 10 0 rfl rfl rfl rfl hl.1 rfl (Nat.le_of_ble_eq_true rfl) dX0_place_12 ⟨Nat.le_of_ble_eq_true rfl, Nat.le_of_ble_eq_true rfl⟩ (fun r u H locs hq hP hD hS => ?_)
  rcases hq with ⟨g19_12, rfl, rfl, h_12⟩ | ⟨g19_12, rfl, rfl, h_12⟩
  · skip
    have hP : va_P D vwCl (xW a cI cJ cZ (va_up v 19 (g19_12)) c) H := hP
    have hD : va_D A (xW a cI cJ cZ (va_up v 19 (g19_12)) c) := hD
    refine w_if_ne (x := 1) hx hb dX0_place_15 (tgt := 20) (by decide) (by decide) (fun _ => ?_) (fun h => absurd h (by decide))
    refine lv_iload_n hx hb dX0_place_20 rfl (lv_at hl 3 rfl) ?_
    refine lv_aload_n hx hb dX0_place_21 rfl (lv_at hl 0 rfl) ?_
    refine va_get (D := D) (ci := 0) (v := .int (nI (v 10 6))) (C := RX0) (T := TX0) (N := 8) hx hb hts hinX0 hown hK hP 10 rfl rfl 6 (by decide) (hts (.fieldLink RX0 53 "DancedLock$Dance" "dancers" "I") (List.mem_of_getElem? (i := 2) rfl)) (fun _ h9 => h9) rfl dX0_place_22 ?_
    refine w_icmp_lt (x := d) (y := v 10 6) hx hb dX0_place_25 (tgt := 66) (by decide) (by omega) (by omega) (fun c25 => ?_) (fun c25 => ?_)
    · skip
      refine lv_aload_n hx hb dX0_place_66 rfl (lv_at hl 0 rfl) ?_
      refine lv_iload_n hx hb dX0_place_67 rfl (lv_at hl 2 rfl) ?_
      refine lv_iload_n hx hb dX0_place_68 rfl (lv_at hl 3 rfl) ?_
      refine w_cVi (rest := []) hx hb hml hown hts (k_isBound l D a cI cJ cZ A (va_up v 19 (g19_12)) c k d  (by show (v 10 6) ≤ 4; first | assumption | omega) (by show ∀ d, d < (v 10 6) → (v 21) d ≤ 1; first | assumption | omega) (by show d < (v 10 6); first | assumption | omega) (by first | assumption | omega)) 2 gX0_place_X0_isBound rfl hdX0_isBound ⟨by show 0 + 1 ≤ 3 + mm; omega, by show 8 + (3 + 11) + (0) ≤ 75 + 30 * mm; omega⟩ hK hN hP hD hS hA 10 0 rfl rfl rfl rfl hl.1 rfl (Nat.le_of_ble_eq_true rfl) dX0_place_69 ⟨Nat.le_of_ble_eq_true rfl, Nat.le_of_ble_eq_true rfl⟩ (fun r u H locs hq hP hD hS => ?_)
      rcases hq with ⟨rfl, h1_69, h2_69⟩ | ⟨rfl, h_69⟩
      · skip
        have h2_69 : (v 21) d ≠ 0 := h2_69
        have hP : va_P D vwCl (xW a cI cJ cZ (va_up v 19 (g19_12)) c) H := hP
        have hD : va_D A (xW a cI cJ cZ (va_up v 19 (g19_12)) c) := hD
        refine w_if_eq (x := 1) hx hb dX0_place_72 (tgt := 92) (by decide) (by decide) (fun h => absurd h (by decide)) (fun _ => ?_)
        refine lv_aload_n hx hb dX0_place_75 rfl (lv_at hl 0 rfl) ?_
        refine lv_iload_n hx hb dX0_place_76 rfl (lv_at hl 2 rfl) ?_
        refine lv_iload_n hx hb dX0_place_77 rfl (lv_at hl 3 rfl) ?_
        refine lv_iconst (v := nI (0)) hx hb dX0_place_78 (by decide) ?_
        refine w_cVv (rest := []) hx hb hml hown hts (k_step l D a cI cJ cZ A (va_up v 19 (g19_12)) c k d 0  (by first | assumption | omega)) 3 gX0_place_X0_step rfl hdX0_step ⟨by show 0 + 1 ≤ 3 + mm; omega, by show 8 + (5 + 11) + (0) ≤ 75 + 30 * mm; omega⟩ hK hN hP hD hS hA 10 0 rfl rfl rfl rfl hl.1 rfl (Nat.le_of_ble_eq_true rfl) dX0_place_79 ⟨Nat.le_of_ble_eq_true rfl, Nat.le_of_ble_eq_true rfl⟩ (fun u H locs hq hP hD hS => ?_)
        obtain rfl := hq
        have hP : va_P D vwCl (xW a cI cJ cZ (va_up (va_up v 18 (va_up ((v 18)) (k * 4 + d) 0)) 19 (g19_12)) c) H := hP
        have hD : va_D A (xW a cI cJ cZ (va_up (va_up v 18 (va_up ((v 18)) (k * 4 + d) 0)) 19 (g19_12)) c) := hD
        refine lv_aload_n hx hb dX0_place_82 rfl (lv_at hl 0 rfl) ?_
        refine lv_iload_n hx hb dX0_place_83 rfl (lv_at hl 1 rfl) ?_
        refine lv_iload_n hx hb dX0_place_84 rfl (lv_at hl 2 rfl) ?_
        refine lv_iload_n hx hb dX0_place_85 rfl (lv_at hl 3 rfl) ?_
        refine lv_iconst (v := nI (1)) hx hb dX0_place_86 (by decide) ?_
        refine w_iadd (x := d) (y := 1) hx hb dX0_place_87  ?_
        refine w_cVi (rest := []) hx hb hml hown hts (ih (va_up (va_up v 18 (va_up ((v 18)) (k * 4 + d) 0)) 19 (g19_12)) c c25 (by show XI (va_up (va_up v 18 (va_up ((v 18)) (k * 4 + d) 0)) 19 (g19_12)); have h9 := XI_18 (g := va_up (v 18) (k * 4 + d) 0) hI (up8 hsp (by omega)); exact h9) (by show (v 10 6) ≤ 4; exact hdn) (by show ∀ e1, e1 < (v 10 6) → (v 21) e1 ≤ 1; exact hli) (by show ∀ e1, e1 < (v 10 6) → (v 20) e1 ≤ 9; exact hpl) (by show dd < (v 11 1); exact hdd) (by show k < (v 13) dd; exact hk) (by exact hko) (by show (d + 1) ≤ (v 10 6); exact c25) (by omega)) 3 gX0_place_X0_place rfl hdX0_place ⟨by show 3 + (mm - 1) + 1 ≤ 3 + mm; omega, by show 8 + (5 + 11) + (75 + 30 * (mm - 1)) ≤ 75 + 30 * mm; omega⟩ hK hN hP hD hS hA 10 0 rfl rfl rfl rfl hl.1 rfl (Nat.le_of_ble_eq_true rfl) dX0_place_88 ⟨Nat.le_of_ble_eq_true rfl, Nat.le_of_ble_eq_true rfl⟩ (fun r u H locs hq hP hD hS => ?_)
        rcases hq with ⟨g18_88, g19_88, rfl, rfl, ha_88, hs_88, hmin_88⟩ | ⟨g18_88, g19_88, rfl, rfl, ha_88, hs_88, hno_88⟩
        · skip
          have ha_88 : agr k (d + 1) g18_88 ((va_up ((v 18)) (k * 4 + d) 0)) := ha_88
          have hmin_88 : MINb ((v 11 0)) ((v 10 6)) ((v 21)) k (d + 1) ((va_up ((v 18)) (k * 4 + d) 0)) (OKb ((v 11 0)) ((v 12)) ((v 10 6)) ((v 21)) ((v 20)) (fun j => (v 14) (dd * 6 + j)) k) g18_88 := hmin_88
          have hP : va_P D vwCl (xW a cI cJ cZ (va_up (va_up v 18 (g18_88)) 19 (g19_88)) c) H := hP
          have hD : va_D A (xW a cI cJ cZ (va_up (va_up v 18 (g18_88)) 19 (g19_88)) c) := hD
          exact hret (nI (1)) (va_up (va_up v 18 (g18_88)) 19 (g19_88), c) _ _ 91 _ dX0_place_91 rfl (by exact Or.inl ⟨g18_88, g19_88, rfl, rfl, agr_up ha_88, hs_88, min_up hdn agr_rf (fun _ => rfl) (fun z => absurd ⟨h1_69, h2_69⟩ z) (fun t _ h9 => absurd h9 (Nat.not_lt_zero _)) hmin_88⟩) hP hD hS
        · skip
          have ha_88 : agr k (d + 1) g18_88 ((va_up ((v 18)) (k * 4 + d) 0)) := ha_88
          have hno_88 : NOb ((v 11 0)) ((v 10 6)) ((v 21)) k (d + 1) ((va_up ((v 18)) (k * 4 + d) 0)) (OKb ((v 11 0)) ((v 12)) ((v 10 6)) ((v 21)) ((v 20)) (fun j => (v 14) (dd * 6 + j)) k) := hno_88
          have hP : va_P D vwCl (xW a cI cJ cZ (va_up (va_up v 18 (g18_88)) 19 (g19_88)) c) H := hP
          have hD : va_D A (xW a cI cJ cZ (va_up (va_up v 18 (g18_88)) 19 (g19_88)) c) := hD
          exact hret (nI (0)) (va_up (va_up v 18 (g18_88)) 19 (g19_88), c) _ _ 91 _ dX0_place_91 rfl (by exact Or.inr ⟨g18_88, g19_88, rfl, rfl, agr_up ha_88, hs_88, no_bound hdn c25 agr_rf ⟨h1_69, h2_69⟩ hno_88⟩) hP hD hS
      · skip
        have h_69 : ¬ (k % 2 = 1 ∧ (v 21) d ≠ 0) := h_69
        have hP : va_P D vwCl (xW a cI cJ cZ (va_up v 19 (g19_12)) c) H := hP
        have hD : va_D A (xW a cI cJ cZ (va_up v 19 (g19_12)) c) := hD
        refine w_if_eq (x := 0) hx hb dX0_place_72 (tgt := 92) (by decide) (by decide) (fun _ => ?_) (fun h => absurd h (by decide))
        refine lv_iconst (v := nI (0)) hx hb dX0_place_92 (by decide) ?_
        refine lv_istore (lv' := [(4, .int (nI (0))), (0, .ref (a 10)), (1, .int (nI (dd))), (2, .int (nI (k))), (3, .int (nI (d)))]) hx hb dX0_place_93 hl (by decide) rfl (fun ls hl => ?_)
        have L95 : ∀ (n : Nat) (i : Nat) (g18 : Nat → Nat) (g19 : Nat → Nat) (H : Heap) (locs : List Loc) (ls : Array Slot), v 11 0 - i < n → (i ≤ v 11 0) → (agr k d g18 (v 18)) → (∀ q, q < 24 → g18 q < 8) → (∀ t, cp (v 11 0) (v 10 6) (v 21) k d (v 18) t → t (k * 4 + d) < i → ¬ (OKb (v 11 0) (v 12) (v 10 6) (v 21) (v 20) (fun j => v 14 (dd * 6 + j)) k) t) → va_P D vwCl (xW a cI cJ cZ (va_up (va_up v 18 (g18)) 19 (g19)) c) H → va_D A (xW a cI cJ cZ (va_up (va_up v 18 (g18)) 19 (g19)) c) → va_S A s.heap H locs → lv_has ls 5 [(4, .int (nI (i))), (0, .ref (a 10)), (1, .int (nI (dd))), (2, .int (nI (k))), (3, .int (nI (d)))] → W p l e { frames := 3 + mm, cells := 0, slots := 0, locals := 75 + 30 * mm } s m args below meth c0 H locs 0 0 Q (F0 m 95 ls []) := by
          intro n
          induction n with
          | zero => intro i g18 g19 H locs ls hm; exact absurd hm (Nat.not_lt_zero _)
          | succ n ih95 =>
            intro i g18 g19 H locs ls hm95 hi ha hs hlo hP hD hS hl
            refine lv_iload hx hb dX0_place_95 (lv_at hl 0 rfl) ?_
            refine lv_aload_n hx hb dX0_place_97 rfl (lv_at hl 1 rfl) ?_
            refine va_get (D := D) (ci := 0) (v := .ref (a 11)) (C := RX0) (T := TX0) (N := 8) hx hb hts hinX0 hown hK hP 10 rfl rfl 0 (by decide) (hts (.fieldLink RX0 12 "DancedLock$Dance" "floor" "LDancedLock$Floor;") (List.mem_of_getElem? (i := 1) rfl)) (fun _ h9 => h9) rfl dX0_place_98 ?_
            refine va_getN (D := D) (ci := 2) (v := .int (nI (v 11 0))) (C := RX2) (T := TX2) (N := 5) hx hb hts hinX2 hown hK hP 11 rfl rfl 0 (by decide) (va_Nw.use rfl (hN (.fieldLinkNest RX0 97 "DancedLock$Floor" "boards" "I" "DancedLock") (List.mem_of_getElem? (i := 0) rfl))) (fun _ h9 => h9) rfl dX0_place_101 ?_
            refine w_icmp_ge (x := i) (y := v 11 0) hx hb dX0_place_104 (tgt := 135) (by decide) (by omega) (by omega) (fun c104 => ?_) (fun c104 => ?_)
            · skip
              refine lv_iconst (v := nI (0)) hx hb dX0_place_135 (by decide) ?_
              exact hret (nI (0)) (va_up (va_up v 18 (g18)) 19 (g19), c) _ _ 136 _ dX0_place_136 rfl (by exact Or.inr ⟨g18, g19, rfl, rfl, ha, hs, no_loop c25 h_69 (fun t ht h9 => hlo t ht (by omega))⟩) hP hD hS
            · skip
              refine lv_aload_n hx hb dX0_place_107 rfl (lv_at hl 1 rfl) ?_
              refine lv_iload_n hx hb dX0_place_108 rfl (lv_at hl 3 rfl) ?_
              refine lv_iload_n hx hb dX0_place_109 rfl (lv_at hl 4 rfl) ?_
              refine lv_iload hx hb dX0_place_110 (lv_at hl 0 rfl) ?_
              refine w_cVv (rest := []) hx hb hml hown hts (k_step l D a cI cJ cZ A (va_up (va_up v 18 (g18)) 19 (g19)) c k d i  (by first | assumption | omega)) 3 gX0_place_X0_step rfl hdX0_step ⟨by show 0 + 1 ≤ 3 + mm; omega, by show 8 + (5 + 11) + (0) ≤ 75 + 30 * mm; omega⟩ hK hN hP hD hS hA 10 0 rfl rfl rfl rfl hl.1 rfl (Nat.le_of_ble_eq_true rfl) dX0_place_112 ⟨Nat.le_of_ble_eq_true rfl, Nat.le_of_ble_eq_true rfl⟩ (fun u H locs hq hP hD hS => ?_)
              obtain rfl := hq
              have hP : va_P D vwCl (xW a cI cJ cZ (va_up (va_up v 18 (va_up (g18) (k * 4 + d) i)) 19 (g19)) c) H := hP
              have hD : va_D A (xW a cI cJ cZ (va_up (va_up v 18 (va_up (g18) (k * 4 + d) i)) 19 (g19)) c) := hD
              refine lv_aload_n hx hb dX0_place_115 rfl (lv_at hl 1 rfl) ?_
              refine lv_iload_n hx hb dX0_place_116 rfl (lv_at hl 2 rfl) ?_
              refine lv_iload_n hx hb dX0_place_117 rfl (lv_at hl 3 rfl) ?_
              refine lv_iload_n hx hb dX0_place_118 rfl (lv_at hl 4 rfl) ?_
              refine lv_iconst (v := nI (1)) hx hb dX0_place_119 (by decide) ?_
              refine w_iadd (x := d) (y := 1) hx hb dX0_place_120  ?_
              refine w_cVi (rest := []) hx hb hml hown hts (ih (va_up (va_up v 18 (va_up (g18) (k * 4 + d) i)) 19 (g19)) c c25 (by show XI (va_up (va_up v 18 (va_up (g18) (k * 4 + d) i)) 19 (g19)); have h9 := XI_18 (g := va_up g18 (k * 4 + d) i) hI (up8 hs (by omega)); exact h9) (by show (v 10 6) ≤ 4; exact hdn) (by show ∀ e1, e1 < (v 10 6) → (v 21) e1 ≤ 1; exact hli) (by show ∀ e1, e1 < (v 10 6) → (v 20) e1 ≤ 9; exact hpl) (by show dd < (v 11 1); exact hdd) (by show k < (v 13) dd; exact hk) (by exact hko) (by show (d + 1) ≤ (v 10 6); exact c25) (by omega)) 3 gX0_place_X0_place rfl hdX0_place ⟨by show 3 + (mm - 1) + 1 ≤ 3 + mm; omega, by show 8 + (5 + 11) + (75 + 30 * (mm - 1)) ≤ 75 + 30 * mm; omega⟩ hK hN hP hD hS hA 10 0 rfl rfl rfl rfl hl.1 rfl (Nat.le_of_ble_eq_true rfl) dX0_place_121 ⟨Nat.le_of_ble_eq_true rfl, Nat.le_of_ble_eq_true rfl⟩ (fun r u H locs hq hP hD hS => ?_)
              rcases hq with ⟨g18_121, g19_121, rfl, rfl, ha_121, hs_121, hmin_121⟩ | ⟨g18_121, g19_121, rfl, rfl, ha_121, hs_121, hno_121⟩
              · skip
                have ha_121 : agr k (d + 1) g18_121 ((va_up (g18) (k * 4 + d) i)) := ha_121
                have hmin_121 : MINb ((v 11 0)) ((v 10 6)) ((v 21)) k (d + 1) ((va_up (g18) (k * 4 + d) i)) (OKb ((v 11 0)) ((v 12)) ((v 10 6)) ((v 21)) ((v 20)) (fun j => (v 14) (dd * 6 + j)) k) g18_121 := hmin_121
                have hP : va_P D vwCl (xW a cI cJ cZ (va_up (va_up v 18 (g18_121)) 19 (g19_121)) c) H := hP
                have hD : va_D A (xW a cI cJ cZ (va_up (va_up v 18 (g18_121)) 19 (g19_121)) c) := hD
                refine w_if_eq (x := 1) hx hb dX0_place_124 (tgt := 129) (by decide) (by decide) (fun h => absurd h (by decide)) (fun _ => ?_)
                refine lv_iconst (v := nI (1)) hx hb dX0_place_127 (by decide) ?_
                exact hret (nI (1)) (va_up (va_up v 18 (g18_121)) 19 (g19_121), c) _ _ 128 _ dX0_place_128 rfl (by exact Or.inl ⟨g18_121, g19_121, rfl, rfl, agr_tr (agr_up ha_121) ha, hs_121, min_up hdn ha (fun z => absurd z h_69) (fun _ => by omega) hlo hmin_121⟩) hP hD hS
              · skip
                have ha_121 : agr k (d + 1) g18_121 ((va_up (g18) (k * 4 + d) i)) := ha_121
                have hno_121 : NOb ((v 11 0)) ((v 10 6)) ((v 21)) k (d + 1) ((va_up (g18) (k * 4 + d) i)) (OKb ((v 11 0)) ((v 12)) ((v 10 6)) ((v 21)) ((v 20)) (fun j => (v 14) (dd * 6 + j)) k) := hno_121
                have hP : va_P D vwCl (xW a cI cJ cZ (va_up (va_up v 18 (g18_121)) 19 (g19_121)) c) H := hP
                have hD : va_D A (xW a cI cJ cZ (va_up (va_up v 18 (g18_121)) 19 (g19_121)) c) := hD
                refine w_if_eq (x := 0) hx hb dX0_place_124 (tgt := 129) (by decide) (by decide) (fun _ => ?_) (fun h => absurd h (by decide))
                refine lv_iinc (v := nI (i + 1)) (lv' := [(4, .int (nI (i + 1))), (0, .ref (a 10)), (1, .int (nI (dd))), (2, .int (nI (k))), (3, .int (nI (d)))]) hx hb dX0_place_129 hl (k := 0) rfl (nI_add i 1) (by decide) rfl (fun ls hl => ?_)
                refine lv_goto (tgt := 95) hx hb dX0_place_132 (by decide) ?_
                exact ih95 (i + 1) g18_121 g19_121 _ _ _ (by omega) (by omega) (by exact agr_tr (agr_up ha_121) ha) (by exact hs_121) (by exact no_up hdn ha hlo hno_121) hP hD hS (lv_sub hl [0, 1, 2, 3, 4] rfl)
        exact L95 ((v 11 0 - 0) + 1) 0 (v 18) g19_12 _ _ _ (Nat.lt_succ_self _) (by omega) (by exact agr_rf) (by exact hsp) (by exact fun t _ h9 => absurd h9 (Nat.not_lt_zero _)) hP hD hS (lv_sub hl [0, 1, 2, 3, 4] rfl)
    · skip
      refine lv_iload_n hx hb dX0_place_28 rfl (lv_at hl 2 rfl) ?_
      refine lv_iconst (v := nI (2)) hx hb dX0_place_29 (by decide) ?_
      refine w_irem (x := k) (y := 2) hx hb dX0_place_30 (by omega) (by omega) (by omega) ?_
      refine lv_iconst (v := nI (1)) hx hb dX0_place_31 (by decide) ?_
      refine w_icmp_eq (x := k % 2) (y := 1) hx hb dX0_place_32 (tgt := 60) (by decide) (by omega) (by omega) (fun c32 => ?_) (fun c32 => absurd c32 (by omega))
      refine lv_iconst (v := nI (1)) hx hb dX0_place_60 (by decide) ?_
      refine lv_goto (tgt := 65) hx hb dX0_place_61 (by decide) ?_
      exact hret (nI (1)) (va_up v 19 (g19_12), c) _ _ 65 _ dX0_place_65 rfl (by have e : d = v 10 6 := (by omega); subst e; exact Or.inl ⟨v 18, g19_12, rfl, by rw [up_self], agr_rf, hsp, min_all (opn_ok hf1 h_12)⟩) hP hD hS
  · skip
    have hP : va_P D vwCl (xW a cI cJ cZ (va_up v 19 (g19_12)) c) H := hP
    have hD : va_D A (xW a cI cJ cZ (va_up v 19 (g19_12)) c) := hD
    refine w_if_ne (x := 0) hx hb dX0_place_15 (tgt := 20) (by decide) (by decide) (fun h => absurd h (by decide)) (fun _ => ?_)
    refine lv_iconst (v := nI (0)) hx hb dX0_place_18 (by decide) ?_
    exact hret (nI (0)) (va_up v 19 (g19_12), c) _ _ 19 _ dX0_place_19 rfl (by exact Or.inr ⟨v 18, g19_12, rfl, by rw [up_self], agr_rf, hsp, no_opn rfl h_12⟩) hP hD hS

set_option maxHeartbeats 4000000 in
theorem k_placeO (l : Launch) (D : va_G) (a : Nat → Nat) (cI cJ cZ : ClassId) (A : Nat → Prop) : ∀ (mm : Nat) (v : Nat → Nat → Nat) (c : Nat → Nat → Int32) (dd k d : Nat), (XI v) → (v 10 6 ≤ 4) → (∀ e1, e1 < v 10 6 → v 21 e1 ≤ 1) → (∀ e1, e1 < v 10 6 → v 20 e1 ≤ 9) → (dd < v 11 1) → (k < v 13 dd) → (k % 2 = 1) → (d ≤ v 10 6) → (d + mm = 4) → mI l yX0_place wsX0_place (3 + mm) (75 + 30 * mm) [.ref (a 10), .int (nI dd), .int (nI k), .int (nI d)] D (xT cI cJ cZ) A (xW a cI cJ cZ v c) (fun u : ((Nat → Nat → Nat) × (Nat → Nat → Int32)) => xW a cI cJ cZ u.1 u.2) (fun (r : Int32) (u : ((Nat → Nat → Nat) × (Nat → Nat → Int32))) => (∃ g18 : Nat → Nat, ∃ g19 : Nat → Nat, r = nI (1) ∧ u = (va_up (va_up v 18 (g18)) 19 (g19), c) ∧ agr k d g18 (v 18) ∧ (∀ q, q < 24 → g18 q < 8) ∧ MINb (v 11 0) (v 10 6) (v 21) k d (v 18) (OKb (v 11 0) (v 12) (v 10 6) (v 21) (v 20) (fun j => v 14 (dd * 6 + j)) k) g18) ∨ (∃ g18 : Nat → Nat, ∃ g19 : Nat → Nat, r = nI (0) ∧ u = (va_up (va_up v 18 (g18)) 19 (g19), c) ∧ agr k d g18 (v 18) ∧ (∀ q, q < 24 → g18 q < 8) ∧ NOb (v 11 0) (v 10 6) (v 21) k d (v 18) (OKb (v 11 0) (v 12) (v 10 6) (v 21) (v 20) (fun j => v 14 (dd * 6 + j)) k))) := by
  intro mm
  induction mm with
  | zero =>
    intro v c dd k d hI hdn hli hpl hdd hk hko hd hm
    exact k_placeO_step l D a cI cJ cZ A v c dd k d 0 (fun v' c' h9 => absurd h9 (by omega)) hI hdn hli hpl hdd hk hko hd hm
  | succ mm ih =>
    intro v c dd k d hI hdn hli hpl hdd hk hko hd hm
    exact k_placeO_step l D a cI cJ cZ A v c dd k d (mm + 1) (fun v' c' _ hI' hdn' hli' hpl' hdd' hk' hko' hd' hm' => ih v' c' dd k (d + 1) hI' hdn' hli' hpl' hdd' hk' hko' hd' (by omega)) hI hdn hli hpl hdd hk hko hd hm
