/-! ===== plans learnt, what is open ===== -/
theorem up_ne {g : Nat → Nat} {i j x : Nat} (h : j ≠ i) : va_up g i x j = g j := by simp [va_up, h]
theorem up_eq {g : Nat → Nat} {i x : Nat} : va_up g i x i = x := by simp [va_up]
theorem up8 {g : Nat → Nat} {i x : Nat} (h : ∀ q, q < 24 → g q < 8) (hx : x < 8) : ∀ q, q < 24 → va_up g i x q < 8 := by
  intro q hq
  by_cases e : q = i
  · rw [e, up_eq]; exact hx
  · rw [up_ne e]; exact h q hq
theorem lin_lt {k i n b : Nat} (hk : k < b) (hi : i < n) : k * n + i < b * n := by
  have h : (k + 1) * n ≤ b * n := Nat.mul_le_mul_right n hk
  rw [Nat.succ_mul] at h
  omega
theorem rd_s {c : Nat → Int32} {g gg : Nat → Nat} {nc nb k : Nat} (h : ∀ j e, j < k → e < nc → c (j * nc + e) = nI (g (j * 4 + e)) ∧ g (j * 4 + e) < nb) (h2 : ∀ e, e < nc → c (k * nc + e) = nI (gg (k * 4 + e)) ∧ gg (k * 4 + e) < nb) (h5 : ∀ q, q < k * 4 → gg q = g q) (hnc : nc ≤ 4) : ∀ j e, j < k + 1 → e < nc → c (j * nc + e) = nI (gg (j * 4 + e)) ∧ gg (j * 4 + e) < nb := by
  intro j e hj he
  by_cases hjk : j = k
  · subst hjk; exact h2 e he
  · rw [h5 (j * 4 + e) (by omega)]; exact h j e (by omega) he
theorem rd_i {c : Nat → Int32} {g : Nat → Nat} {nc nb k i x : Nat} (h : ∀ e, e < i → c (k * nc + e) = nI (g (k * 4 + e)) ∧ g (k * 4 + e) < nb) (hc : c (k * nc + i) = nI x) (hx : x < nb) : ∀ e, e < i + 1 → c (k * nc + e) = nI (va_up g (k * 4 + i) x (k * 4 + e)) ∧ va_up g (k * 4 + i) x (k * 4 + e) < nb := by
  intro e he
  by_cases hei : e = i
  · subst hei; rw [up_eq]; exact ⟨hc, hx⟩
  · rw [up_ne (by omega)]; exact h e (by omega)
set_option maxHeartbeats 4000000 in
set_option maxRecDepth 100000 in
theorem k_wtc (l : Launch) (D : va_G) (a : Nat → Nat) (cI cJ cZ : ClassId) (A : Nat → Prop) (v : Nat → Nat → Nat) (c : Nat → Nat → Int32) (k : Nat) (d : Nat) (hdn : v 10 6 ≤ 4) (hli : ∀ d, d < v 10 6 → v 21 d ≤ 1) (hpl : ∀ d, d < v 10 6 → v 20 d ≤ 9) (hk : k < 6) (hd : d ≤ v 10 6) :
    mI l yX0_weightToCome wsX0_weightToCome 1 22 [.ref (a 10), .int (nI k), .int (nI d)] D (xT cI cJ cZ) A (xW a cI cJ cZ v c) (fun _ : Unit => xW a cI cJ cZ v c)
    (fun (r : Int32) (u : Unit) => r = nI (wtc (v 21) (v 20) k d (v 10 6))) := by
  refine w_bI cX0_weightToCome 5 .int (by decide) rfl (Nat.le_of_ble_eq_true rfl) (Or.inl rfl) ?_
  intro p e s m args below meth c0 ls Q hx hb hml hts hown hK hN hA hret hP hD hS hl
  have hl : lv_has ls 5 [(0, .ref (a 10)), (1, .int (nI (k))), (2, .int (nI (d)))] := hl
  have hinX0 : ∀ w ∈ wsX00, w ∈ wsX0_weightToCome := fun w h => List.mem_cons_of_mem _ (List.mem_append_right _ h)
  refine lv_iconst (v := nI (0)) hx hb dX0_weightToCome_0 (by decide) ?_
  refine lv_istore_n (lv' := [(3, .int (nI (0))), (0, .ref (a 10)), (1, .int (nI (k))), (2, .int (nI (d)))]) hx hb dX0_weightToCome_1 rfl hl (by decide) rfl (fun ls hl => ?_)
  refine lv_iload_n hx hb dX0_weightToCome_2 rfl (lv_at hl 3 rfl) ?_
  refine lv_istore (lv' := [(4, .int (nI (d))), (3, .int (nI (0))), (0, .ref (a 10)), (1, .int (nI (k))), (2, .int (nI (d)))]) hx hb dX0_weightToCome_3 hl (by decide) rfl (fun ls hl => ?_)
  have L5 : ∀ (n : Nat) (i : Nat) (g : Nat) (H : Heap) (locs : List Loc) (ls : Array Slot), v 10 6 - i < n → (d ≤ i ∧ i ≤ v 10 6) → (g = wtc (v 21) (v 20) k d i) → va_P D vwCl (xW a cI cJ cZ v c) H → va_D A (xW a cI cJ cZ v c) → va_S A s.heap H locs → lv_has ls 5 [(3, .int (nI (g))), (4, .int (nI (i))), (0, .ref (a 10)), (1, .int (nI (k))), (2, .int (nI (d)))] → W p l e { frames := 1, cells := 0, slots := 0, locals := 22 } s m args below meth c0 H locs 0 0 Q (F0 m 5 ls []) := by
    intro n
    induction n with
    | zero => intro i g H locs ls hm; exact absurd hm (Nat.not_lt_zero _)
    | succ n ih5 =>
      intro i g H locs ls hm5 h1 h2 hP hD hS hl
      refine lv_iload hx hb dX0_weightToCome_5 (lv_at hl 1 rfl) ?_
      refine lv_aload_n hx hb dX0_weightToCome_7 rfl (lv_at hl 2 rfl) ?_
      refine va_get (D := D) (ci := 0) (v := .int (nI (v 10 6))) (C := RX0) (T := TX0) (N := 8) hx hb hts hinX0 hown hK hP 10 rfl rfl 6 (by decide) (hts (.fieldLink RX0 53 "DancedLock$Dance" "dancers" "I") (List.mem_of_getElem? (i := 1) rfl)) (fun _ h9 => h9) rfl dX0_weightToCome_8 ?_
      refine w_icmp_ge (x := i) (y := v 10 6) hx hb dX0_weightToCome_11 (tgt := 39) (by decide) (by omega) (by omega) (fun c11 => ?_) (fun c11 => ?_)
      · skip
        refine lv_iload_n hx hb dX0_weightToCome_39 rfl (lv_at hl 0 rfl) ?_
        exact hret (nI (g)) () _ _ 40 _ dX0_weightToCome_40 rfl (by have e : i = v 10 6 := (by omega); subst e; rw [h2]) hP hD hS
      · skip
        have hpi := hpl i (by omega)
        refine lv_aload_n hx hb dX0_weightToCome_14 rfl (lv_at hl 2 rfl) ?_
        refine lv_iload_n hx hb dX0_weightToCome_15 rfl (lv_at hl 3 rfl) ?_
        refine lv_iload hx hb dX0_weightToCome_16 (lv_at hl 1 rfl) ?_
        refine w_cVi (rest := []) hx hb hml hown hts (k_isBound l D a cI cJ cZ A v c k i  (by first | assumption | omega) (by first | assumption | omega) (by first | assumption | omega) (by first | assumption | omega)) 2 gX0_weightToCome_X0_isBound rfl hdX0_isBound ⟨Nat.le_of_ble_eq_true rfl, Nat.le_of_ble_eq_true rfl⟩ hK hN hP hD hS hA 10 0 rfl rfl rfl rfl hl.1 rfl (Nat.le_of_ble_eq_true rfl) dX0_weightToCome_18 ⟨Nat.le_of_ble_eq_true rfl, Nat.le_of_ble_eq_true rfl⟩ (fun r u H locs hq hP hD hS => ?_)
        rcases hq with ⟨rfl, h1_18, h2_18⟩ | ⟨rfl, h_18⟩
        · skip
          have hP : va_P D vwCl (xW a cI cJ cZ v c) H := hP
          have hD : va_D A (xW a cI cJ cZ v c) := hD
          refine w_if_ne (x := 1) hx hb dX0_weightToCome_21 (tgt := 33) (by decide) (by decide) (fun _ => ?_) (fun h => absurd h (by decide))
          refine lv_iinc (v := nI (i + 1)) (lv' := [(4, .int (nI (i + 1))), (3, .int (nI (g))), (0, .ref (a 10)), (1, .int (nI (k))), (2, .int (nI (d)))]) hx hb dX0_weightToCome_33 hl (k := 1) rfl (nI_add i 1) (by decide) rfl (fun ls hl => ?_)
          refine lv_goto (tgt := 5) hx hb dX0_weightToCome_36 (by decide) ?_
          exact ih5 (i + 1) g _ _ _ (by omega) (by omega) (by first | (rw [h2, wtc_n ⟨h1_18, h2_18⟩]) | (rw [h2, wtc_y h1.1 h_18])) hP hD hS (lv_sub hl [1, 0, 2, 3, 4] rfl)
        · skip
          have hP : va_P D vwCl (xW a cI cJ cZ v c) H := hP
          have hD : va_D A (xW a cI cJ cZ v c) := hD
          refine w_if_ne (x := 0) hx hb dX0_weightToCome_21 (tgt := 33) (by decide) (by decide) (fun h => absurd h (by decide)) (fun _ => ?_)
          refine lv_iload_n hx hb dX0_weightToCome_24 rfl (lv_at hl 0 rfl) ?_
          refine lv_aload_n hx hb dX0_weightToCome_25 rfl (lv_at hl 2 rfl) ?_
          refine lv_iload hx hb dX0_weightToCome_26 (lv_at hl 1 rfl) ?_
          refine w_cVi (rest := [.int (nI (g))]) hx hb hml hown hts (k_pullOf l D a cI cJ cZ A v c i  (by first | assumption | omega | exact hpl) (by first | assumption | omega | exact hpl) (by first | assumption | omega | exact hpl)) 1 gX0_weightToCome_X0_pullOf rfl hdX0_pullOf ⟨Nat.le_of_ble_eq_true rfl, Nat.le_of_ble_eq_true rfl⟩ hK hN hP hD hS hA 10 0 rfl rfl rfl rfl hl.1 rfl (Nat.le_of_ble_eq_true rfl) dX0_weightToCome_28 ⟨Nat.le_of_ble_eq_true rfl, Nat.le_of_ble_eq_true rfl⟩ (fun r u H locs hq hP hD hS => ?_)
          obtain rfl := hq
          have hP : va_P D vwCl (xW a cI cJ cZ v c) H := hP
          have hD : va_D A (xW a cI cJ cZ v c) := hD
          refine w_iadd (x := g) (y := (v 20) i) hx hb dX0_weightToCome_31  ?_
          refine lv_istore_n (lv' := [(3, .int (nI (g + ((v 20) i)))), (4, .int (nI (i))), (0, .ref (a 10)), (1, .int (nI (k))), (2, .int (nI (d)))]) hx hb dX0_weightToCome_32 rfl hl (by decide) rfl (fun ls hl => ?_)
          refine lv_iinc (v := nI (i + 1)) (lv' := [(4, .int (nI (i + 1))), (3, .int (nI (g + ((v 20) i)))), (0, .ref (a 10)), (1, .int (nI (k))), (2, .int (nI (d)))]) hx hb dX0_weightToCome_33 hl (k := 1) rfl (nI_add i 1) (by decide) rfl (fun ls hl => ?_)
          refine lv_goto (tgt := 5) hx hb dX0_weightToCome_36 (by decide) ?_
          exact ih5 (i + 1) (g + ((v 20) i)) _ _ _ (by omega) (by omega) (by first | (rw [h2, wtc_n ⟨h1_18, h2_18⟩]) | (rw [h2, wtc_y h1.1 h_18])) hP hD hS (lv_sub hl [1, 0, 2, 3, 4] rfl)
  exact L5 ((v 10 6 - d) + 1) d 0 _ _ _ (Nat.lt_succ_self _) (by omega) (by exact wtc_0.symm) hP hD hS (lv_sub hl [1, 0, 2, 3, 4] rfl)

set_option maxHeartbeats 4000000 in
set_option maxRecDepth 100000 in
theorem k_isOpen (l : Launch) (D : va_G) (a : Nat → Nat) (cI cJ cZ : ClassId) (A : Nat → Prop) (v : Nat → Nat → Nat) (c : Nat → Nat → Int32) (f : Nat) (k : Nat) (d : Nat) (hdn : v 10 6 ≤ 4) (hli : ∀ d, d < v 10 6 → v 21 d ≤ 1) (hpl : ∀ d, d < v 10 6 → v 20 d ≤ 9) (hnb : v 11 0 ≤ 7) (hsp : ∀ q, q < 24 → v 18 q < 8) (hne : ∀ b, b < v 11 0 → 1 ≤ v 12 b ∧ v 12 b ≤ 9) (hk : k < 6) (hd : d ≤ v 10 6) (hf : f < 2147483648) :
    mI l yX0_isOpen wsX0_isOpen 2 48 [.ref (a 10), .int (nI f), .int (nI k), .int (nI d)] D (xT cI cJ cZ) A (xW a cI cJ cZ v c) (fun u : ((Nat → Nat → Nat) × (Nat → Nat → Int32)) => xW a cI cJ cZ u.1 u.2)
    (fun (r : Int32) (u : ((Nat → Nat → Nat) × (Nat → Nat → Int32))) => (∃ g19 : Nat → Nat, r = nI (1) ∧ u = (va_up v 19 (g19), c) ∧ opn (v 11 0) (v 12) (v 10 6) (v 21) (v 20) (v 18) f k d) ∨ (∃ g19 : Nat → Nat, r = nI (0) ∧ u = (va_up v 19 (g19), c) ∧ ¬ opn (v 11 0) (v 12) (v 10 6) (v 21) (v 20) (v 18) f k d)) := by
  refine w_bI cX0_isOpen 8 .boolean (by decide) rfl (Nat.le_of_ble_eq_true rfl) (Or.inr rfl) ?_
  intro p e s m args below meth c0 ls Q hx hb hml hts hown hK hN hA hret hP hD hS hl
  have hl : lv_has ls 8 [(0, .ref (a 10)), (1, .int (nI (f))), (2, .int (nI (k))), (3, .int (nI (d)))] := hl
  have hinX0 : ∀ w ∈ wsX00, w ∈ wsX0_isOpen := fun w h => List.mem_cons_of_mem _ (List.mem_append_left _ (List.mem_append_right _ h))
  have hinX2 : ∀ w ∈ wsX20, w ∈ wsX0_isOpen := fun w h => List.mem_cons_of_mem _ (List.mem_append_right _ h)
  refine lv_aload_n hx hb dX0_isOpen_0 rfl (lv_at hl 0 rfl) ?_
  refine lv_iload_n hx hb dX0_isOpen_1 rfl (lv_at hl 2 rfl) ?_
  refine lv_iload_n hx hb dX0_isOpen_2 rfl (lv_at hl 3 rfl) ?_
  refine w_cVv (rest := []) hx hb hml hown hts (k_load l D a cI cJ cZ A v c k d  (by first | assumption | omega) (by first | assumption | omega) (by first | assumption | omega) (by first | assumption | omega) (by first | assumption | omega) (by first | assumption | omega) (by first | assumption | omega)) 2 gX0_isOpen_X0_load rfl hdX0_load ⟨Nat.le_of_ble_eq_true rfl, Nat.le_of_ble_eq_true rfl⟩ hK hN hP hD hS hA 10 0 rfl rfl rfl rfl hl.1 rfl (Nat.le_of_ble_eq_true rfl) dX0_isOpen_3 ⟨Nat.le_of_ble_eq_true rfl, Nat.le_of_ble_eq_true rfl⟩ (fun u H locs hq hP hD hS => ?_)
  obtain ⟨g19_3, rfl, hg_3⟩ := hq
  have hP : va_P D vwCl (xW a cI cJ cZ (va_up v 19 (g19_3)) c) H := hP
  have hD : va_D A (xW a cI cJ cZ (va_up v 19 (g19_3)) c) := hD
  refine lv_iconst (v := nI (0)) hx hb dX0_isOpen_6 (by decide) ?_
  refine lv_istore (lv' := [(4, .int (nI (0))), (0, .ref (a 10)), (1, .int (nI (f))), (2, .int (nI (k))), (3, .int (nI (d)))]) hx hb dX0_isOpen_7 hl (by decide) rfl (fun ls hl => ?_)
  have hle : ∀ b, b < v 11 0 → g19_3 b ≤ 36 := fun b hb => by rw [hg_3 b hb]; have h9 := LD_le (st := v 18) (li := v 21) (k := k) (kn := d) (b := b) hpl; omega
  refine lv_iconst (v := nI (0)) hx hb dX0_isOpen_9 (by decide) ?_
  refine lv_istore (lv' := [(5, .int (nI (0))), (4, .int (nI (0))), (0, .ref (a 10)), (1, .int (nI (f))), (2, .int (nI (k))), (3, .int (nI (d)))]) hx hb dX0_isOpen_10 hl (by decide) rfl (fun ls hl => ?_)
  have L12 : ∀ (n : Nat) (i : Nat) (q : Nat) (H : Heap) (locs : List Loc) (ls : Array Slot), v 11 0 - i < n → (i ≤ v 11 0) → (q = lak (v 12) (LD (v 20) (v 21) (v 18) k d (v 10 6)) f i) → (∀ b, b < i → f / 2 ^ b % 2 = 0 → LD (v 20) (v 21) (v 18) k d (v 10 6) b < v 12 b) → va_P D vwCl (xW a cI cJ cZ (va_up v 19 (g19_3)) c) H → va_D A (xW a cI cJ cZ (va_up v 19 (g19_3)) c) → va_S A s.heap H locs → lv_has ls 8 [(4, .int (nI (q))), (5, .int (nI (i))), (0, .ref (a 10)), (1, .int (nI (f))), (2, .int (nI (k))), (3, .int (nI (d)))] → W p l e { frames := 2, cells := 0, slots := 0, locals := 48 } s m args below meth c0 H locs 0 0 Q (F0 m 12 ls []) := by
    intro n
    induction n with
    | zero => intro i q H locs ls hm; exact absurd hm (Nat.not_lt_zero _)
    | succ n ih12 =>
      intro i q H locs ls hm12 h1 h2 h3 hP hD hS hl
      refine lv_iload hx hb dX0_isOpen_12 (lv_at hl 1 rfl) ?_
      refine lv_aload_n hx hb dX0_isOpen_14 rfl (lv_at hl 2 rfl) ?_
      refine va_get (D := D) (ci := 0) (v := .ref (a 11)) (C := RX0) (T := TX0) (N := 8) hx hb hts hinX0 hown hK hP 10 rfl rfl 0 (by decide) (hts (.fieldLink RX0 12 "DancedLock$Dance" "floor" "LDancedLock$Floor;") (List.mem_of_getElem? (i := 1) rfl)) (fun _ h9 => h9) rfl dX0_isOpen_15 ?_
      refine va_getN (D := D) (ci := 2) (v := .int (nI (v 11 0))) (C := RX2) (T := TX2) (N := 5) hx hb hts hinX2 hown hK hP 11 rfl rfl 0 (by decide) (va_Nw.use rfl (hN (.fieldLinkNest RX0 97 "DancedLock$Floor" "boards" "I" "DancedLock") (List.mem_of_getElem? (i := 0) rfl))) (fun _ h9 => h9) rfl dX0_isOpen_18 ?_
      refine w_icmp_ge (x := i) (y := v 11 0) hx hb dX0_isOpen_21 (tgt := 83) (by decide) (by omega) (by omega) (fun c21 => ?_) (fun c21 => ?_)
      · skip
        have e : i = v 11 0 := (by omega)
        rw [e] at h2 h3
        refine lv_iload hx hb dX0_isOpen_83 (lv_at hl 0 rfl) ?_
        refine lv_aload_n hx hb dX0_isOpen_85 rfl (lv_at hl 2 rfl) ?_
        refine lv_iload_n hx hb dX0_isOpen_86 rfl (lv_at hl 4 rfl) ?_
        refine lv_iload_n hx hb dX0_isOpen_87 rfl (lv_at hl 5 rfl) ?_
        refine w_cVi (rest := [.int (nI (q))]) hx hb hml hown hts (k_wtc l D a cI cJ cZ A (va_up v 19 (g19_3)) c k d  (by show (v 10 6) ≤ 4; first | assumption | omega) (by show ∀ d, d < (v 10 6) → (v 21) d ≤ 1; first | assumption | omega) (by show ∀ d, d < (v 10 6) → (v 20) d ≤ 9; first | assumption | omega) (by first | assumption | omega) (by show d ≤ (v 10 6); first | assumption | omega)) 2 gX0_isOpen_X0_weightToCome rfl hdX0_weightToCome ⟨Nat.le_of_ble_eq_true rfl, Nat.le_of_ble_eq_true rfl⟩ hK hN hP hD hS hA 10 0 rfl rfl rfl rfl hl.1 rfl (Nat.le_of_ble_eq_true rfl) dX0_isOpen_88 ⟨Nat.le_of_ble_eq_true rfl, Nat.le_of_ble_eq_true rfl⟩ (fun r u H locs hq hP hD hS => ?_)
        have hr_88 := hq
        have hr_88 : r = nI (wtc ((v 21)) ((v 20)) k d ((v 10 6))) := hr_88
        subst hr_88
        have hP : va_P D vwCl (xW a cI cJ cZ (va_up v 19 (g19_3)) c) H := hP
        have hD : va_D A (xW a cI cJ cZ (va_up v 19 (g19_3)) c) := hD
        refine w_icmp_gt (x := q) (y := wtc ((v 21)) ((v 20)) k d ((v 10 6))) hx hb dX0_isOpen_91 (tgt := 98) (by decide) (by have h9 := lak_le (L := LD (v 20) (v 21) (v 18) k d (v 10 6)) (f := f) (v 11 0) (fun b hb => (hne b hb).2); omega) (by have h9 := wtc_le (li := v 21) (k := k) (d := d) (v 10 6) hpl; omega) (fun c91 => ?_) (fun c91 => ?_)
        · skip
          refine lv_iconst (v := nI (0)) hx hb dX0_isOpen_98 (by decide) ?_
          exact hret (nI (0)) (va_up v 19 (g19_3), c) _ _ 99 _ dX0_isOpen_99 rfl (by exact Or.inr ⟨g19_3, rfl, rfl, fun z => by have h9 := z.2; omega⟩) hP hD hS
        · skip
          refine lv_iconst (v := nI (1)) hx hb dX0_isOpen_94 (by decide) ?_
          refine lv_goto (tgt := 99) hx hb dX0_isOpen_95 (by decide) ?_
          exact hret (nI (1)) (va_up v 19 (g19_3), c) _ _ 99 _ dX0_isOpen_99 rfl (by exact Or.inl ⟨g19_3, rfl, rfl, h3, by omega⟩) hP hD hS
      · skip
        have hni := hne i (by omega)
        have hgi := hg_3 i (by omega)
        have hli2 := hle i (by omega)
        have hnd2 := and1_mod (f / 2 ^ i)
        refine lv_aload_n hx hb dX0_isOpen_24 rfl (lv_at hl 2 rfl) ?_
        refine lv_iload hx hb dX0_isOpen_25 (lv_at hl 1 rfl) ?_
        refine w_cVi (rest := []) hx hb hml hown hts (k_missingOn l D a cI cJ cZ A (va_up v 19 (g19_3)) c i  (by show (v 11 0) ≤ 7; first | assumption | omega) (by show i < (v 11 0); first | assumption | omega)) 1 gX0_isOpen_X0_missingOn rfl hdX0_missingOn ⟨Nat.le_of_ble_eq_true rfl, Nat.le_of_ble_eq_true rfl⟩ hK hN hP hD hS hA 10 0 rfl rfl rfl rfl hl.1 rfl (Nat.le_of_ble_eq_true rfl) dX0_isOpen_27 ⟨Nat.le_of_ble_eq_true rfl, Nat.le_of_ble_eq_true rfl⟩ (fun r u H locs hq hP hD hS => ?_)
        have hr_27 := hq
        have hr_27 : r = nI ((v 12) i) - nI (g19_3 i) := hr_27
        subst hr_27
        have hP : va_P D vwCl (xW a cI cJ cZ (va_up v 19 (g19_3)) c) H := hP
        have hD : va_D A (xW a cI cJ cZ (va_up v 19 (g19_3)) c) := hD
        refine lv_topi (fun zz hzz => ?_)
        have zzT : zz.toInt = (v 12 i : Int) - g19_3 i := by rw [hzz]; exact pk_sub_toInt (by omega) (by omega)
        refine lv_istore (lv' := [(6, .int zz), (4, .int (nI (q))), (5, .int (nI (i))), (0, .ref (a 10)), (1, .int (nI (f))), (2, .int (nI (k))), (3, .int (nI (d)))]) hx hb dX0_isOpen_30 hl (by decide) rfl (fun ls hl => ?_)
        refine lv_iload_n hx hb dX0_isOpen_32 rfl (lv_at hl 4 rfl) ?_
        refine lv_iload hx hb dX0_isOpen_33 (lv_at hl 2 rfl) ?_
        refine w_ishr (x := f) (y := i) hx hb dX0_isOpen_35 (by omega) (by omega) ?_
        refine lv_iconst (v := nI (1)) hx hb dX0_isOpen_36 (by decide) ?_
        refine w_iand (x := f / 2 ^ i) (y := 1) hx hb dX0_isOpen_37  ?_
        refine w_if_eq (x := (f / 2 ^ i) &&& 1) hx hb dX0_isOpen_38 (tgt := 45) (by decide) (by exact and1_lt _) (fun c38 => ?_) (fun c38 => ?_)
        · skip
          refine lv_iconst (v := nI (0)) hx hb dX0_isOpen_45 (by decide) ?_
          refine lv_istore (lv' := [(7, .int (nI (0))), (6, .int zz), (4, .int (nI (q))), (5, .int (nI (i))), (0, .ref (a 10)), (1, .int (nI (f))), (2, .int (nI (k))), (3, .int (nI (d)))]) hx hb dX0_isOpen_46 hl (by decide) rfl (fun ls hl => ?_)
          refine lv_iload hx hb dX0_isOpen_48 (lv_at hl 0 rfl) ?_
          refine w_if_ne (x := 0) hx hb dX0_isOpen_50 (tgt := 60) (by decide) (by decide) (fun h => absurd h (by decide)) (fun _ => ?_)
          refine lv_iload hx hb dX0_isOpen_53 (lv_at hl 1 rfl) ?_
          refine r_if_gt hx hb dX0_isOpen_55 (tgt := 60) (by decide) (fun c55 => ?_) (fun c55 => ?_)
          · skip
            refine lv_iload hx hb dX0_isOpen_60 (lv_at hl 0 rfl) ?_
            refine w_if_eq (x := 0) hx hb dX0_isOpen_62 (tgt := 77) (by decide) (by decide) (fun _ => ?_) (fun h => absurd h (by decide))
            refine lv_iinc (v := nI (i + 1)) (lv' := [(5, .int (nI (i + 1))), (7, .int (nI (0))), (6, .int zz), (4, .int (nI (q))), (0, .ref (a 10)), (1, .int (nI (f))), (2, .int (nI (k))), (3, .int (nI (d)))]) hx hb dX0_isOpen_77 hl (k := 3) rfl (nI_add i 1) (by decide) rfl (fun ls hl => ?_)
            refine lv_goto (tgt := 12) hx hb dX0_isOpen_80 (by decide) ?_
            exact ih12 (i + 1) q _ _ _ (by omega) (by omega) (by first | (rw [h2, lak_y (by omega), hgi]) | (rw [h2, lak_y (by omega), show v 12 i - LD (v 20) (v 21) (v 18) k d (v 10 6) i = 0 from by omega]; rfl) | (rw [h2, lak_n (by omega)])) (by exact lt_s h3 (fun z => by omega)) hP hD hS (lv_sub hl [3, 0, 4, 5, 6, 7] rfl)
          · skip
            refine lv_iconst (v := nI (0)) hx hb dX0_isOpen_58 (by decide) ?_
            exact hret (nI (0)) (va_up v 19 (g19_3), c) _ _ 59 _ dX0_isOpen_59 rfl (by exact Or.inr ⟨g19_3, rfl, rfl, fun z => by have h9 := z.1 i (by omega) (by omega); omega⟩) hP hD hS
        · skip
          refine lv_iconst (v := nI (1)) hx hb dX0_isOpen_41 (by decide) ?_
          refine lv_goto (tgt := 46) hx hb dX0_isOpen_42 (by decide) ?_
          refine lv_istore (lv' := [(7, .int (nI (1))), (6, .int zz), (4, .int (nI (q))), (5, .int (nI (i))), (0, .ref (a 10)), (1, .int (nI (f))), (2, .int (nI (k))), (3, .int (nI (d)))]) hx hb dX0_isOpen_46 hl (by decide) rfl (fun ls hl => ?_)
          refine lv_iload hx hb dX0_isOpen_48 (lv_at hl 0 rfl) ?_
          refine w_if_ne (x := 1) hx hb dX0_isOpen_50 (tgt := 60) (by decide) (by decide) (fun _ => ?_) (fun h => absurd h (by decide))
          refine lv_iload hx hb dX0_isOpen_60 (lv_at hl 0 rfl) ?_
          refine w_if_eq (x := 1) hx hb dX0_isOpen_62 (tgt := 77) (by decide) (by decide) (fun h => absurd h (by decide)) (fun _ => ?_)
          refine lv_iload hx hb dX0_isOpen_65 (lv_at hl 1 rfl) ?_
          refine r_if_le hx hb dX0_isOpen_67 (tgt := 77) (by decide) (fun c67 => ?_) (fun c67 => ?_)
          · skip
            refine lv_iinc (v := nI (i + 1)) (lv' := [(5, .int (nI (i + 1))), (7, .int (nI (1))), (6, .int zz), (4, .int (nI (q))), (0, .ref (a 10)), (1, .int (nI (f))), (2, .int (nI (k))), (3, .int (nI (d)))]) hx hb dX0_isOpen_77 hl (k := 3) rfl (nI_add i 1) (by decide) rfl (fun ls hl => ?_)
            refine lv_goto (tgt := 12) hx hb dX0_isOpen_80 (by decide) ?_
            exact ih12 (i + 1) q _ _ _ (by omega) (by omega) (by first | (rw [h2, lak_y (by omega), hgi]) | (rw [h2, lak_y (by omega), show v 12 i - LD (v 20) (v 21) (v 18) k d (v 10 6) i = 0 from by omega]; rfl) | (rw [h2, lak_n (by omega)])) (by exact lt_s h3 (fun z => by omega)) hP hD hS (lv_sub hl [3, 0, 4, 5, 6, 7] rfl)
          · skip
            refine lv_iload hx hb dX0_isOpen_70 (lv_at hl 2 rfl) ?_
            refine lv_iload hx hb dX0_isOpen_72 (lv_at hl 1 rfl) ?_
            rw [show zz = (nI (v 12 i - g19_3 i)) from i_eq.mpr (by rw [zzT, n_tI (by omega)]; omega)]
            refine w_iadd (x := q) (y := v 12 i - g19_3 i) hx hb dX0_isOpen_74  ?_
            refine lv_istore (lv' := [(4, .int (nI (q + (v 12 i - g19_3 i)))), (7, .int (nI (1))), (6, .int zz), (5, .int (nI (i))), (0, .ref (a 10)), (1, .int (nI (f))), (2, .int (nI (k))), (3, .int (nI (d)))]) hx hb dX0_isOpen_75 hl (by decide) rfl (fun ls hl => ?_)
            refine lv_iinc (v := nI (i + 1)) (lv' := [(5, .int (nI (i + 1))), (4, .int (nI (q + (v 12 i - g19_3 i)))), (7, .int (nI (1))), (6, .int zz), (0, .ref (a 10)), (1, .int (nI (f))), (2, .int (nI (k))), (3, .int (nI (d)))]) hx hb dX0_isOpen_77 hl (k := 3) rfl (nI_add i 1) (by decide) rfl (fun ls hl => ?_)
            refine lv_goto (tgt := 12) hx hb dX0_isOpen_80 (by decide) ?_
            exact ih12 (i + 1) (q + (v 12 i - g19_3 i)) _ _ _ (by omega) (by omega) (by first | (rw [h2, lak_y (by omega), hgi]) | (rw [h2, lak_y (by omega), show v 12 i - LD (v 20) (v 21) (v 18) k d (v 10 6) i = 0 from by omega]; rfl) | (rw [h2, lak_n (by omega)])) (by exact lt_s h3 (fun z => by omega)) hP hD hS (lv_sub hl [1, 0, 4, 5, 6, 7] rfl)
  exact L12 ((v 11 0 - 0) + 1) 0 0 _ _ _ (Nat.lt_succ_self _) (by omega) (by rfl) (by exact fun j hj => absurd hj (Nat.not_lt_zero _)) hP hD hS (lv_sub hl [1, 0, 2, 3, 4, 5] rfl)

set_option maxHeartbeats 4000000 in
set_option maxRecDepth 100000 in
theorem k_lrow (l : Launch) (D : va_G) (a : Nat → Nat) (cI cJ cZ : ClassId) (A : Nat → Prop) (v : Nat → Nat → Nat) (c : Nat → Nat → Int32) (k : Nat) (j : Nat) (hdn : v 10 6 ≤ 4) (hli : ∀ d, d < v 10 6 → v 21 d ≤ 1) (hkj : k = j + 1) (hje : j % 2 = 0) (hk : k < 6) (hs7 : ∀ d, d < v 10 6 → v 18 (j * 4 + d) < 7) :
    mI l yX0_limpersRow wsX0_limpersRow 1 23 [.ref (a 10), .int (nI k)] D (xT cI cJ cZ) A (xW a cI cJ cZ v c) (fun _ : Unit => xW a cI cJ cZ v c)
    (fun (r : Int32) (u : Unit) => r = nI (lrow (v 21) (v 18) j (v 10 6))) := by
  refine w_bI cX0_limpersRow 4 .int (by decide) rfl (Nat.le_of_ble_eq_true rfl) (Or.inl rfl) ?_
  intro p e s m args below meth c0 ls Q hx hb hml hts hown hK hN hA hret hP hD hS hl
  have hl : lv_has ls 4 [(0, .ref (a 10)), (1, .int (nI (k)))] := hl
  have hinX0 : ∀ w ∈ wsX00, w ∈ wsX0_limpersRow := fun w h => List.mem_cons_of_mem _ (List.mem_append_right _ h)
  have hkj2 : k - 1 = j := by omega
  have hk1 : k % 2 = 1 := by omega
  refine lv_iconst (v := nI (0)) hx hb dX0_limpersRow_0 (by decide) ?_
  refine lv_istore_n (lv' := [(2, .int (nI (0))), (0, .ref (a 10)), (1, .int (nI (k)))]) hx hb dX0_limpersRow_1 rfl hl (by decide) rfl (fun ls hl => ?_)
  refine lv_iconst (v := nI (0)) hx hb dX0_limpersRow_2 (by decide) ?_
  refine lv_istore_n (lv' := [(3, .int (nI (0))), (2, .int (nI (0))), (0, .ref (a 10)), (1, .int (nI (k)))]) hx hb dX0_limpersRow_3 rfl hl (by decide) rfl (fun ls hl => ?_)
  have L4 : ∀ (n : Nat) (i : Nat) (g : Nat) (H : Heap) (locs : List Loc) (ls : Array Slot), v 10 6 - i < n → (i ≤ v 10 6) → (g = lrow (v 21) (v 18) j i) → va_P D vwCl (xW a cI cJ cZ v c) H → va_D A (xW a cI cJ cZ v c) → va_S A s.heap H locs → lv_has ls 4 [(2, .int (nI (g))), (3, .int (nI (i))), (0, .ref (a 10)), (1, .int (nI (k)))] → W p l e { frames := 1, cells := 0, slots := 0, locals := 23 } s m args below meth c0 H locs 0 0 Q (F0 m 4 ls []) := by
    intro n
    induction n with
    | zero => intro i g H locs ls hm; exact absurd hm (Nat.not_lt_zero _)
    | succ n ih4 =>
      intro i g H locs ls hm4 h1 h2 hP hD hS hl
      refine lv_iload_n hx hb dX0_limpersRow_4 rfl (lv_at hl 1 rfl) ?_
      refine lv_aload_n hx hb dX0_limpersRow_5 rfl (lv_at hl 2 rfl) ?_
      refine va_get (D := D) (ci := 0) (v := .int (nI (v 10 6))) (C := RX0) (T := TX0) (N := 8) hx hb hts hinX0 hown hK hP 10 rfl rfl 6 (by decide) (hts (.fieldLink RX0 53 "DancedLock$Dance" "dancers" "I") (List.mem_of_getElem? (i := 1) rfl)) (fun _ h9 => h9) rfl dX0_limpersRow_6 ?_
      refine w_icmp_ge (x := i) (y := v 10 6) hx hb dX0_limpersRow_9 (tgt := 45) (by decide) (by omega) (by omega) (fun c9 => ?_) (fun c9 => ?_)
      · skip
        refine lv_iload_n hx hb dX0_limpersRow_45 rfl (lv_at hl 0 rfl) ?_
        exact hret (nI (g)) () _ _ 46 _ dX0_limpersRow_46 rfl (by have e : i = v 10 6 := (by omega); subst e; rw [h2]) hP hD hS
      · skip
        refine lv_bipush (v := nI (7)) hx hb dX0_limpersRow_12 (by decide) ?_
        refine lv_iload_n hx hb dX0_limpersRow_14 rfl (lv_at hl 0 rfl) ?_
        refine w_imul (x := 7) (y := g) hx hb dX0_limpersRow_15  ?_
        refine lv_aload_n hx hb dX0_limpersRow_16 rfl (lv_at hl 2 rfl) ?_
        refine lv_iload_n hx hb dX0_limpersRow_17 rfl (lv_at hl 3 rfl) ?_
        refine lv_iload_n hx hb dX0_limpersRow_18 rfl (lv_at hl 1 rfl) ?_
        refine w_cVi (rest := [.int (nI (7 * g))]) hx hb hml hown hts (k_isBound l D a cI cJ cZ A v c k i  (by first | assumption | omega) (by first | assumption | omega) (by first | assumption | omega) (by first | assumption | omega)) 2 gX0_limpersRow_X0_isBound rfl hdX0_isBound ⟨Nat.le_of_ble_eq_true rfl, Nat.le_of_ble_eq_true rfl⟩ hK hN hP hD hS hA 10 0 rfl rfl rfl rfl hl.1 rfl (Nat.le_of_ble_eq_true rfl) dX0_limpersRow_19 ⟨Nat.le_of_ble_eq_true rfl, Nat.le_of_ble_eq_true rfl⟩ (fun r u H locs hq hP hD hS => ?_)
        rcases hq with ⟨rfl, h1_19, h2_19⟩ | ⟨rfl, h_19⟩
        · skip
          have hP : va_P D vwCl (xW a cI cJ cZ v c) H := hP
          have hD : va_D A (xW a cI cJ cZ v c) := hD
          refine w_if_eq (x := 1) hx hb dX0_limpersRow_22 (tgt := 36) (by decide) (by decide) (fun h => absurd h (by decide)) (fun _ => ?_)
          refine lv_aload_n hx hb dX0_limpersRow_25 rfl (lv_at hl 2 rfl) ?_
          refine lv_iload_n hx hb dX0_limpersRow_26 rfl (lv_at hl 3 rfl) ?_
          refine lv_iconst (v := nI (1)) hx hb dX0_limpersRow_27 (by decide) ?_
          refine w_isub (x := k) (y := 1) hx hb dX0_limpersRow_28 (by omega) ?_
          rw [show (nI (k - 1)) = (nI (j)) from by rw [hkj2]]
          refine lv_iload_n hx hb dX0_limpersRow_29 rfl (lv_at hl 1 rfl) ?_
          refine w_cVi (rest := [.int (nI (7 * g))]) hx hb hml hown hts (k_stepOf l D a cI cJ cZ A v c j i  (by first | assumption | omega)) 2 gX0_limpersRow_X0_stepOf rfl hdX0_stepOf ⟨Nat.le_of_ble_eq_true rfl, Nat.le_of_ble_eq_true rfl⟩ hK hN hP hD hS hA 10 0 rfl rfl rfl rfl hl.1 rfl (Nat.le_of_ble_eq_true rfl) dX0_limpersRow_30 ⟨Nat.le_of_ble_eq_true rfl, Nat.le_of_ble_eq_true rfl⟩ (fun r u H locs hq hP hD hS => ?_)
          obtain rfl := hq
          have hP : va_P D vwCl (xW a cI cJ cZ v c) H := hP
          have hD : va_D A (xW a cI cJ cZ v c) := hD
          refine lv_goto (tgt := 37) hx hb dX0_limpersRow_33 (by decide) ?_
          refine w_iadd (x := 7 * g) (y := (v 18) (j * 4 + i)) hx hb dX0_limpersRow_37  ?_
          refine lv_istore_n (lv' := [(2, .int (nI (7 * g + ((v 18) (j * 4 + i))))), (3, .int (nI (i))), (0, .ref (a 10)), (1, .int (nI (k)))]) hx hb dX0_limpersRow_38 rfl hl (by decide) rfl (fun ls hl => ?_)
          refine lv_iinc (v := nI (i + 1)) (lv' := [(3, .int (nI (i + 1))), (2, .int (nI (7 * g + ((v 18) (j * 4 + i))))), (0, .ref (a 10)), (1, .int (nI (k)))]) hx hb dX0_limpersRow_39 hl (k := 1) rfl (nI_add i 1) (by decide) rfl (fun ls hl => ?_)
          refine lv_goto (tgt := 4) hx hb dX0_limpersRow_42 (by decide) ?_
          exact ih4 (i + 1) (7 * g + ((v 18) (j * 4 + i))) _ _ _ (by omega) (by omega) (by first | (rw [h2, lrow_s, if_pos h2_19]) | (rw [h2, lrow_s, if_neg (fun z => h_19 ⟨hk1, z⟩)]; rfl)) hP hD hS (lv_sub hl [1, 0, 2, 3] rfl)
        · skip
          have hP : va_P D vwCl (xW a cI cJ cZ v c) H := hP
          have hD : va_D A (xW a cI cJ cZ v c) := hD
          refine w_if_eq (x := 0) hx hb dX0_limpersRow_22 (tgt := 36) (by decide) (by decide) (fun _ => ?_) (fun h => absurd h (by decide))
          refine lv_iconst (v := nI (0)) hx hb dX0_limpersRow_36 (by decide) ?_
          refine w_iadd (x := 7 * g) (y := 0) hx hb dX0_limpersRow_37  ?_
          rw [show (7 * g) + 0 = 7 * g from by omega]
          refine lv_istore_n (lv' := [(2, .int (nI (7 * g))), (3, .int (nI (i))), (0, .ref (a 10)), (1, .int (nI (k)))]) hx hb dX0_limpersRow_38 rfl hl (by decide) rfl (fun ls hl => ?_)
          refine lv_iinc (v := nI (i + 1)) (lv' := [(3, .int (nI (i + 1))), (2, .int (nI (7 * g))), (0, .ref (a 10)), (1, .int (nI (k)))]) hx hb dX0_limpersRow_39 hl (k := 1) rfl (nI_add i 1) (by decide) rfl (fun ls hl => ?_)
          refine lv_goto (tgt := 4) hx hb dX0_limpersRow_42 (by decide) ?_
          exact ih4 (i + 1) (7 * g) _ _ _ (by omega) (by omega) (by first | (rw [h2, lrow_s, if_pos h2_19]) | (rw [h2, lrow_s, if_neg (fun z => h_19 ⟨hk1, z⟩)]; rfl)) hP hD hS (lv_sub hl [1, 0, 2, 3] rfl)
  exact L4 ((v 10 6 - 0) + 1) 0 0 _ _ _ (Nat.lt_succ_self _) (by omega) (by rfl) hP hD hS (lv_sub hl [1, 0, 2, 3] rfl)

set_option maxHeartbeats 4000000 in
set_option maxRecDepth 100000 in
theorem k_learn (l : Launch) (D : va_G) (a : Nat → Nat) (cI cJ cZ : ClassId) (A : Nat → Prop) (v : Nat → Nat → Nat) (c : Nat → Nat → Int32) (bt : Nat) (hnb : v 11 0 ≤ 7) (hnc : v 15 0 ≤ 4) (hsp : ∀ q, q < 24 → v 18 q < 8) (hbt6 : bt ≤ 6) :
    mI l yX0_learn wsX0_learn 1 24 [.ref (a 10), .ref (a 25), .int (nI bt)] D (xT cI cJ cZ) A (xW a cI cJ cZ v c) (fun u : ((Nat → Nat → Nat) × (Nat → Nat → Int32)) => xW a cI cJ cZ u.1 u.2)
    (fun (r : Int32) (u : ((Nat → Nat → Nat) × (Nat → Nat → Int32))) => (∃ g18 : Nat → Nat, r = nI (1) ∧ u = (va_up v 18 (g18), c) ∧ (∀ j e, j < bt → e < v 15 0 → c 25 (j * v 15 0 + e) = nI (g18 (j * 4 + e)) ∧ g18 (j * 4 + e) < v 11 0) ∧ (∀ q, q < 24 → g18 q < 8)) ∨ (∃ g18 : Nat → Nat, ∃ q : Nat, r = nI (0) ∧ u = (va_up v 18 (g18), c) ∧ q < bt * v 15 0 ∧ ((c 25 q).toInt < 0 ∨ (v 11 0 : Int) ≤ (c 25 q).toInt) ∧ (∀ q, q < 24 → g18 q < 8))) := by
  refine w_bI cX0_learn 6 .boolean (by decide) rfl (Nat.le_of_ble_eq_true rfl) (Or.inr rfl) ?_
  intro p e s m args below meth c0 ls Q hx hb hml hts hown hK hN hA hret hP hD hS hl
  have hl : lv_has ls 6 [(0, .ref (a 10)), (1, .ref (a 25)), (2, .int (nI (bt)))] := hl
  have hinX0 : ∀ w ∈ wsX00, w ∈ wsX0_learn := fun w h => List.mem_cons_of_mem _ (List.mem_append_left _ (List.mem_append_left _ (List.mem_append_right _ h)))
  have hinX5 : ∀ w ∈ wsX50, w ∈ wsX0_learn := fun w h => List.mem_cons_of_mem _ (List.mem_append_left _ (List.mem_append_right _ h))
  refine lv_iconst (v := nI (0)) hx hb dX0_learn_0 (by decide) ?_
  refine lv_istore_n (lv' := [(3, .int (nI (0))), (0, .ref (a 10)), (1, .ref (a 25)), (2, .int (nI (bt)))]) hx hb dX0_learn_1 rfl hl (by decide) rfl (fun ls hl => ?_)
  refine lv_iconst (v := nI (0)) hx hb dX0_learn_2 (by decide) ?_
  refine lv_istore (lv' := [(4, .int (nI (0))), (3, .int (nI (0))), (0, .ref (a 10)), (1, .ref (a 25)), (2, .int (nI (bt)))]) hx hb dX0_learn_3 hl (by decide) rfl (fun ls hl => ?_)
  have L5 : ∀ (n : Nat) (k : Nat) (x : Nat) (g18 : Nat → Nat) (H : Heap) (locs : List Loc) (ls : Array Slot), bt - k < n → (k ≤ bt) → (x = k * v 15 0) → (∀ j e, j < k → e < v 15 0 → c 25 (j * v 15 0 + e) = nI (g18 (j * 4 + e)) ∧ g18 (j * 4 + e) < v 11 0) → (∀ q, q < 24 → g18 q < 8) → va_P D vwCl (xW a cI cJ cZ (va_up v 18 (g18)) c) H → va_D A (xW a cI cJ cZ (va_up v 18 (g18)) c) → va_S A s.heap H locs → lv_has ls 6 [(3, .int (nI (x))), (4, .int (nI (k))), (0, .ref (a 10)), (1, .ref (a 25)), (2, .int (nI (bt)))] → W p l e { frames := 1, cells := 0, slots := 0, locals := 24 } s m args below meth c0 H locs 0 0 Q (F0 m 5 ls []) := by
    intro n
    induction n with
    | zero => intro k x g18 H locs ls hm; exact absurd hm (Nat.not_lt_zero _)
    | succ n ih5 =>
      intro k x g18 H locs ls hm5 h1 h2 h3 h4 hP hD hS hl
      refine lv_iload hx hb dX0_learn_5 (lv_at hl 1 rfl) ?_
      refine lv_iload_n hx hb dX0_learn_7 rfl (lv_at hl 4 rfl) ?_
      refine w_icmp_ge (x := k) (y := bt) hx hb dX0_learn_8 (tgt := 73) (by decide) (by omega) (by omega) (fun c8 => ?_) (fun c8 => ?_)
      · skip
        refine lv_iconst (v := nI (1)) hx hb dX0_learn_73 (by decide) ?_
        exact hret (nI (1)) (va_up v 18 (g18), c) _ _ 74 _ dX0_learn_74 rfl (by have e : k = bt := (by omega); subst e; exact Or.inl ⟨g18, rfl, rfl, h3, h4⟩) hP hD hS
      · skip
        refine lv_iconst (v := nI (0)) hx hb dX0_learn_11 (by decide) ?_
        refine lv_istore (lv' := [(5, .int (nI (0))), (3, .int (nI (x))), (4, .int (nI (k))), (0, .ref (a 10)), (1, .ref (a 25)), (2, .int (nI (bt)))]) hx hb dX0_learn_12 hl (by decide) rfl (fun ls hl => ?_)
        have L14 : ∀ (n : Nat) (i : Nat) (y : Nat) (gg : Nat → Nat) (H : Heap) (locs : List Loc) (ls : Array Slot), v 15 0 - i < n → (i ≤ v 15 0) → (y = k * v 15 0 + i) → (∀ e, e < i → c 25 (k * v 15 0 + e) = nI (gg (k * 4 + e)) ∧ gg (k * 4 + e) < v 11 0) → (∀ q, q < 24 → gg q < 8) → (∀ q, q < k * 4 → gg q = g18 q) → va_P D vwCl (xW a cI cJ cZ (va_up v 18 (gg)) c) H → va_D A (xW a cI cJ cZ (va_up v 18 (gg)) c) → va_S A s.heap H locs → lv_has ls 6 [(3, .int (nI (y))), (5, .int (nI (i))), (0, .ref (a 10)), (1, .ref (a 25)), (2, .int (nI (bt))), (4, .int (nI (k)))] → W p l e { frames := 1, cells := 0, slots := 0, locals := 24 } s m args below meth c0 H locs 0 0 Q (F0 m 14 ls []) := by
          intro n
          induction n with
          | zero => intro i y gg H locs ls hm; exact absurd hm (Nat.not_lt_zero _)
          | succ n ih14 =>
            intro i y gg H locs ls hm14 k1 k2 k3 k4 k5 hP hD hS hl
            refine lv_iload hx hb dX0_learn_14 (lv_at hl 1 rfl) ?_
            refine lv_aload_n hx hb dX0_learn_16 rfl (lv_at hl 2 rfl) ?_
            refine va_get (D := D) (ci := 0) (v := .ref (a 15)) (C := RX0) (T := TX0) (N := 8) hx hb hts hinX0 hown hK hP 10 rfl rfl 1 (by decide) (hts (.fieldLink RX0 21 "DancedLock$Dance" "troupe" "LDancedLock$Troupe;") (List.mem_of_getElem? (i := 1) rfl)) (fun _ h9 => h9) rfl dX0_learn_17 ?_
            refine va_getN (D := D) (ci := 5) (v := .int (nI (v 15 0))) (C := RX5) (T := TX5) (N := 3) hx hb hts hinX5 hown hK hP 15 rfl rfl 0 (by decide) (va_Nw.use rfl (hN (.fieldLinkNest RX0 43 "DancedLock$Troupe" "count" "I" "DancedLock") (List.mem_of_getElem? (i := 6) rfl))) (fun _ h9 => h9) rfl dX0_learn_20 ?_
            refine w_icmp_ge (x := i) (y := v 15 0) hx hb dX0_learn_23 (tgt := 67) (by decide) (by omega) (by omega) (fun c23 => ?_) (fun c23 => ?_)
            · skip
              have ei : i = v 15 0 := (by omega)
              refine lv_iinc (v := nI (k + 1)) (lv' := [(4, .int (nI (k + 1))), (3, .int (nI (y))), (5, .int (nI (i))), (0, .ref (a 10)), (1, .ref (a 25)), (2, .int (nI (bt)))]) hx hb dX0_learn_67 hl (k := 5) rfl (nI_add k 1) (by decide) rfl (fun ls hl => ?_)
              refine lv_goto (tgt := 5) hx hb dX0_learn_70 (by decide) ?_
              exact ih5 (k + 1) y gg _ _ _ (by omega) (by omega) (by rw [k2, Nat.succ_mul]; omega) (by exact rd_s h3 (fun e he => k3 e (by omega)) k5 hnc) (by exact k4) hP hD hS (lv_sub hl [1, 0, 3, 4, 5] rfl)
            · skip
              have hy : k * v 15 0 + i < bt * v 15 0 := lin_lt (by omega) (by omega)
              have hy2 : bt * v 15 0 ≤ 6 * 4 := Nat.mul_le_mul hbt6 hnc
              refine lv_iload_n hx hb dX0_learn_26 rfl (lv_at hl 0 rfl) ?_
              refine lv_aload_n hx hb dX0_learn_27 rfl (lv_at hl 3 rfl) ?_
              refine va_alen (v := nI 80) hx hb hK hP 25 0 rfl rfl rfl dX0_learn_28 ?_
              refine w_icmp_ge (x := y) (y := 80) hx hb dX0_learn_29 (tgt := 45) (by decide) (by omega) (by omega) (fun c29 => absurd c29 (by omega)) (fun c29 => ?_)
              refine lv_aload_n hx hb dX0_learn_32 rfl (lv_at hl 2 rfl) ?_
              refine va_get (D := D) (ci := 0) (v := .ref (a 11)) (C := RX0) (T := TX0) (N := 8) hx hb hts hinX0 hown hK hP 10 rfl rfl 0 (by decide) (hts (.fieldLink RX0 12 "DancedLock$Dance" "floor" "LDancedLock$Floor;") (List.mem_of_getElem? (i := 2) rfl)) (fun _ h9 => h9) rfl dX0_learn_33 ?_
              refine lv_aload_n hx hb dX0_learn_36 rfl (lv_at hl 3 rfl) ?_
              refine lv_iload_n hx hb dX0_learn_37 rfl (lv_at hl 0 rfl) ?_
              refine r_iald (f := c 25) hx hb hK hP 25 0 rfl rfl (i := y) (by omega) (by decide) dX0_learn_38 ?_
              refine lv_topi (fun zz hz => ?_)
              refine w_cVi (rest := []) hx hb hml hown hts (k_hasBoard_R l D a cI cJ cZ A (va_up v 18 (gg)) c zz  (by first | assumption | omega)) 1 gX0_learn_X2_hasBoard rfl hdX2_hasBoard ⟨Nat.le_of_ble_eq_true rfl, Nat.le_of_ble_eq_true rfl⟩ hK hN hP hD hS hA 11 2 rfl rfl rfl rfl hl.1 rfl (Nat.le_of_ble_eq_true rfl) dX0_learn_39 ⟨Nat.le_of_ble_eq_true rfl, Nat.le_of_ble_eq_true rfl⟩ (fun r u H locs hq hP hD hS => ?_)
              rcases hq with ⟨j_39, rfl, h_39, hs_x_39⟩ | ⟨rfl, h_39⟩
              · skip
                have h_39 : j_39 < (v 11 0) := h_39
                have hP : va_P D vwCl (xW a cI cJ cZ (va_up v 18 (gg)) c) H := hP
                have hD : va_D A (xW a cI cJ cZ (va_up v 18 (gg)) c) := hD
                subst hs_x_39
                have j_39T := n_tI (k := j_39) (by omega)
                refine w_if_ne (x := 1) hx hb dX0_learn_42 (tgt := 47) (by decide) (by decide) (fun _ => ?_) (fun h => absurd h (by decide))
                refine lv_aload_n hx hb dX0_learn_47 rfl (lv_at hl 2 rfl) ?_
                refine lv_iload hx hb dX0_learn_48 (lv_at hl 5 rfl) ?_
                refine lv_iload hx hb dX0_learn_50 (lv_at hl 1 rfl) ?_
                refine lv_aload_n hx hb dX0_learn_52 rfl (lv_at hl 3 rfl) ?_
                refine lv_iload_n hx hb dX0_learn_53 rfl (lv_at hl 0 rfl) ?_
                refine r_iald (f := c 25) hx hb hK hP 25 0 rfl rfl (i := y) (by omega) (by decide) dX0_learn_54 ?_
                rw [show (c 25 y) = (nI (j_39)) from hz.symm]
                refine w_cVv (rest := []) hx hb hml hown hts (k_step l D a cI cJ cZ A (va_up v 18 (gg)) c k i j_39  (by first | assumption | omega)) 3 gX0_learn_X0_step rfl hdX0_step ⟨Nat.le_of_ble_eq_true rfl, Nat.le_of_ble_eq_true rfl⟩ hK hN hP hD hS hA 10 0 rfl rfl rfl rfl hl.1 rfl (Nat.le_of_ble_eq_true rfl) dX0_learn_55 ⟨Nat.le_of_ble_eq_true rfl, Nat.le_of_ble_eq_true rfl⟩ (fun u H locs hq hP hD hS => ?_)
                obtain rfl := hq
                have hP : va_P D vwCl (xW a cI cJ cZ (va_up v 18 (va_up (gg) (k * 4 + i) j_39)) c) H := hP
                have hD : va_D A (xW a cI cJ cZ (va_up v 18 (va_up (gg) (k * 4 + i) j_39)) c) := hD
                refine lv_iinc (v := nI (y + 1)) (lv' := [(3, .int (nI (y + 1))), (5, .int (nI (i))), (0, .ref (a 10)), (1, .ref (a 25)), (2, .int (nI (bt))), (4, .int (nI (k)))]) hx hb dX0_learn_58 hl (k := 0) rfl (nI_add y 1) (by decide) rfl (fun ls hl => ?_)
                refine lv_iinc (v := nI (i + 1)) (lv' := [(5, .int (nI (i + 1))), (3, .int (nI (y + 1))), (0, .ref (a 10)), (1, .ref (a 25)), (2, .int (nI (bt))), (4, .int (nI (k)))]) hx hb dX0_learn_61 hl (k := 1) rfl (nI_add i 1) (by decide) rfl (fun ls hl => ?_)
                refine lv_goto (tgt := 14) hx hb dX0_learn_64 (by decide) ?_
                exact ih14 (i + 1) (y + 1) (va_up (gg) (k * 4 + i) j_39) _ _ _ (by omega) (by omega) (by omega) (by exact rd_i k3 (by rw [← k2]; exact hz.symm) h_39) (by exact up8 k4 (by omega)) (by exact fun q hq => (up_ne (by omega)).trans (k5 q hq)) hP hD hS (lv_sub hl [1, 0, 2, 3, 4, 5] rfl)
              · skip
                have h_39 : zz.toInt < 0 ∨ ((v 11 0) : Int) ≤ zz.toInt := h_39
                have hP : va_P D vwCl (xW a cI cJ cZ (va_up v 18 (gg)) c) H := hP
                have hD : va_D A (xW a cI cJ cZ (va_up v 18 (gg)) c) := hD
                refine w_if_ne (x := 0) hx hb dX0_learn_42 (tgt := 47) (by decide) (by decide) (fun h => absurd h (by decide)) (fun _ => ?_)
                refine lv_iconst (v := nI (0)) hx hb dX0_learn_45 (by decide) ?_
                exact hret (nI (0)) (va_up v 18 (gg), c) _ _ 46 _ dX0_learn_46 rfl (by exact Or.inr ⟨gg, y, rfl, rfl, by omega, by rw [← hz]; exact h_39, k4⟩) hP hD hS
        exact L14 ((v 15 0 - 0) + 1) 0 x g18 _ _ _ (Nat.lt_succ_self _) (by omega) (by rw [h2]; rfl) (by exact fun e he => absurd he (Nat.not_lt_zero _)) (by exact h4) (by exact fun q hq => rfl) hP hD hS (lv_sub hl [1, 0, 3, 4, 5, 2] rfl)
  exact L5 ((bt - 0) + 1) 0 0 (v 18) _ _ _ (Nat.lt_succ_self _) (by omega) (by exact (Nat.zero_mul _).symm) (by exact fun j e hj => absurd hj (Nat.not_lt_zero _)) (by exact hsp) hP hD hS (lv_sub hl [1, 0, 2, 3, 4] rfl)
