/-! ===== the model's search ===== -/
theorem NR_le {nb : Nat} {need : Nat → Nat} {nc : Nat} {li p F st : Nat → Nat} {k lo hi h2 : Nat} (h : NRk nb need nc li p F k lo hi st) (hl : h2 ≤ hi) : NRk nb need nc li p F k lo h2 st := fun q t a1 a2 => h q t a1 (by omega)
theorem z_s {g : Nat → Nat} {q : Nat} (h : ∀ z, z < q → g z = 0) : ∀ z, z < q + 1 → va_up g q 0 z = 0 := by
  intro z hz
  by_cases e : z = q
  · subst e; exact up_eq
  · rw [up_ne e]; exact h z (by omega)
theorem mx2_of {v w : Nat → Nat → Nat} {c d : Nat → Nat → Int32} {P : Prop} {F : Nat} (hm : MI w d) (hp : P) (h0 : w 0 0 = F) (e : vM w 3 = vM v 3 ∧ vM w 11 = vM v 11 ∧ vM w 12 = vM v 12 ∧ vM w 13 = vM v 13 ∧ vM w 14 = vM v 14 ∧ vM w 15 = vM v 15 ∧ vM w 16 = vM v 16 ∧ vM w 17 = vM v 17 ∧ vM w 23 = vM v 23 ∧ vM w 24 = vM v 24 ∧ cM d 2 = cM c 2 ∧ cM d 4 = cM c 4 ∧ cM d 0 7 = cM c 0 7) : MI w d ∧ P ∧ XS (vM v) (cM c) (vM w, cM d) F :=
  ⟨hm, hp, hm.1, h0, e⟩
theorem icr_y {nb : Nat} {need : Nat → Nat} {nc : Nat} {li p st g : Nat → Nat} {f r : Nat} (hnc : nc ≤ 4) (hnb : 0 < nb) (hr : r < nb ^ nc) (h : LBk nb nc li 0 r st g) (hf : FE nb need nc li p g 0 = f) : icr nb need nc li p f r = 1 := if_pos ((FE_row hnc hnb hr h).symm.trans hf)
theorem icr_n {nb : Nat} {need : Nat → Nat} {nc : Nat} {li p st g : Nat → Nat} {f r : Nat} (hnc : nc ≤ 4) (hnb : 0 < nb) (hr : r < nb ^ nc) (h : LBk nb nc li 0 r st g) (hf : ¬ FE nb need nc li p g 0 = f) : icr nb need nc li p f r = 0 := if_neg (fun z => hf ((FE_row hnc hnb hr h).trans z))
set_option maxHeartbeats 4000000 in
set_option maxRecDepth 100000 in
theorem m_rows (l : Launch) (D : va_G) (b : Nat → Nat) (cI cJ cZ : ClassId) (A : Nat → Prop) (v : Nat → Nat → Nat) (c : Nat → Nat → Int32) (k : Nat) (hX : XI (vM v)) (hw : v 20 0 ≤ 1) (hk : k < 8) :
    mI l yX7_rows wsX7_rows 1 22 [.ref (b 0), .int (nI k)] D (xT cI cJ cZ) A (mW b cI cJ cZ v c) (fun _ : Unit => mW b cI cJ cZ v c)
    (fun (r : Int32) (u : Unit) => r = nI (cnq (v 5 0) (frk (mL (v 20 0) (v 17)) k) (v 16 0))) := by
  refine w_bI cX7_rows 4 .int (by decide) rfl (Nat.le_of_ble_eq_true rfl) (Or.inl rfl) ?_
  intro p e s m args below meth c0 ls Q hx hb hml hts hown hK hN hA hret hP hD hS hl
  have hl : lv_has ls 4 [(0, .ref (b 0)), (1, .int (nI (k)))] := hl
  have hinX7 : ∀ w ∈ wsX70, w ∈ wsX7_rows := fun w h => List.mem_cons_of_mem _ (List.mem_append_right _ h)
  obtain ⟨hnb, hnd, hbt, hfg, hne, hnc, hdk, hnf, hkn, hln, hst, hdc, hsp⟩ := MX_o hX
  refine lv_iconst (v := nI (1)) hx hb dX7_rows_0 (by decide) ?_
  refine lv_istore_n (lv' := [(2, .int (nI (1))), (0, .ref (b 0)), (1, .int (nI (k)))]) hx hb dX7_rows_1 rfl hl (by decide) rfl (fun ls hl => ?_)
  refine lv_iconst (v := nI (0)) hx hb dX7_rows_2 (by decide) ?_
  refine lv_istore_n (lv' := [(3, .int (nI (0))), (2, .int (nI (1))), (0, .ref (b 0)), (1, .int (nI (k)))]) hx hb dX7_rows_3 rfl hl (by decide) rfl (fun ls hl => ?_)
  have L4 : ∀ (n : Nat) (i : Nat) (q : Nat) (H : Heap) (locs : List Loc) (ls : Array Slot), v 16 0 - i < n → (i ≤ v 16 0) → (q = cnq (v 5 0) (frk (mL (v 20 0) (v 17)) k) i) → va_P D vwCl (mW b cI cJ cZ v c) H → va_D A (mW b cI cJ cZ v c) → va_S A s.heap H locs → lv_has ls 4 [(2, .int (nI (q))), (3, .int (nI (i))), (0, .ref (b 0)), (1, .int (nI (k)))] → W p l e { frames := 1, cells := 0, slots := 0, locals := 22 } s m args below meth c0 H locs 0 0 Q (F0 m 4 ls []) := by
    intro n
    induction n with
    | zero => intro i q H locs ls hm; exact absurd hm (Nat.not_lt_zero _)
    | succ n ih4 =>
      intro i q H locs ls hm4 h1 h2 hP hD hS hl
      refine lv_iload_n hx hb dX7_rows_4 rfl (lv_at hl 1 rfl) ?_
      refine lv_aload_n hx hb dX7_rows_5 rfl (lv_at hl 2 rfl) ?_
      refine va_get (D := D) (ci := 7) (v := .int (nI (v 16 0))) (C := RX7) (T := TX7) (N := 24) hx hb hts hinX7 hown hK hP 0 rfl rfl 16 (by decide) (hts (.fieldLink RX7 103 "DancedLockModel" "dancers" "I") (List.mem_of_getElem? (i := 1) rfl)) (fun _ h9 => h9) rfl dX7_rows_6 ?_
      refine w_icmp_ge (x := i) (y := v 16 0) hx hb dX7_rows_9 (tgt := 38) (by decide) (by omega) (by omega) (fun c9 => ?_) (fun c9 => ?_)
      · skip
        refine lv_iload_n hx hb dX7_rows_38 rfl (lv_at hl 0 rfl) ?_
        exact hret (nI (q)) () _ _ 39 _ dX7_rows_39 rfl (by have e : i = v 16 0 := (by omega); rw [h2, e]) hP hD hS
      · skip
        refine lv_iload_n hx hb dX7_rows_12 rfl (lv_at hl 0 rfl) ?_
        refine lv_aload_n hx hb dX7_rows_13 rfl (lv_at hl 2 rfl) ?_
        refine lv_iload_n hx hb dX7_rows_14 rfl (lv_at hl 3 rfl) ?_
        refine lv_iload_n hx hb dX7_rows_15 rfl (lv_at hl 1 rfl) ?_
        refine w_cVi (rest := [.int (nI (q))]) hx hb hml hown hts (m_limps l D b cI cJ cZ A v c k i  (by first | assumption | omega) (by first | assumption | omega) (by first | assumption | omega) (by omega)) 2 gX7_rows_X7_limps rfl hdX7_limps ⟨Nat.le_of_ble_eq_true rfl, Nat.le_of_ble_eq_true rfl⟩ hK hN hP hD hS hA 0 7 rfl rfl rfl rfl hl.1 rfl (Nat.le_of_ble_eq_true rfl) dX7_rows_16 ⟨Nat.le_of_ble_eq_true rfl, Nat.le_of_ble_eq_true rfl⟩ (fun r u H locs hq hP hD hS => ?_)
        rcases hq with ⟨rfl, h1_16, h2_16⟩ | ⟨rfl, h_16⟩
        · skip
          have hP : va_P D vwCl (mW b cI cJ cZ v c) H := hP
          have hD : va_D A (mW b cI cJ cZ v c) := hD
          refine w_if_eq (x := 1) hx hb dX7_rows_19 (tgt := 26) (by decide) (by decide) (fun h => absurd h (by decide)) (fun _ => ?_)
          refine lv_iconst (v := nI (1)) hx hb dX7_rows_22 (by decide) ?_
          refine lv_goto (tgt := 30) hx hb dX7_rows_23 (by decide) ?_
          refine w_imul (x := q) (y := 1) hx hb dX7_rows_30  ?_
          refine lv_istore_n (lv' := [(2, .int (nI (q * 1))), (3, .int (nI (i))), (0, .ref (b 0)), (1, .int (nI (k)))]) hx hb dX7_rows_31 rfl hl (by decide) rfl (fun ls hl => ?_)
          refine lv_iinc (v := nI (i + 1)) (lv' := [(3, .int (nI (i + 1))), (2, .int (nI (q * 1))), (0, .ref (b 0)), (1, .int (nI (k)))]) hx hb dX7_rows_32 hl (k := 1) rfl (nI_add i 1) (by decide) rfl (fun ls hl => ?_)
          refine lv_goto (tgt := 4) hx hb dX7_rows_35 (by decide) ?_
          exact ih4 (i + 1) (q * 1) _ _ _ (by omega) (by omega) (by first | (rw [h2, cnq_z (frk_z h1_16 h2_16), Nat.mul_one]) | (rw [h2, cnq_f (frk_f h_16)])) hP hD hS (lv_sub hl [1, 0, 2, 3] rfl)
        · skip
          have hP : va_P D vwCl (mW b cI cJ cZ v c) H := hP
          have hD : va_D A (mW b cI cJ cZ v c) := hD
          refine w_if_eq (x := 0) hx hb dX7_rows_19 (tgt := 26) (by decide) (by decide) (fun _ => ?_) (fun h => absurd h (by decide))
          refine lv_aload_n hx hb dX7_rows_26 rfl (lv_at hl 2 rfl) ?_
          refine va_get (D := D) (ci := 7) (v := .int (nI (v 5 0))) (C := RX7) (T := TX7) (N := 24) hx hb hts hinX7 hown hK hP 0 rfl rfl 5 (by decide) (hts (.fieldLink RX7 63 "DancedLockModel" "boards" "I") (List.mem_of_getElem? (i := 2) rfl)) (fun _ h9 => h9) rfl dX7_rows_27 ?_
          refine w_imul (x := q) (y := v 5 0) hx hb dX7_rows_30  ?_
          refine lv_istore_n (lv' := [(2, .int (nI (q * (v 5 0)))), (3, .int (nI (i))), (0, .ref (b 0)), (1, .int (nI (k)))]) hx hb dX7_rows_31 rfl hl (by decide) rfl (fun ls hl => ?_)
          refine lv_iinc (v := nI (i + 1)) (lv' := [(3, .int (nI (i + 1))), (2, .int (nI (q * (v 5 0)))), (0, .ref (b 0)), (1, .int (nI (k)))]) hx hb dX7_rows_32 hl (k := 1) rfl (nI_add i 1) (by decide) rfl (fun ls hl => ?_)
          refine lv_goto (tgt := 4) hx hb dX7_rows_35 (by decide) ?_
          exact ih4 (i + 1) (q * (v 5 0)) _ _ _ (by omega) (by omega) (by first | (rw [h2, cnq_z (frk_z h1_16 h2_16), Nat.mul_one]) | (rw [h2, cnq_f (frk_f h_16)])) hP hD hS (lv_sub hl [1, 0, 2, 3] rfl)
  exact L4 ((v 16 0 - 0) + 1) 0 1 _ _ _ (Nat.lt_succ_self _) (by omega) (by rfl) hP hD hS (lv_sub hl [1, 0, 2, 3] rfl)

set_option maxHeartbeats 4000000 in
set_option maxRecDepth 100000 in
theorem m_layBeat (l : Launch) (D : va_G) (b : Nat → Nat) (cI cJ cZ : ClassId) (A : Nat → Prop) (v : Nat → Nat → Nat) (c : Nat → Nat → Int32) (k : Nat) (row : Nat) (hX : XI (vM v)) (hw : v 20 0 ≤ 1) (hk : k < 6) (h2b : 2 ≤ v 5 0) (hrow : row < cnq (v 5 0) (frk (mL (v 20 0) (v 17)) k) (v 16 0)) :
    mV l yX7_layBeat wsX7_layBeat 1 22 [.ref (b 0), .int (nI k), .int (nI row)] D (xT cI cJ cZ) A (mW b cI cJ cZ v c) (fun u : ((Nat → Nat → Nat) × (Nat → Nat → Int32)) => mW b cI cJ cZ u.1 u.2)
    (fun (u : ((Nat → Nat → Nat) × (Nat → Nat → Int32))) => ∃ g19 : Nat → Nat, u = (va_up v 19 (g19), c) ∧ LBk (v 5 0) (v 16 0) (mL (v 20 0) (v 17)) k row (v 19) g19 ∧ (∀ q, q < 24 → g19 q < 8)) := by
  refine w_bV cX7_layBeat 5 (by decide) rfl (Nat.le_of_ble_eq_true rfl) ?_
  intro p e s m args below meth c0 ls Q hx hb hml hts hown hK hN hA hret hP hD hS hl
  have hl : lv_has ls 5 [(0, .ref (b 0)), (1, .int (nI (k))), (2, .int (nI (row)))] := hl
  have hinX7 : ∀ w ∈ wsX70, w ∈ wsX7_layBeat := fun w h => List.mem_cons_of_mem _ (List.mem_append_right _ h)
  obtain ⟨hnb, hnd, hbt, hfg, hne, hnc, hdk, hnf, hkn, hln, hst, hdc, hsp⟩ := MX_o hX
  refine lv_iload_n hx hb dX7_layBeat_0 rfl (lv_at hl 2 rfl) ?_
  refine lv_istore_n (lv' := [(3, .int (nI (row))), (0, .ref (b 0)), (1, .int (nI (k))), (2, .int (nI (row)))]) hx hb dX7_layBeat_1 rfl hl (by decide) rfl (fun ls hl => ?_)
  refine lv_aload_n hx hb dX7_layBeat_2 rfl (lv_at hl 1 rfl) ?_
  refine va_get (D := D) (ci := 7) (v := .int (nI (v 16 0))) (C := RX7) (T := TX7) (N := 24) hx hb hts hinX7 hown hK hP 0 rfl rfl 16 (by decide) (hts (.fieldLink RX7 103 "DancedLockModel" "dancers" "I") (List.mem_of_getElem? (i := 1) rfl)) (fun _ h9 => h9) rfl dX7_layBeat_3 ?_
  refine lv_iconst (v := nI (1)) hx hb dX7_layBeat_6 (by decide) ?_
  refine lv_isub hx hb dX7_layBeat_7 ?_
  refine lv_istore (lv' := [(4, .int ((nI (v 16 0)) - (nI (1)))), (3, .int (nI (row))), (0, .ref (b 0)), (1, .int (nI (k))), (2, .int (nI (row)))]) hx hb dX7_layBeat_8 hl (by decide) rfl (fun ls hl => ?_)
  have L10 : ∀ (n : Nat) (x : Int32) (j : Nat) (y : Nat) (g19 : Nat → Nat) (H : Heap) (locs : List Loc) (ls : Array Slot), j < n → (j ≤ v 16 0) → (x.toInt = (j : Int) - 1) → (y < cnq (v 5 0) (frk (mL (v 20 0) (v 17)) k) j) → (vqx (v 5 0) (frk (mL (v 20 0) (v 17)) k) (fun e => g19 (k * 4 + e)) y j (v 16 0 - j) = row) → (∀ e, j ≤ e → e < v 16 0 → (k % 2 = 1 ∧ (mL (v 20 0) (v 17)) e ≠ 0 → g19 (k * 4 + e) = 0) ∧ (¬ (k % 2 = 1 ∧ (mL (v 20 0) (v 17)) e ≠ 0) → g19 (k * 4 + e) < v 5 0)) → (OUTk k g19 (v 19)) → (∀ q, q < 24 → g19 q < 8) → va_P D vwCl (mW b cI cJ cZ (va_up v 19 (g19)) c) H → va_D A (mW b cI cJ cZ (va_up v 19 (g19)) c) → va_S A s.heap H locs → lv_has ls 5 [(3, .int (nI (y))), (4, .int x), (0, .ref (b 0)), (1, .int (nI (k))), (2, .int (nI (row)))] → W p l e { frames := 1, cells := 0, slots := 0, locals := 22 } s m args below meth c0 H locs 0 0 Q (F0 m 10 ls []) := by
    intro n
    induction n with
    | zero => intro x j y g19 H locs ls hm; exact absurd hm (Nat.not_lt_zero _)
    | succ n ih10 =>
      intro x j y g19 H locs ls hm10 hj hxj hy hv hd ho hs hP hD hS hl
      refine lv_iload hx hb dX7_layBeat_10 (lv_at hl 1 rfl) ?_
      refine r_if_lt hx hb dX7_layBeat_12 (tgt := 73) (by decide) (fun c12 => ?_) (fun c12 => ?_)
      · skip
        exact hret (va_up v 19 (g19), c) _ _ 73 _ dX7_layBeat_73 (by have e : j = 0 := (by omega); subst e; exact ⟨g19, rfl, ⟨ho, fun e h => hd e (Nat.zero_le _) h, vqx_end hv hy⟩, hs⟩) hP hD hS
      · skip
        obtain ⟨x', x'B, rfl⟩ := r_nat c12
        have x'T := n_tI x'B
        have hj2 : j = x' + 1 := (by omega)
        subst hj2
        have hcy := cnq_2401 (fr := frk (mL (v 20 0) (v 17)) k) (n := x' + 1) hnb (by omega)
        refine lv_aload_n hx hb dX7_layBeat_15 rfl (lv_at hl 2 rfl) ?_
        refine va_get (D := D) (ci := 7) (v := .ref (b 19)) (C := RX7) (T := TX7) (N := 24) hx hb hts hinX7 hown hK hP 0 rfl rfl 19 (by decide) (hts (.fieldLink RX7 43 "DancedLockModel" "plan" "[I") (List.mem_of_getElem? (i := 2) rfl)) (fun _ h9 => h9) rfl dX7_layBeat_16 ?_
        refine lv_iconst (v := nI (4)) hx hb dX7_layBeat_19 (by decide) ?_
        refine lv_iload_n hx hb dX7_layBeat_20 rfl (lv_at hl 3 rfl) ?_
        refine w_imul (x := 4) (y := k) hx hb dX7_layBeat_21  ?_
        rw [show (nI (4 * k)) = (nI (k * 4)) from by rw [Nat.mul_comm]]
        refine lv_iload hx hb dX7_layBeat_22 (lv_at hl 1 rfl) ?_
        refine w_iadd (x := k * 4) (y := x') hx hb dX7_layBeat_24  ?_
        refine lv_aload_n hx hb dX7_layBeat_25 rfl (lv_at hl 2 rfl) ?_
        refine lv_iload_n hx hb dX7_layBeat_26 rfl (lv_at hl 3 rfl) ?_
        refine lv_iload hx hb dX7_layBeat_27 (lv_at hl 1 rfl) ?_
        refine w_cVi (rest := [.int (nI (k * 4 + x')), .ref (b 19)]) hx hb hml hown hts (m_limps l D b cI cJ cZ A (va_up v 19 (g19)) c k x'  (by show XI (vM (va_up v 19 (g19))); exact MX_i ⟨hnb, hnd, hbt, hfg, hne, hnc, hdk, hnf, hkn, hln, hst, hdc, hs⟩) (by show (v 20 0) ≤ 1; first | assumption | omega) (by omega) (by show x' < (v 16 0); omega)) 2 gX7_layBeat_X7_limps rfl hdX7_limps ⟨Nat.le_of_ble_eq_true rfl, Nat.le_of_ble_eq_true rfl⟩ hK hN hP hD hS hA 0 7 rfl rfl rfl rfl hl.1 rfl (Nat.le_of_ble_eq_true rfl) dX7_layBeat_29 ⟨Nat.le_of_ble_eq_true rfl, Nat.le_of_ble_eq_true rfl⟩ (fun r u H locs hq hP hD hS => ?_)
        rcases hq with ⟨rfl, h1_29, h2_29⟩ | ⟨rfl, h_29⟩
        · skip
          have h2_29 : (mL ((v 20 0)) ((v 17))) x' ≠ 0 := h2_29
          have hP : va_P D vwCl (mW b cI cJ cZ (va_up v 19 (g19)) c) H := hP
          have hD : va_D A (mW b cI cJ cZ (va_up v 19 (g19)) c) := hD
          refine w_if_eq (x := 1) hx hb dX7_layBeat_32 (tgt := 39) (by decide) (by decide) (fun h => absurd h (by decide)) (fun _ => ?_)
          refine lv_iconst (v := nI (0)) hx hb dX7_layBeat_35 (by decide) ?_
          refine lv_goto (tgt := 45) hx hb dX7_layBeat_36 (by decide) ?_
          refine w_iast (f := g19) (w := 0) hx hb hK hP hD hS 12 0 rfl rfl (i := k * 4 + x') (by omega) (by decide) dX7_layBeat_45 (fun H locs hP hD hS => ?_)
          have hP : va_P D vwCl (mW b cI cJ cZ (va_up v 19 (va_up g19 (k * 4 + x') 0)) c) H := hP
          have hD : va_D A (mW b cI cJ cZ (va_up v 19 (va_up g19 (k * 4 + x') 0)) c) := hD
          refine lv_aload_n hx hb dX7_layBeat_46 rfl (lv_at hl 2 rfl) ?_
          refine lv_iload_n hx hb dX7_layBeat_47 rfl (lv_at hl 3 rfl) ?_
          refine lv_iload hx hb dX7_layBeat_48 (lv_at hl 1 rfl) ?_
          refine w_cVi (rest := []) hx hb hml hown hts (m_limps l D b cI cJ cZ A (va_up v 19 (va_up g19 (k * 4 + x') 0)) c k x'  (by show XI (vM (va_up v 19 (va_up g19 (k * 4 + x') 0))); exact MX_i ⟨hnb, hnd, hbt, hfg, hne, hnc, hdk, hnf, hkn, hln, hst, hdc, up8 hs (by first | omega | (have h9 := Nat.mod_lt y (show 0 < v 5 0 by omega); omega))⟩) (by show (v 20 0) ≤ 1; first | assumption | omega) (by omega) (by show x' < (v 16 0); omega)) 2 gX7_layBeat_X7_limps rfl hdX7_limps ⟨Nat.le_of_ble_eq_true rfl, Nat.le_of_ble_eq_true rfl⟩ hK hN hP hD hS hA 0 7 rfl rfl rfl rfl hl.1 rfl (Nat.le_of_ble_eq_true rfl) dX7_layBeat_50 ⟨Nat.le_of_ble_eq_true rfl, Nat.le_of_ble_eq_true rfl⟩ (fun r u H locs hq hP hD hS => ?_)
          rcases hq with ⟨rfl, h1_50, h2_50⟩ | ⟨rfl, h_50⟩
          · skip
            have h2_50 : (mL ((v 20 0)) ((v 17))) x' ≠ 0 := h2_50
            have hP : va_P D vwCl (mW b cI cJ cZ (va_up v 19 (va_up g19 (k * 4 + x') 0)) c) H := hP
            have hD : va_D A (mW b cI cJ cZ (va_up v 19 (va_up g19 (k * 4 + x') 0)) c) := hD
            refine w_if_eq (x := 1) hx hb dX7_layBeat_53 (tgt := 60) (by decide) (by decide) (fun h => absurd h (by decide)) (fun _ => ?_)
            refine lv_iload_n hx hb dX7_layBeat_56 rfl (lv_at hl 0 rfl) ?_
            refine lv_goto (tgt := 66) hx hb dX7_layBeat_57 (by decide) ?_
            refine lv_istore_n (lv' := [(3, .int (nI (y))), (4, .int (nI (x'))), (0, .ref (b 0)), (1, .int (nI (k))), (2, .int (nI (row)))]) hx hb dX7_layBeat_66 rfl hl (by decide) rfl (fun ls hl => ?_)
            refine lv_iinc (v := (nI (x')) + -1) (lv' := [(4, .int ((nI (x')) + -1)), (3, .int (nI (y))), (0, .ref (b 0)), (1, .int (nI (k))), (2, .int (nI (row)))]) hx hb dX7_layBeat_67 hl (k := 1) rfl (rfl) (by decide) rfl (fun ls hl => ?_)
            refine lv_goto (tgt := 10) hx hb dX7_layBeat_70 (by decide) ?_
            exact ih10 ((nI (x')) + -1) x' y (va_up g19 (k * 4 + x') 0) _ _ _ (by omega) (by omega) (by have h9 := dec_I (x := x') (by omega); exact h9) (by first | (rw [cnq_z (frk_z h1_29 h2_29)] at hy; exact hy) | (rw [cnq_f (frk_f h_29)] at hy; exact Nat.div_lt_of_lt_mul (by rw [Nat.mul_comm]; exact hy))) (by first | exact lay_s (by omega) hv ⟨fun _ => rfl, fun z => absurd (frk_z h1_29 h2_29) z⟩ | exact lay_s (by omega) hv ⟨fun z => absurd z (frk_f h_29), fun _ => Nat.div_add_mod' _ _⟩) (by first | exact dg_s hd ⟨fun _ => rfl, fun z => absurd ⟨h1_29, h2_29⟩ z⟩ | exact dg_s hd ⟨fun z => absurd z h_29, fun _ => Nat.mod_lt _ (by omega)⟩) (by exact out_s ho (by omega)) (by exact up8 hs (by first | omega | (have h9 := Nat.mod_lt y (show 0 < v 5 0 by omega); omega))) hP hD hS (lv_sub hl [1, 0, 2, 3, 4] rfl)
          · skip
            have h_50 : ¬ (k % 2 = 1 ∧ (mL ((v 20 0)) ((v 17))) x' ≠ 0) := h_50
            exact absurd ⟨h1_29, h2_29⟩ h_50
        · skip
          have h_29 : ¬ (k % 2 = 1 ∧ (mL ((v 20 0)) ((v 17))) x' ≠ 0) := h_29
          have hP : va_P D vwCl (mW b cI cJ cZ (va_up v 19 (g19)) c) H := hP
          have hD : va_D A (mW b cI cJ cZ (va_up v 19 (g19)) c) := hD
          refine w_if_eq (x := 0) hx hb dX7_layBeat_32 (tgt := 39) (by decide) (by decide) (fun _ => ?_) (fun h => absurd h (by decide))
          refine lv_iload_n hx hb dX7_layBeat_39 rfl (lv_at hl 0 rfl) ?_
          refine lv_aload_n hx hb dX7_layBeat_40 rfl (lv_at hl 2 rfl) ?_
          refine va_get (D := D) (ci := 7) (v := .int (nI (v 5 0))) (C := RX7) (T := TX7) (N := 24) hx hb hts hinX7 hown hK hP 0 rfl rfl 5 (by decide) (hts (.fieldLink RX7 63 "DancedLockModel" "boards" "I") (List.mem_of_getElem? (i := 3) rfl)) (fun _ h9 => h9) rfl dX7_layBeat_41 ?_
          refine w_irem (x := y) (y := v 5 0) hx hb dX7_layBeat_44 (by omega) (by omega) (by omega) ?_
          refine w_iast (f := g19) (w := y % (v 5 0)) hx hb hK hP hD hS 12 0 rfl rfl (i := k * 4 + x') (by omega) (by decide) dX7_layBeat_45 (fun H locs hP hD hS => ?_)
          have hP : va_P D vwCl (mW b cI cJ cZ (va_up v 19 (va_up g19 (k * 4 + x') (y % (v 5 0)))) c) H := hP
          have hD : va_D A (mW b cI cJ cZ (va_up v 19 (va_up g19 (k * 4 + x') (y % (v 5 0)))) c) := hD
          refine lv_aload_n hx hb dX7_layBeat_46 rfl (lv_at hl 2 rfl) ?_
          refine lv_iload_n hx hb dX7_layBeat_47 rfl (lv_at hl 3 rfl) ?_
          refine lv_iload hx hb dX7_layBeat_48 (lv_at hl 1 rfl) ?_
          refine w_cVi (rest := []) hx hb hml hown hts (m_limps l D b cI cJ cZ A (va_up v 19 (va_up g19 (k * 4 + x') (y % (v 5 0)))) c k x'  (by show XI (vM (va_up v 19 (va_up g19 (k * 4 + x') (y % (v 5 0))))); exact MX_i ⟨hnb, hnd, hbt, hfg, hne, hnc, hdk, hnf, hkn, hln, hst, hdc, up8 hs (by first | omega | (have h9 := Nat.mod_lt y (show 0 < v 5 0 by omega); omega))⟩) (by show (v 20 0) ≤ 1; first | assumption | omega) (by omega) (by show x' < (v 16 0); omega)) 2 gX7_layBeat_X7_limps rfl hdX7_limps ⟨Nat.le_of_ble_eq_true rfl, Nat.le_of_ble_eq_true rfl⟩ hK hN hP hD hS hA 0 7 rfl rfl rfl rfl hl.1 rfl (Nat.le_of_ble_eq_true rfl) dX7_layBeat_50 ⟨Nat.le_of_ble_eq_true rfl, Nat.le_of_ble_eq_true rfl⟩ (fun r u H locs hq hP hD hS => ?_)
          rcases hq with ⟨rfl, h1_50, h2_50⟩ | ⟨rfl, h_50⟩
          · skip
            have h2_50 : (mL ((v 20 0)) ((v 17))) x' ≠ 0 := h2_50
            exact absurd ⟨h1_50, h2_50⟩ h_29
          · skip
            have h_50 : ¬ (k % 2 = 1 ∧ (mL ((v 20 0)) ((v 17))) x' ≠ 0) := h_50
            have hP : va_P D vwCl (mW b cI cJ cZ (va_up v 19 (va_up g19 (k * 4 + x') (y % (v 5 0)))) c) H := hP
            have hD : va_D A (mW b cI cJ cZ (va_up v 19 (va_up g19 (k * 4 + x') (y % (v 5 0)))) c) := hD
            refine w_if_eq (x := 0) hx hb dX7_layBeat_53 (tgt := 60) (by decide) (by decide) (fun _ => ?_) (fun h => absurd h (by decide))
            refine lv_iload_n hx hb dX7_layBeat_60 rfl (lv_at hl 0 rfl) ?_
            refine lv_aload_n hx hb dX7_layBeat_61 rfl (lv_at hl 2 rfl) ?_
            refine va_get (D := D) (ci := 7) (v := .int (nI (v 5 0))) (C := RX7) (T := TX7) (N := 24) hx hb hts hinX7 hown hK hP 0 rfl rfl 5 (by decide) (hts (.fieldLink RX7 63 "DancedLockModel" "boards" "I") (List.mem_of_getElem? (i := 3) rfl)) (fun _ h9 => h9) rfl dX7_layBeat_62 ?_
            refine w_idiv (x := y) (y := v 5 0) hx hb dX7_layBeat_65 (by omega) (by omega) (by omega) ?_
            refine lv_istore_n (lv' := [(3, .int (nI (y / (v 5 0)))), (4, .int (nI (x'))), (0, .ref (b 0)), (1, .int (nI (k))), (2, .int (nI (row)))]) hx hb dX7_layBeat_66 rfl hl (by decide) rfl (fun ls hl => ?_)
            refine lv_iinc (v := (nI (x')) + -1) (lv' := [(4, .int ((nI (x')) + -1)), (3, .int (nI (y / (v 5 0)))), (0, .ref (b 0)), (1, .int (nI (k))), (2, .int (nI (row)))]) hx hb dX7_layBeat_67 hl (k := 1) rfl (rfl) (by decide) rfl (fun ls hl => ?_)
            refine lv_goto (tgt := 10) hx hb dX7_layBeat_70 (by decide) ?_
            exact ih10 ((nI (x')) + -1) x' (y / (v 5 0)) (va_up g19 (k * 4 + x') (y % (v 5 0))) _ _ _ (by omega) (by omega) (by have h9 := dec_I (x := x') (by omega); exact h9) (by first | (rw [cnq_z (frk_z h1_29 h2_29)] at hy; exact hy) | (rw [cnq_f (frk_f h_29)] at hy; exact Nat.div_lt_of_lt_mul (by rw [Nat.mul_comm]; exact hy))) (by first | exact lay_s (by omega) hv ⟨fun _ => rfl, fun z => absurd (frk_z h1_29 h2_29) z⟩ | exact lay_s (by omega) hv ⟨fun z => absurd z (frk_f h_29), fun _ => Nat.div_add_mod' _ _⟩) (by first | exact dg_s hd ⟨fun _ => rfl, fun z => absurd ⟨h1_29, h2_29⟩ z⟩ | exact dg_s hd ⟨fun z => absurd z h_29, fun _ => Nat.mod_lt _ (by omega)⟩) (by exact out_s ho (by omega)) (by exact up8 hs (by first | omega | (have h9 := Nat.mod_lt y (show 0 < v 5 0 by omega); omega))) hP hD hS (lv_sub hl [1, 0, 2, 3, 4] rfl)
  exact L10 ((v 16 0) + 1) ((nI (v 16 0)) - (nI (1))) (v 16 0) row (v 19) _ _ _ (Nat.lt_succ_self _) (by omega) (by have h9 := pk_sub_toInt (a := v 16 0) (b := 1) (by omega) (by decide); omega) (by exact hrow) (by rw [Nat.sub_self]; rfl) (by exact fun e h1 h2 => absurd h1 (by omega)) (by exact out_rf) (by exact hsp) hP hD hS (lv_sub hl [1, 0, 2, 3, 4] rfl)

set_option maxHeartbeats 4000000 in
set_option maxRecDepth 100000 in
theorem m_nextRow (l : Launch) (D : va_G) (b : Nat → Nat) (cI cJ cZ : ClassId) (A : Nat → Prop) (v : Nat → Nat → Nat) (c : Nat → Nat → Int32) (dd : Nat) (k : Nat) (fr0 : Nat) (hX : XI (vM v)) (hw : v 20 0 ≤ 1) (hd : dd < v 6 0) (hk : k < v 8 dd) (hf : fr0 ≤ 2401) :
    mI l yX7_nextRow wsX7_nextRow 2 48 [.ref (b 0), .int (nI dd), .int (nI k), .int (nI fr0)] D (xT cI cJ cZ) A (mW b cI cJ cZ v c) (fun u : ((Nat → Nat → Nat) × (Nat → Nat → Int32)) => mW b cI cJ cZ u.1 u.2)
    (fun (r : Int32) (u : ((Nat → Nat → Nat) × (Nat → Nat → Int32))) => (∃ row : Nat, ∃ g19 : Nat → Nat, r = nI (row) ∧ u = (va_up v 19 (g19), c) ∧ row < cnq (v 5 0) (frk (mL (v 20 0) (v 17)) k) (v 16 0) ∧ fr0 ≤ row ∧ LBk (v 5 0) (v 16 0) (mL (v 20 0) (v 17)) k row (v 19) g19 ∧ OKb (v 5 0) (v 7) (v 16 0) (mL (v 20 0) (v 17)) (mP (v 20 0) (v 17) (v 18)) (fun j => v 9 (dd * 6 + j)) k g19 ∧ NRk (v 5 0) (v 7) (v 16 0) (mL (v 20 0) (v 17)) (mP (v 20 0) (v 17) (v 18)) (fun j => v 9 (dd * 6 + j)) k fr0 row (v 19) ∧ (∀ q, q < 24 → g19 q < 8)) ∨ (∃ g19 : Nat → Nat, r = -9 ∧ u = (va_up v 19 (g19), c) ∧ OUTk k g19 (v 19) ∧ NRk (v 5 0) (v 7) (v 16 0) (mL (v 20 0) (v 17)) (mP (v 20 0) (v 17) (v 18)) (fun j => v 9 (dd * 6 + j)) k fr0 (cnq (v 5 0) (frk (mL (v 20 0) (v 17)) k) (v 16 0)) (v 19) ∧ (∀ q, q < 24 → g19 q < 8))) := by
  refine w_bI cX7_nextRow 6 .int (by decide) rfl (Nat.le_of_ble_eq_true rfl) (Or.inl rfl) ?_
  intro p e s m args below meth c0 ls Q hx hb hml hts hown hK hN hA hret hP hD hS hl
  have hl : lv_has ls 6 [(0, .ref (b 0)), (1, .int (nI (dd))), (2, .int (nI (k))), (3, .int (nI (fr0)))] := hl
  have hinX7 : ∀ w ∈ wsX70, w ∈ wsX7_nextRow := fun w h => List.mem_cons_of_mem _ (List.mem_append_right _ h)
  obtain ⟨hnb, hnd, hbt, hfg, hne, hnc, hdk, hnf, hkn, hln, hst, hdc, hsp⟩ := MX_o hX
  have hbd := hbt dd hd
  have hfk := hfg dd k hd hk
  have hp7 := pow_le_128 hnb
  have hcn := cnq_2401 (fr := frk (mL (v 20 0) (v 17)) k) (n := v 16 0) hnb hnc
  refine lv_aload_n hx hb dX7_nextRow_0 rfl (lv_at hl 0 rfl) ?_
  refine lv_iload_n hx hb dX7_nextRow_1 rfl (lv_at hl 2 rfl) ?_
  refine w_cVi (rest := []) hx hb hml hown hts (m_rows l D b cI cJ cZ A v c k  (by first | assumption | omega) (by first | assumption | omega) (by omega)) 1 gX7_nextRow_X7_rows rfl hdX7_rows ⟨Nat.le_of_ble_eq_true rfl, Nat.le_of_ble_eq_true rfl⟩ hK hN hP hD hS hA 0 7 rfl rfl rfl rfl hl.1 rfl (Nat.le_of_ble_eq_true rfl) dX7_nextRow_2 ⟨Nat.le_of_ble_eq_true rfl, Nat.le_of_ble_eq_true rfl⟩ (fun r u H locs hq hP hD hS => ?_)
  obtain rfl := hq
  have hP : va_P D vwCl (mW b cI cJ cZ v c) H := hP
  have hD : va_D A (mW b cI cJ cZ v c) := hD
  refine lv_istore (lv' := [(4, .int (nI (cnq ((v 5 0)) (frk (mL ((v 20 0)) ((v 17))) k) ((v 16 0))))), (0, .ref (b 0)), (1, .int (nI (dd))), (2, .int (nI (k))), (3, .int (nI (fr0)))]) hx hb dX7_nextRow_5 hl (by decide) rfl (fun ls hl => ?_)
  refine lv_iload_n hx hb dX7_nextRow_7 rfl (lv_at hl 4 rfl) ?_
  refine lv_istore (lv' := [(5, .int (nI (fr0))), (4, .int (nI (cnq ((v 5 0)) (frk (mL ((v 20 0)) ((v 17))) k) ((v 16 0))))), (0, .ref (b 0)), (1, .int (nI (dd))), (2, .int (nI (k))), (3, .int (nI (fr0)))]) hx hb dX7_nextRow_8 hl (by decide) rfl (fun ls hl => ?_)
  have L10 : ∀ (n : Nat) (i : Nat) (g19 : Nat → Nat) (H : Heap) (locs : List Loc) (ls : Array Slot), (cnq (v 5 0) (frk (mL (v 20 0) (v 17)) k) (v 16 0)) - i < n → (fr0 ≤ i) → (i ≤ 2401) → (OUTk k g19 (v 19)) → (NRk (v 5 0) (v 7) (v 16 0) (mL (v 20 0) (v 17)) (mP (v 20 0) (v 17) (v 18)) (fun j => v 9 (dd * 6 + j)) k fr0 i (v 19)) → (∀ q, q < 24 → g19 q < 8) → va_P D vwCl (mW b cI cJ cZ (va_up v 19 (g19)) c) H → va_D A (mW b cI cJ cZ (va_up v 19 (g19)) c) → va_S A s.heap H locs → lv_has ls 6 [(5, .int (nI (i))), (0, .ref (b 0)), (1, .int (nI (dd))), (2, .int (nI (k))), (3, .int (nI (fr0))), (4, .int (nI (cnq ((v 5 0)) (frk (mL ((v 20 0)) ((v 17))) k) ((v 16 0)))))] → W p l e { frames := 2, cells := 0, slots := 0, locals := 48 } s m args below meth c0 H locs 0 0 Q (F0 m 10 ls []) := by
    intro n
    induction n with
    | zero => intro i g19 H locs ls hm; exact absurd hm (Nat.not_lt_zero _)
    | succ n ih10 =>
      intro i g19 H locs ls hm10 h1 hib ho hno hs hP hD hS hl
      refine lv_iload hx hb dX7_nextRow_10 (lv_at hl 0 rfl) ?_
      refine lv_iload hx hb dX7_nextRow_12 (lv_at hl 5 rfl) ?_
      refine w_icmp_ge (x := i) (y := cnq ((v 5 0)) (frk (mL ((v 20 0)) ((v 17))) k) ((v 16 0))) hx hb dX7_nextRow_14 (tgt := 51) (by decide) (by omega) (by omega) (fun c14 => ?_) (fun c14 => ?_)
      · skip
        refine lv_bipush (v := -9) hx hb dX7_nextRow_51 (by decide) ?_
        exact hret ((-9)) (va_up v 19 (g19), c) _ _ 53 _ dX7_nextRow_53 rfl (by exact Or.inr ⟨g19, rfl, rfl, ho, NR_le hno c14, hs⟩) hP hD hS
      · skip
        refine lv_aload_n hx hb dX7_nextRow_17 rfl (lv_at hl 1 rfl) ?_
        refine lv_iload_n hx hb dX7_nextRow_18 rfl (lv_at hl 3 rfl) ?_
        refine lv_iload hx hb dX7_nextRow_19 (lv_at hl 0 rfl) ?_
        refine w_cVv (rest := []) hx hb hml hown hts (m_layBeat l D b cI cJ cZ A (va_up v 19 (g19)) c k i  (by show XI (vM (va_up v 19 (g19))); exact MX_i ⟨hnb, hnd, hbt, hfg, hne, hnc, hdk, hnf, hkn, hln, hst, hdc, hs⟩) (by show (v 20 0) ≤ 1; first | assumption | omega) (by omega) (by show 2 ≤ (v 5 0); omega) (by show i < cnq ((v 5 0)) (frk (mL ((v 20 0)) ((v 17))) k) ((v 16 0)); exact c14)) 2 gX7_nextRow_X7_layBeat rfl hdX7_layBeat ⟨Nat.le_of_ble_eq_true rfl, Nat.le_of_ble_eq_true rfl⟩ hK hN hP hD hS hA 0 7 rfl rfl rfl rfl hl.1 rfl (Nat.le_of_ble_eq_true rfl) dX7_nextRow_21 ⟨Nat.le_of_ble_eq_true rfl, Nat.le_of_ble_eq_true rfl⟩ (fun u H locs hq hP hD hS => ?_)
        obtain ⟨g19_21, rfl, hL_21, hs_21⟩ := hq
        have hL_21 : LBk ((v 5 0)) ((v 16 0)) (mL ((v 20 0)) ((v 17))) k i (g19) g19_21 := hL_21
        have hP : va_P D vwCl (mW b cI cJ cZ (va_up v 19 (g19_21)) c) H := hP
        have hD : va_D A (mW b cI cJ cZ (va_up v 19 (g19_21)) c) := hD
        refine lv_aload_n hx hb dX7_nextRow_24 rfl (lv_at hl 1 rfl) ?_
        refine lv_iload_n hx hb dX7_nextRow_25 rfl (lv_at hl 3 rfl) ?_
        refine w_cVi (rest := []) hx hb hml hown hts (m_feltIn l D b cI cJ cZ A (va_up v 19 (g19_21)) c k  (by show XI (vM (va_up v 19 (g19_21))); exact MX_i ⟨hnb, hnd, hbt, hfg, hne, hnc, hdk, hnf, hkn, hln, hst, hdc, hs_21⟩) (by show (v 20 0) ≤ 1; first | assumption | omega) (by omega)) 1 gX7_nextRow_X7_feltIn rfl hdX7_feltIn ⟨Nat.le_of_ble_eq_true rfl, Nat.le_of_ble_eq_true rfl⟩ hK hN hP hD hS hA 0 7 rfl rfl rfl rfl hl.1 rfl (Nat.le_of_ble_eq_true rfl) dX7_nextRow_26 ⟨Nat.le_of_ble_eq_true rfl, Nat.le_of_ble_eq_true rfl⟩ (fun r u H locs hq hP hD hS => ?_)
        have hr_26 := hq
        have hr_26 : r = nI (FE ((v 5 0)) ((v 7)) ((v 16 0)) (mL ((v 20 0)) ((v 17))) (mP ((v 20 0)) ((v 17)) ((v 18))) (g19_21) k) := hr_26
        subst hr_26
        have hP : va_P D vwCl (mW b cI cJ cZ (va_up v 19 (g19_21)) c) H := hP
        have hD : va_D A (mW b cI cJ cZ (va_up v 19 (g19_21)) c) := hD
        refine lv_aload_n hx hb dX7_nextRow_29 rfl (lv_at hl 1 rfl) ?_
        refine va_get (D := D) (ci := 7) (v := .ref (b 9)) (C := RX7) (T := TX7) (N := 24) hx hb hts hinX7 hown hK hP 0 rfl rfl 9 (by decide) (hts (.fieldLink RX7 25 "DancedLockModel" "figure" "[I") (List.mem_of_getElem? (i := 1) rfl)) (fun _ h9 => h9) rfl dX7_nextRow_30 ?_
        refine lv_iload_n hx hb dX7_nextRow_33 rfl (lv_at hl 2 rfl) ?_
        refine lv_iload_n hx hb dX7_nextRow_34 rfl (lv_at hl 3 rfl) ?_
        refine w_cSi (rest := [.ref (b 9), .int (nI (FE ((v 5 0)) ((v 7)) ((v 16 0)) (mL ((v 20 0)) ((v 17))) (mP ((v 20 0)) ((v 17)) ((v 18))) (g19_21) k))]) hx hb hml hown hts (m_spot l D b cI cJ cZ A (va_up v 19 (g19_21)) c dd k  ) 2 gX7_nextRow_X7_spot rfl hdX7_spot ⟨Nat.le_of_ble_eq_true rfl, Nat.le_of_ble_eq_true rfl⟩ hK hN hP hD hS hA rfl hl.1 rfl (Nat.le_of_ble_eq_true rfl) dX7_nextRow_35 ⟨Nat.le_of_ble_eq_true rfl, Nat.le_of_ble_eq_true rfl⟩ (fun r u H locs hq hP hD hS => ?_)
        obtain rfl := hq
        have hP : va_P D vwCl (mW b cI cJ cZ (va_up v 19 (g19_21)) c) H := hP
        have hD : va_D A (mW b cI cJ cZ (va_up v 19 (g19_21)) c) := hD
        refine w_iald (f := v 9) hx hb hK hP 6 0 rfl rfl (i := dd * 6 + k) (by omega) (by decide) dX7_nextRow_38 ?_
        have hf1 := FE_lt (v 5 0) (v 7) (v 16 0) (mL (v 20 0) (v 17)) (mP (v 20 0) (v 17) (v 18)) g19_21 k
        refine w_icmp_ne (x := FE ((v 5 0)) ((v 7)) ((v 16 0)) (mL ((v 20 0)) ((v 17))) (mP ((v 20 0)) ((v 17)) ((v 18))) (g19_21) k) (y := v 9 (dd * 6 + k)) hx hb dX7_nextRow_39 (tgt := 45) (by decide) (by omega) (by omega) (fun c39 => ?_) (fun c39 => ?_)
        · skip
          refine lv_iinc (v := nI (i + 1)) (lv' := [(5, .int (nI (i + 1))), (0, .ref (b 0)), (1, .int (nI (dd))), (2, .int (nI (k))), (3, .int (nI (fr0))), (4, .int (nI (cnq ((v 5 0)) (frk (mL ((v 20 0)) ((v 17))) k) ((v 16 0)))))]) hx hb dX7_nextRow_45 hl (k := 0) rfl (nI_add i 1) (by decide) rfl (fun ls hl => ?_)
          refine lv_goto (tgt := 10) hx hb dX7_nextRow_48 (by decide) ?_
          exact ih10 (i + 1) g19_21 _ _ _ (by omega) (by omega) (by omega) (by exact out_tr hL_21.1 ho) (by exact NR_s hnc hno (LB_tr ho hL_21) c39) (by exact hs_21) hP hD hS (lv_sub hl [0, 1, 2, 3, 4, 5] rfl)
        · skip
          refine lv_iload hx hb dX7_nextRow_42 (lv_at hl 0 rfl) ?_
          exact hret (nI (i)) (va_up v 19 (g19_21), c) _ _ 44 _ dX7_nextRow_44 rfl (by exact Or.inl ⟨i, g19_21, rfl, rfl, c14, h1, LB_tr ho hL_21, c39, hno, hs_21⟩) hP hD hS
  exact L10 (((cnq (v 5 0) (frk (mL (v 20 0) (v 17)) k) (v 16 0)) - fr0) + 1) fr0 (v 19) _ _ _ (Nat.lt_succ_self _) (by omega) (by omega) (by exact out_rf) (by exact NR_0) (by exact hsp) hP hD hS (lv_sub hl [0, 2, 3, 4, 5, 1] rfl)

set_option maxHeartbeats 4000000 in
set_option maxRecDepth 100000 in
theorem m_limpedFrom (l : Launch) (D : va_G) (b : Nat → Nat) (cI cJ cZ : ClassId) (A : Nat → Prop) (v : Nat → Nat → Nat) (c : Nat → Nat → Int32) (k : Nat) (hX : XI (vM v)) (hw : v 20 0 ≤ 1) (hk : k < 6) :
    mI l yX7_limpedFrom wsX7_limpedFrom 1 22 [.ref (b 0), .int (nI k)] D (xT cI cJ cZ) A (mW b cI cJ cZ v c) (fun _ : Unit => mW b cI cJ cZ v c)
    (fun (r : Int32) (u : Unit) => r = nI (lfk (v 5 0) (v 16 0) (mL (v 20 0) (v 17)) k (v 19))) := by
  refine w_bI cX7_limpedFrom 4 .int (by decide) rfl (Nat.le_of_ble_eq_true rfl) (Or.inl rfl) ?_
  intro p e s m args below meth c0 ls Q hx hb hml hts hown hK hN hA hret hP hD hS hl
  have hl : lv_has ls 4 [(0, .ref (b 0)), (1, .int (nI (k)))] := hl
  have hinX7 : ∀ w ∈ wsX70, w ∈ wsX7_limpedFrom := fun w h => List.mem_cons_of_mem _ (List.mem_append_right _ h)
  obtain ⟨hnb, hnd, hbt, hfg, hne, hnc, hdk, hnf, hkn, hln, hst, hdc, hsp⟩ := MX_o hX
  refine lv_iconst (v := nI (0)) hx hb dX7_limpedFrom_0 (by decide) ?_
  refine lv_istore_n (lv' := [(2, .int (nI (0))), (0, .ref (b 0)), (1, .int (nI (k)))]) hx hb dX7_limpedFrom_1 rfl hl (by decide) rfl (fun ls hl => ?_)
  refine lv_iconst (v := nI (0)) hx hb dX7_limpedFrom_2 (by decide) ?_
  refine lv_istore_n (lv' := [(3, .int (nI (0))), (2, .int (nI (0))), (0, .ref (b 0)), (1, .int (nI (k)))]) hx hb dX7_limpedFrom_3 rfl hl (by decide) rfl (fun ls hl => ?_)
  have L4 : ∀ (n : Nat) (i : Nat) (q : Nat) (H : Heap) (locs : List Loc) (ls : Array Slot), v 16 0 - i < n → (i ≤ v 16 0) → (q = vqx (v 5 0) (lmk (mL (v 20 0) (v 17)) (k + 1)) (fun e => v 19 (k * 4 + e)) 0 0 i) → va_P D vwCl (mW b cI cJ cZ v c) H → va_D A (mW b cI cJ cZ v c) → va_S A s.heap H locs → lv_has ls 4 [(2, .int (nI (q))), (3, .int (nI (i))), (0, .ref (b 0)), (1, .int (nI (k)))] → W p l e { frames := 1, cells := 0, slots := 0, locals := 22 } s m args below meth c0 H locs 0 0 Q (F0 m 4 ls []) := by
    intro n
    induction n with
    | zero => intro i q H locs ls hm; exact absurd hm (Nat.not_lt_zero _)
    | succ n ih4 =>
      intro i q H locs ls hm4 h1 h2 hP hD hS hl
      refine lv_iload_n hx hb dX7_limpedFrom_4 rfl (lv_at hl 1 rfl) ?_
      refine lv_aload_n hx hb dX7_limpedFrom_5 rfl (lv_at hl 2 rfl) ?_
      refine va_get (D := D) (ci := 7) (v := .int (nI (v 16 0))) (C := RX7) (T := TX7) (N := 24) hx hb hts hinX7 hown hK hP 0 rfl rfl 16 (by decide) (hts (.fieldLink RX7 103 "DancedLockModel" "dancers" "I") (List.mem_of_getElem? (i := 1) rfl)) (fun _ h9 => h9) rfl dX7_limpedFrom_6 ?_
      refine w_icmp_ge (x := i) (y := v 16 0) hx hb dX7_limpedFrom_9 (tgt := 51) (by decide) (by omega) (by omega) (fun c9 => ?_) (fun c9 => ?_)
      · skip
        refine lv_iload_n hx hb dX7_limpedFrom_51 rfl (lv_at hl 0 rfl) ?_
        exact hret (nI (q)) () _ _ 52 _ dX7_limpedFrom_52 rfl (by have e : i = v 16 0 := (by omega); rw [h2, e]; rfl) hP hD hS
      · skip
        refine lv_aload_n hx hb dX7_limpedFrom_12 rfl (lv_at hl 2 rfl) ?_
        refine lv_iload_n hx hb dX7_limpedFrom_13 rfl (lv_at hl 3 rfl) ?_
        refine lv_iconst (v := nI (1)) hx hb dX7_limpedFrom_14 (by decide) ?_
        refine w_iadd (x := k) (y := 1) hx hb dX7_limpedFrom_15  ?_
        refine lv_iload_n hx hb dX7_limpedFrom_16 rfl (lv_at hl 1 rfl) ?_
        refine w_cVi (rest := []) hx hb hml hown hts (m_limps l D b cI cJ cZ A v c (k + 1) i  (by first | assumption | omega) (by first | assumption | omega) (by omega) (by omega)) 2 gX7_limpedFrom_X7_limps rfl hdX7_limps ⟨Nat.le_of_ble_eq_true rfl, Nat.le_of_ble_eq_true rfl⟩ hK hN hP hD hS hA 0 7 rfl rfl rfl rfl hl.1 rfl (Nat.le_of_ble_eq_true rfl) dX7_limpedFrom_17 ⟨Nat.le_of_ble_eq_true rfl, Nat.le_of_ble_eq_true rfl⟩ (fun r u H locs hq hP hD hS => ?_)
        rcases hq with ⟨rfl, h1_17, h2_17⟩ | ⟨rfl, h_17⟩
        · skip
          have hP : va_P D vwCl (mW b cI cJ cZ v c) H := hP
          have hD : va_D A (mW b cI cJ cZ v c) := hD
          refine w_if_eq (x := 1) hx hb dX7_limpedFrom_20 (tgt := 43) (by decide) (by decide) (fun h => absurd h (by decide)) (fun _ => ?_)
          refine lv_aload_n hx hb dX7_limpedFrom_23 rfl (lv_at hl 2 rfl) ?_
          refine va_get (D := D) (ci := 7) (v := .int (nI (v 5 0))) (C := RX7) (T := TX7) (N := 24) hx hb hts hinX7 hown hK hP 0 rfl rfl 5 (by decide) (hts (.fieldLink RX7 63 "DancedLockModel" "boards" "I") (List.mem_of_getElem? (i := 2) rfl)) (fun _ h9 => h9) rfl dX7_limpedFrom_24 ?_
          refine lv_iload_n hx hb dX7_limpedFrom_27 rfl (lv_at hl 0 rfl) ?_
          refine w_imul (x := v 5 0) (y := q) hx hb dX7_limpedFrom_28  ?_
          refine lv_aload_n hx hb dX7_limpedFrom_29 rfl (lv_at hl 2 rfl) ?_
          refine va_get (D := D) (ci := 7) (v := .ref (b 19)) (C := RX7) (T := TX7) (N := 24) hx hb hts hinX7 hown hK hP 0 rfl rfl 19 (by decide) (hts (.fieldLink RX7 43 "DancedLockModel" "plan" "[I") (List.mem_of_getElem? (i := 3) rfl)) (fun _ h9 => h9) rfl dX7_limpedFrom_30 ?_
          refine lv_iconst (v := nI (4)) hx hb dX7_limpedFrom_33 (by decide) ?_
          refine lv_iload_n hx hb dX7_limpedFrom_34 rfl (lv_at hl 3 rfl) ?_
          refine w_imul (x := 4) (y := k) hx hb dX7_limpedFrom_35  ?_
          refine lv_iload_n hx hb dX7_limpedFrom_36 rfl (lv_at hl 1 rfl) ?_
          refine w_iadd (x := 4 * k) (y := i) hx hb dX7_limpedFrom_37  ?_
          refine w_iald (f := v 19) hx hb hK hP 12 0 rfl rfl (i := 4 * k + i) (by omega) (by decide) dX7_limpedFrom_38 ?_
          refine w_iadd (x := (v 5 0) * q) (y := v 19 (4 * k + i)) hx hb dX7_limpedFrom_39  ?_
          refine lv_goto (tgt := 44) hx hb dX7_limpedFrom_40 (by decide) ?_
          refine lv_istore_n (lv' := [(2, .int (nI ((v 5 0) * q + (v 19 (4 * k + i))))), (3, .int (nI (i))), (0, .ref (b 0)), (1, .int (nI (k)))]) hx hb dX7_limpedFrom_44 rfl hl (by decide) rfl (fun ls hl => ?_)
          refine lv_iinc (v := nI (i + 1)) (lv' := [(3, .int (nI (i + 1))), (2, .int (nI ((v 5 0) * q + (v 19 (4 * k + i))))), (0, .ref (b 0)), (1, .int (nI (k)))]) hx hb dX7_limpedFrom_45 hl (k := 1) rfl (nI_add i 1) (by decide) rfl (fun ls hl => ?_)
          refine lv_goto (tgt := 4) hx hb dX7_limpedFrom_48 (by decide) ?_
          exact ih4 (i + 1) ((v 5 0) * q + (v 19 (4 * k + i))) _ _ _ (by omega) (by omega) (by first | (rw [h2, vqx_z (by rw [Nat.zero_add]; exact lmk_z h_17)]) | (rw [h2, vqx_f (by rw [Nat.zero_add]; exact lmk_f h1_17 h2_17)]; show _ = _ * _ + v 19 (k * 4 + (0 + i)); rw [Nat.zero_add, Nat.mul_comm (v 5 0), Nat.mul_comm 4])) hP hD hS (lv_sub hl [1, 0, 2, 3] rfl)
        · skip
          have hP : va_P D vwCl (mW b cI cJ cZ v c) H := hP
          have hD : va_D A (mW b cI cJ cZ v c) := hD
          refine w_if_eq (x := 0) hx hb dX7_limpedFrom_20 (tgt := 43) (by decide) (by decide) (fun _ => ?_) (fun h => absurd h (by decide))
          refine lv_iload_n hx hb dX7_limpedFrom_43 rfl (lv_at hl 0 rfl) ?_
          refine lv_istore_n (lv' := [(2, .int (nI (q))), (3, .int (nI (i))), (0, .ref (b 0)), (1, .int (nI (k)))]) hx hb dX7_limpedFrom_44 rfl hl (by decide) rfl (fun ls hl => ?_)
          refine lv_iinc (v := nI (i + 1)) (lv' := [(3, .int (nI (i + 1))), (2, .int (nI (q))), (0, .ref (b 0)), (1, .int (nI (k)))]) hx hb dX7_limpedFrom_45 hl (k := 1) rfl (nI_add i 1) (by decide) rfl (fun ls hl => ?_)
          refine lv_goto (tgt := 4) hx hb dX7_limpedFrom_48 (by decide) ?_
          exact ih4 (i + 1) q _ _ _ (by omega) (by omega) (by first | (rw [h2, vqx_z (by rw [Nat.zero_add]; exact lmk_z h_17)]) | (rw [h2, vqx_f (by rw [Nat.zero_add]; exact lmk_f h1_17 h2_17)]; show _ = _ * _ + v 19 (k * 4 + (0 + i)); rw [Nat.zero_add, Nat.mul_comm (v 5 0), Nat.mul_comm 4])) hP hD hS (lv_sub hl [1, 0, 2, 3] rfl)
  exact L4 ((v 16 0 - 0) + 1) 0 0 _ _ _ (Nat.lt_succ_self _) (by omega) (by rfl) hP hD hS (lv_sub hl [1, 0, 2, 3] rfl)

set_option maxHeartbeats 4000000 in
set_option maxRecDepth 100000 in
theorem m_findTwo (l : Launch) (D : va_G) (b : Nat → Nat) (cI cJ cZ : ClassId) (A : Nat → Prop) (v : Nat → Nat → Nat) (c : Nat → Nat → Int32) (dd : Nat) (k : Nat) (hX : XI (vM v)) (hw : v 20 0 ≤ 1) (hd : dd < v 6 0) (hk : k < v 8 dd) (hke : k % 2 = 0) :
    mI l yX7_findTwo wsX7_findTwo 3 73 [.ref (b 0), .int (nI dd), .int (nI k)] D (xT cI cJ cZ) A (mW b cI cJ cZ v c) (fun u : ((Nat → Nat → Nat) × (Nat → Nat → Int32)) => mW b cI cJ cZ u.1 u.2)
    (fun (r : Int32) (u : ((Nat → Nat → Nat) × (Nat → Nat → Int32))) => (∃ g19 : Nat → Nat, ∃ g21 : Nat → Nat, r = nI (1) ∧ u = (va_up (va_up v 19 (g19)) 21 (g21), c) ∧ agr k 0 g19 (v 19) ∧ (∀ q, q < 24 → g19 q < 8) ∧ FSTb (v 5 0) (v 7) (v 16 0) (mL (v 20 0) (v 17)) (mP (v 20 0) (v 17) (v 18)) (fun j => v 9 (dd * 6 + j)) (v 8 dd) g19 k) ∨ (∃ g19 : Nat → Nat, ∃ g21 : Nat → Nat, r = nI (0) ∧ u = (va_up (va_up v 19 (g19)) 21 (g21), c) ∧ agr k 0 g19 (v 19) ∧ (∀ q, q < 24 → g19 q < 8) ∧ NFb (v 5 0) (v 7) (v 16 0) (mL (v 20 0) (v 17)) (mP (v 20 0) (v 17) (v 18)) (fun j => v 9 (dd * 6 + j)) (v 8 dd) k)) := by
  refine w_bI cX7_findTwo 5 .boolean (by decide) rfl (Nat.le_of_ble_eq_true rfl) (Or.inr rfl) ?_
  intro p e s m args below meth c0 ls Q hx hb hml hts hown hK hN hA hret hP hD hS hl
  have hl : lv_has ls 5 [(0, .ref (b 0)), (1, .int (nI (dd))), (2, .int (nI (k)))] := hl
  have hinX7 : ∀ w ∈ wsX70, w ∈ wsX7_findTwo := fun w h => List.mem_cons_of_mem _ (List.mem_append_right _ h)
  obtain ⟨hnb, hnd, hbt, hfg, hne, hnc, hdk, hnf, hkn, hln, hst, hdc, hsp⟩ := MX_o hX
  have hbd := hbt dd hd
  have hcn := cnq_2401 (fr := frk (mL (v 20 0) (v 17)) k) (n := v 16 0) hnb hnc
  have hcn1 := cnq_2401 (fr := frk (mL (v 20 0) (v 17)) (k + 1)) (n := v 16 0) hnb hnc
  refine lv_iconst (v := nI (0)) hx hb dX7_findTwo_0 (by decide) ?_
  refine lv_istore_n (lv' := [(3, .int (nI (0))), (0, .ref (b 0)), (1, .int (nI (dd))), (2, .int (nI (k)))]) hx hb dX7_findTwo_1 rfl hl (by decide) rfl (fun ls hl => ?_)
  have L2 : ∀ (n : Nat) (q : Nat) (g21 : Nat → Nat) (H : Heap) (locs : List Loc) (ls : Array Slot), 2401 - q < n → (q ≤ 2401) → (∀ z, z < q → g21 z = 0) → va_P D vwCl (mW b cI cJ cZ (va_up v 21 (g21)) c) H → va_D A (mW b cI cJ cZ (va_up v 21 (g21)) c) → va_S A s.heap H locs → lv_has ls 5 [(3, .int (nI (q))), (0, .ref (b 0)), (1, .int (nI (dd))), (2, .int (nI (k)))] → W p l e { frames := 3, cells := 0, slots := 0, locals := 73 } s m args below meth c0 H locs 0 0 Q (F0 m 2 ls []) := by
    intro n
    induction n with
    | zero => intro q g21 H locs ls hm; exact absurd hm (Nat.not_lt_zero _)
    | succ n ih2 =>
      intro q g21 H locs ls hm2 h1 h2 hP hD hS hl
      refine lv_iload_n hx hb dX7_findTwo_2 rfl (lv_at hl 0 rfl) ?_
      refine lv_sipush (v := nI (2401)) hx hb dX7_findTwo_3 (by decide) ?_
      refine w_icmp_ge (x := q) (y := 2401) hx hb dX7_findTwo_6 (tgt := 22) (by decide) (by omega) (by omega) (fun c6 => ?_) (fun c6 => ?_)
      · skip
        have L30 : ∀ (n : Nat) (x : Int32) (w : Nat) (g19 : Nat → Nat) (g21 : Nat → Nat) (H : Heap) (locs : List Loc) (ls : Array Slot), (cnq (v 5 0) (frk (mL (v 20 0) (v 17)) k) (v 16 0)) + 1 - w < n → (w ≤ cnq (v 5 0) (frk (mL (v 20 0) (v 17)) k) (v 16 0)) → ((x = nI w ∧ w < cnq (v 5 0) (frk (mL (v 20 0) (v 17)) k) (v 16 0) ∧ DGS (v 5 0) (v 16 0) (mL (v 20 0) (v 17)) k g19 ∧ vlk (v 5 0) (v 16 0) (mL (v 20 0) (v 17)) k g19 = w ∧ OKb (v 5 0) (v 7) (v 16 0) (mL (v 20 0) (v 17)) (mP (v 20 0) (v 17) (v 18)) (fun j => v 9 (dd * 6 + j)) k g19 ∧ LOk (v 5 0) (v 7) (v 16 0) (mL (v 20 0) (v 17)) (mP (v 20 0) (v 17) (v 18)) (fun j => v 9 (dd * 6 + j)) (v 8 dd) k w) ∨ (x = -9 ∧ LOk (v 5 0) (v 7) (v 16 0) (mL (v 20 0) (v 17)) (mP (v 20 0) (v 17) (v 18)) (fun j => v 9 (dd * 6 + j)) (v 8 dd) k (cnq (v 5 0) (frk (mL (v 20 0) (v 17)) k) (v 16 0)))) → (agr k 0 g19 (v 19)) → (∀ q, q < 24 → g19 q < 8) → (HNk (v 5 0) (v 7) (v 16 0) (mL (v 20 0) (v 17)) (mP (v 20 0) (v 17) (v 18)) (fun j => v 9 (dd * 6 + j)) k g21) → va_P D vwCl (mW b cI cJ cZ (va_up (va_up v 19 (g19)) 21 (g21)) c) H → va_D A (mW b cI cJ cZ (va_up (va_up v 19 (g19)) 21 (g21)) c) → va_S A s.heap H locs → lv_has ls 5 [(3, .int x), (0, .ref (b 0)), (1, .int (nI (dd))), (2, .int (nI (k)))] → W p l e { frames := 3, cells := 0, slots := 0, locals := 73 } s m args below meth c0 H locs 0 0 Q (F0 m 30 ls []) := by
          intro n
          induction n with
          | zero => intro x w g19 g21 H locs ls hm; exact absurd hm (Nat.not_lt_zero _)
          | succ n ih30 =>
            intro x w g19 g21 H locs ls hm30 hw0 hDD ha hs hH hP hD hS hl
            refine lv_iload_n hx hb dX7_findTwo_30 rfl (lv_at hl 0 rfl) ?_
            refine lv_bipush (v := -9) hx hb dX7_findTwo_31 (by decide) ?_
            refine lv_icmp_eq (x := x) (y := (-9)) hx hb dX7_findTwo_33 (tgt := 104) (by decide) (fun c33 => ?_) (fun c33 => ?_)
            · skip
              refine lv_iconst (v := nI (0)) hx hb dX7_findTwo_104 (by decide) ?_
              exact hret (nI (0)) (va_up (va_up v 19 (g19)) 21 (g21), c) _ _ 105 _ dX7_findTwo_105 rfl (by exact Or.inr ⟨g19, g21, rfl, rfl, ha, hs, two_no (hDD.elim (fun z => absurd (z.1.symm.trans c33) (n_neg (by omega) (by decide))) (fun z => z.2))⟩) hP hD hS
            · skip
              obtain ⟨rfl, hwc, hdg, hvl, hok, hlo⟩ := hDD.resolve_right (fun z => c33 z.1)
              refine lv_iload_n hx hb dX7_findTwo_36 rfl (lv_at hl 3 rfl) ?_
              refine lv_iconst (v := nI (1)) hx hb dX7_findTwo_37 (by decide) ?_
              refine w_iadd (x := k) (y := 1) hx hb dX7_findTwo_38  ?_
              refine lv_aload_n hx hb dX7_findTwo_39 rfl (lv_at hl 1 rfl) ?_
              refine va_get (D := D) (ci := 7) (v := .ref (b 8)) (C := RX7) (T := TX7) (N := 24) hx hb hts hinX7 hown hK hP 0 rfl rfl 8 (by decide) (hts (.fieldLink RX7 22 "DancedLockModel" "beats" "[I") (List.mem_of_getElem? (i := 2) rfl)) (fun _ h9 => h9) rfl dX7_findTwo_40 ?_
              refine lv_iload_n hx hb dX7_findTwo_43 rfl (lv_at hl 2 rfl) ?_
              refine w_iald (f := v 8) hx hb hK hP 5 0 rfl rfl (i := dd) (by omega) (by decide) dX7_findTwo_44 ?_
              refine w_icmp_ne (x := k + 1) (y := v 8 dd) hx hb dX7_findTwo_45 (tgt := 50) (by decide) (by omega) (by omega) (fun c45 => ?_) (fun c45 => ?_)
              · skip
                have hB : k + 1 < v 8 dd := (by omega)
                have hlf := lfk_lt (li := (mL (v 20 0) (v 17))) hnb hnc (DGS_ev hke hdg)
                refine lv_aload_n hx hb dX7_findTwo_50 rfl (lv_at hl 1 rfl) ?_
                refine lv_iload_n hx hb dX7_findTwo_51 rfl (lv_at hl 3 rfl) ?_
                refine w_cVi (rest := []) hx hb hml hown hts (m_limpedFrom l D b cI cJ cZ A (va_up (va_up v 19 (g19)) 21 (g21)) c k  (by show XI (vM (va_up (va_up v 19 (g19)) 21 (g21))); exact MX_i ⟨hnb, hnd, hbt, hfg, hne, hnc, hdk, hnf, hkn, hln, hst, hdc, hs⟩) (by show (v 20 0) ≤ 1; first | assumption | omega) (by omega)) 1 gX7_findTwo_X7_limpedFrom rfl hdX7_limpedFrom ⟨Nat.le_of_ble_eq_true rfl, Nat.le_of_ble_eq_true rfl⟩ hK hN hP hD hS hA 0 7 rfl rfl rfl rfl hl.1 rfl (Nat.le_of_ble_eq_true rfl) dX7_findTwo_52 ⟨Nat.le_of_ble_eq_true rfl, Nat.le_of_ble_eq_true rfl⟩ (fun r u H locs hq hP hD hS => ?_)
                have hr_52 := hq
                have hr_52 : r = nI (lfk ((v 5 0)) ((v 16 0)) (mL ((v 20 0)) ((v 17))) k (g19)) := hr_52
                subst hr_52
                have hP : va_P D vwCl (mW b cI cJ cZ (va_up (va_up v 19 (g19)) 21 (g21)) c) H := hP
                have hD : va_D A (mW b cI cJ cZ (va_up (va_up v 19 (g19)) 21 (g21)) c) := hD
                refine lv_istore (lv' := [(4, .int (nI (lfk ((v 5 0)) ((v 16 0)) (mL ((v 20 0)) ((v 17))) k (g19)))), (3, .int (nI (w))), (0, .ref (b 0)), (1, .int (nI (dd))), (2, .int (nI (k)))]) hx hb dX7_findTwo_55 hl (by decide) rfl (fun ls hl => ?_)
                refine lv_aload_n hx hb dX7_findTwo_57 rfl (lv_at hl 2 rfl) ?_
                refine va_get (D := D) (ci := 7) (v := .ref (b 21)) (C := RX7) (T := TX7) (N := 24) hx hb hts hinX7 hown hK hP 0 rfl rfl 21 (by decide) (hts (.fieldLink RX7 46 "DancedLockModel" "hasNone" "[Z") (List.mem_of_getElem? (i := 1) rfl)) (fun _ h9 => h9) rfl dX7_findTwo_58 ?_
                refine lv_iload hx hb dX7_findTwo_61 (lv_at hl 0 rfl) ?_
                have hh1 := (hH _ hlf).1
                refine w_zald (f := g21) hx hb hK hP 13 2 rfl rfl (i := lfk ((v 5 0)) ((v 16 0)) (mL ((v 20 0)) ((v 17))) k (g19)) (by omega) (by decide) dX7_findTwo_63 ?_
                refine w_if_ne (x := g21 (lfk ((v 5 0)) ((v 16 0)) (mL ((v 20 0)) ((v 17))) k (g19))) hx hb dX7_findTwo_64 (tgt := 83) (by decide) (by omega) (fun c64 => ?_) (fun c64 => ?_)
                · skip
                  have hnb1 : NOb (v 5 0) (v 16 0) (mL (v 20 0) (v 17)) (k + 1) 0 g19 (OKb (v 5 0) (v 7) (v 16 0) (mL (v 20 0) (v 17)) (mP (v 20 0) (v 17) (v 18)) (fun j => v 9 (dd * 6 + j)) (k + 1)) := by first | exact (hH _ hlf).2 c64 g19 (DGS_ev hke hdg) rfl | exact row_no hnc hno_73
                  refine lv_aload_n hx hb dX7_findTwo_83 rfl (lv_at hl 2 rfl) ?_
                  refine va_get (D := D) (ci := 7) (v := .ref (b 21)) (C := RX7) (T := TX7) (N := 24) hx hb hts hinX7 hown hK hP 0 rfl rfl 21 (by decide) (hts (.fieldLink RX7 46 "DancedLockModel" "hasNone" "[Z") (List.mem_of_getElem? (i := 1) rfl)) (fun _ h9 => h9) rfl dX7_findTwo_84 ?_
                  refine lv_iload hx hb dX7_findTwo_87 (lv_at hl 0 rfl) ?_
                  refine lv_iconst (v := nI (1)) hx hb dX7_findTwo_89 (by decide) ?_
                  refine w_zast (f := g21) (w := 1) hx hb hK hP hD hS 13 2 rfl rfl (i := lfk ((v 5 0)) ((v 16 0)) (mL ((v 20 0)) ((v 17))) k (g19)) (by omega) (by decide) (by decide) dX7_findTwo_90 (fun H locs hP hD hS => ?_)
                  have hP : va_P D vwCl (mW b cI cJ cZ (va_up (va_up v 19 (g19)) 21 (va_up g21 (lfk ((v 5 0)) ((v 16 0)) (mL ((v 20 0)) ((v 17))) k (g19)) 1)) c) H := hP
                  have hD : va_D A (mW b cI cJ cZ (va_up (va_up v 19 (g19)) 21 (va_up g21 (lfk ((v 5 0)) ((v 16 0)) (mL ((v 20 0)) ((v 17))) k (g19)) 1)) c) := hD
                  refine lv_aload_n hx hb dX7_findTwo_91 rfl (lv_at hl 2 rfl) ?_
                  refine lv_iload_n hx hb dX7_findTwo_92 rfl (lv_at hl 3 rfl) ?_
                  refine lv_iload_n hx hb dX7_findTwo_93 rfl (lv_at hl 4 rfl) ?_
                  refine lv_iload_n hx hb dX7_findTwo_94 rfl (lv_at hl 1 rfl) ?_
                  refine lv_iconst (v := nI (1)) hx hb dX7_findTwo_95 (by decide) ?_
                  refine w_iadd (x := w) (y := 1) hx hb dX7_findTwo_96  ?_
                  refine w_cVi (rest := []) hx hb hml hown hts (m_nextRow l D b cI cJ cZ A (va_up (va_up v 19 (g19)) 21 (va_up g21 (lfk ((v 5 0)) ((v 16 0)) (mL ((v 20 0)) ((v 17))) k (g19)) 1)) c dd k (w + 1)  (by show XI (vM (va_up (va_up v 19 (g19)) 21 (va_up g21 (lfk ((v 5 0)) ((v 16 0)) (mL ((v 20 0)) ((v 17))) k (g19)) 1))); first | (exact MX_i ⟨hnb, hnd, hbt, hfg, hne, hnc, hdk, hnf, hkn, hln, hst, hdc, hs_73⟩) | (exact MX_i ⟨hnb, hnd, hbt, hfg, hne, hnc, hdk, hnf, hkn, hln, hst, hdc, hs⟩)) (by show (v 20 0) ≤ 1; first | assumption | omega) (by show dd < (v 6 0); exact hd) (by show k < (v 8) dd; exact hk) (by omega)) 3 gX7_findTwo_X7_nextRow rfl hdX7_nextRow ⟨Nat.le_of_ble_eq_true rfl, Nat.le_of_ble_eq_true rfl⟩ hK hN hP hD hS hA 0 7 rfl rfl rfl rfl hl.1 rfl (Nat.le_of_ble_eq_true rfl) dX7_findTwo_97 ⟨Nat.le_of_ble_eq_true rfl, Nat.le_of_ble_eq_true rfl⟩ (fun r u H locs hq hP hD hS => ?_)
                  rcases hq with ⟨row_97, g19_97, rfl, rfl, h1_97, h2_97, hL_97, hok_97, hno_97, hs_97⟩ | ⟨g19_97, rfl, rfl, ho_97, hno_97, hs_97⟩
                  · skip
                    have h1_97 : row_97 < cnq ((v 5 0)) (frk (mL ((v 20 0)) ((v 17))) k) ((v 16 0)) := h1_97
                    have hL_97 : LBk ((v 5 0)) ((v 16 0)) (mL ((v 20 0)) ((v 17))) k row_97 (g19) g19_97 := hL_97
                    have hok_97 : OKb ((v 5 0)) ((v 7)) ((v 16 0)) (mL ((v 20 0)) ((v 17))) (mP ((v 20 0)) ((v 17)) ((v 18))) (fun j => (v 9) (dd * 6 + j)) k g19_97 := hok_97
                    have hno_97 : NRk ((v 5 0)) ((v 7)) ((v 16 0)) (mL ((v 20 0)) ((v 17))) (mP ((v 20 0)) ((v 17)) ((v 18))) (fun j => (v 9) (dd * 6 + j)) k (w + 1) row_97 (g19) := hno_97
                    have hP : va_P D vwCl (mW b cI cJ cZ (va_up (va_up v 19 (g19_97)) 21 (va_up g21 (lfk ((v 5 0)) ((v 16 0)) (mL ((v 20 0)) ((v 17))) k (g19)) 1)) c) H := hP
                    have hD : va_D A (mW b cI cJ cZ (va_up (va_up v 19 (g19_97)) 21 (va_up g21 (lfk ((v 5 0)) ((v 16 0)) (mL ((v 20 0)) ((v 17))) k (g19)) 1)) c) := hD
                    refine lv_istore_n (lv' := [(3, .int (nI (row_97))), (4, .int (nI (lfk ((v 5 0)) ((v 16 0)) (mL ((v 20 0)) ((v 17))) k (g19)))), (0, .ref (b 0)), (1, .int (nI (dd))), (2, .int (nI (k)))]) hx hb dX7_findTwo_100 rfl hl (by decide) rfl (fun ls hl => ?_)
                    refine lv_goto (tgt := 30) hx hb dX7_findTwo_101 (by decide) ?_
                    exact ih30 (nI (row_97)) row_97 g19_97 (va_up g21 (lfk ((v 5 0)) ((v 16 0)) (mL ((v 20 0)) ((v 17))) k (g19)) 1) _ _ _ (by omega) (by omega) (by first | exact Or.inl ⟨rfl, h1_97, hL_97.2.1, hL_97.2.2, hok_97, LO_s hnc hke hB hlo hdg hvl hnb1 hno_97⟩ | exact Or.inr ⟨rfl, LO_s hnc hke hB hlo hdg hvl hnb1 hno_97⟩) (by first | exact fun z hz => (hL_97.1 z (Or.inl (by omega))).trans (ha z hz) | exact fun z hz => (ho_97 z (Or.inl (by omega))).trans (ha z hz) | exact fun z hz => ((hL_97.1 z (Or.inl (by omega))).trans (ho_73 z (Or.inl (by omega)))).trans (ha z hz) | exact fun z hz => ((ho_97 z (Or.inl (by omega))).trans (ho_73 z (Or.inl (by omega)))).trans (ha z hz)) (by exact hs_97) (by exact HN_s hnc hke hH (DGS_ev hke hdg) hnb1) hP hD hS (lv_sub hl [0, 2, 3, 4] rfl)
                  · skip
                    have ho_97 : OUTk k g19_97 (g19) := ho_97
                    have hno_97 : NRk ((v 5 0)) ((v 7)) ((v 16 0)) (mL ((v 20 0)) ((v 17))) (mP ((v 20 0)) ((v 17)) ((v 18))) (fun j => (v 9) (dd * 6 + j)) k (w + 1) (cnq ((v 5 0)) (frk (mL ((v 20 0)) ((v 17))) k) ((v 16 0))) (g19) := hno_97
                    have hP : va_P D vwCl (mW b cI cJ cZ (va_up (va_up v 19 (g19_97)) 21 (va_up g21 (lfk ((v 5 0)) ((v 16 0)) (mL ((v 20 0)) ((v 17))) k (g19)) 1)) c) H := hP
                    have hD : va_D A (mW b cI cJ cZ (va_up (va_up v 19 (g19_97)) 21 (va_up g21 (lfk ((v 5 0)) ((v 16 0)) (mL ((v 20 0)) ((v 17))) k (g19)) 1)) c) := hD
                    refine lv_istore_n (lv' := [(3, .int (-9)), (4, .int (nI (lfk ((v 5 0)) ((v 16 0)) (mL ((v 20 0)) ((v 17))) k (g19)))), (0, .ref (b 0)), (1, .int (nI (dd))), (2, .int (nI (k)))]) hx hb dX7_findTwo_100 rfl hl (by decide) rfl (fun ls hl => ?_)
                    refine lv_goto (tgt := 30) hx hb dX7_findTwo_101 (by decide) ?_
                    exact ih30 (-9) (cnq (v 5 0) (frk (mL (v 20 0) (v 17)) k) (v 16 0)) g19_97 (va_up g21 (lfk ((v 5 0)) ((v 16 0)) (mL ((v 20 0)) ((v 17))) k (g19)) 1) _ _ _ (by omega) (by omega) (by first | exact Or.inl ⟨rfl, h1_97, hL_97.2.1, hL_97.2.2, hok_97, LO_s hnc hke hB hlo hdg hvl hnb1 hno_97⟩ | exact Or.inr ⟨rfl, LO_s hnc hke hB hlo hdg hvl hnb1 hno_97⟩) (by first | exact fun z hz => (hL_97.1 z (Or.inl (by omega))).trans (ha z hz) | exact fun z hz => (ho_97 z (Or.inl (by omega))).trans (ha z hz) | exact fun z hz => ((hL_97.1 z (Or.inl (by omega))).trans (ho_73 z (Or.inl (by omega)))).trans (ha z hz) | exact fun z hz => ((ho_97 z (Or.inl (by omega))).trans (ho_73 z (Or.inl (by omega)))).trans (ha z hz)) (by exact hs_97) (by exact HN_s hnc hke hH (DGS_ev hke hdg) hnb1) hP hD hS (lv_sub hl [0, 2, 3, 4] rfl)
                · skip
                  refine lv_aload_n hx hb dX7_findTwo_67 rfl (lv_at hl 2 rfl) ?_
                  refine lv_iload_n hx hb dX7_findTwo_68 rfl (lv_at hl 3 rfl) ?_
                  refine lv_iload_n hx hb dX7_findTwo_69 rfl (lv_at hl 4 rfl) ?_
                  refine lv_iconst (v := nI (1)) hx hb dX7_findTwo_70 (by decide) ?_
                  refine w_iadd (x := k) (y := 1) hx hb dX7_findTwo_71  ?_
                  refine lv_iconst (v := nI (0)) hx hb dX7_findTwo_72 (by decide) ?_
                  refine w_cVi (rest := []) hx hb hml hown hts (m_nextRow l D b cI cJ cZ A (va_up (va_up v 19 (g19)) 21 (g21)) c dd (k + 1) 0  (by show XI (vM (va_up (va_up v 19 (g19)) 21 (g21))); exact MX_i ⟨hnb, hnd, hbt, hfg, hne, hnc, hdk, hnf, hkn, hln, hst, hdc, hs⟩) (by show (v 20 0) ≤ 1; first | assumption | omega) (by show dd < (v 6 0); exact hd) (by show (k + 1) < (v 8) dd; exact hB) (by decide)) 3 gX7_findTwo_X7_nextRow rfl hdX7_nextRow ⟨Nat.le_of_ble_eq_true rfl, Nat.le_of_ble_eq_true rfl⟩ hK hN hP hD hS hA 0 7 rfl rfl rfl rfl hl.1 rfl (Nat.le_of_ble_eq_true rfl) dX7_findTwo_73 ⟨Nat.le_of_ble_eq_true rfl, Nat.le_of_ble_eq_true rfl⟩ (fun r u H locs hq hP hD hS => ?_)
                  rcases hq with ⟨row_73, g19_73, rfl, rfl, h1_73, h2_73, hL_73, hok_73, hno_73, hs_73⟩ | ⟨g19_73, rfl, rfl, ho_73, hno_73, hs_73⟩
                  · skip
                    have h1_73 : row_73 < cnq ((v 5 0)) (frk (mL ((v 20 0)) ((v 17))) (k + 1)) ((v 16 0)) := h1_73
                    have hL_73 : LBk ((v 5 0)) ((v 16 0)) (mL ((v 20 0)) ((v 17))) (k + 1) row_73 (g19) g19_73 := hL_73
                    have hok_73 : OKb ((v 5 0)) ((v 7)) ((v 16 0)) (mL ((v 20 0)) ((v 17))) (mP ((v 20 0)) ((v 17)) ((v 18))) (fun j => (v 9) (dd * 6 + j)) (k + 1) g19_73 := hok_73
                    have hno_73 : NRk ((v 5 0)) ((v 7)) ((v 16 0)) (mL ((v 20 0)) ((v 17))) (mP ((v 20 0)) ((v 17)) ((v 18))) (fun j => (v 9) (dd * 6 + j)) (k + 1) 0 row_73 (g19) := hno_73
                    have hP : va_P D vwCl (mW b cI cJ cZ (va_up (va_up v 19 (g19_73)) 21 (g21)) c) H := hP
                    have hD : va_D A (mW b cI cJ cZ (va_up (va_up v 19 (g19_73)) 21 (g21)) c) := hD
                    refine lv_bipush (v := -9) hx hb dX7_findTwo_76 (by decide) ?_
                    refine lv_icmp_eq hx hb dX7_findTwo_78 (tgt := 83) (by decide) (fun h => absurd h (n_neg (by omega) (by decide))) (fun _ => ?_)
                    refine lv_iconst (v := nI (1)) hx hb dX7_findTwo_81 (by decide) ?_
                    exact hret (nI (1)) (va_up (va_up v 19 (g19_73)) 21 (g21), c) _ _ 82 _ dX7_findTwo_82 rfl (by exact Or.inl ⟨g19_73, g21, rfl, rfl, fun z hz => (hL_73.1 z (Or.inl (by omega))).trans (ha z hz), hs_73, two_both hnc hke hlo hdg hvl hok hL_73 hok_73 hno_73⟩) hP hD hS
                  · skip
                    have ho_73 : OUTk (k + 1) g19_73 (g19) := ho_73
                    have hno_73 : NRk ((v 5 0)) ((v 7)) ((v 16 0)) (mL ((v 20 0)) ((v 17))) (mP ((v 20 0)) ((v 17)) ((v 18))) (fun j => (v 9) (dd * 6 + j)) (k + 1) 0 (cnq ((v 5 0)) (frk (mL ((v 20 0)) ((v 17))) (k + 1)) ((v 16 0))) (g19) := hno_73
                    have hP : va_P D vwCl (mW b cI cJ cZ (va_up (va_up v 19 (g19_73)) 21 (g21)) c) H := hP
                    have hD : va_D A (mW b cI cJ cZ (va_up (va_up v 19 (g19_73)) 21 (g21)) c) := hD
                    refine lv_bipush (v := -9) hx hb dX7_findTwo_76 (by decide) ?_
                    refine lv_icmp_eq hx hb dX7_findTwo_78 (tgt := 83) (by decide) (fun _ => ?_) (fun h => absurd h (by decide))
                    have hnb1 : NOb (v 5 0) (v 16 0) (mL (v 20 0) (v 17)) (k + 1) 0 g19 (OKb (v 5 0) (v 7) (v 16 0) (mL (v 20 0) (v 17)) (mP (v 20 0) (v 17) (v 18)) (fun j => v 9 (dd * 6 + j)) (k + 1)) := by first | exact (hH _ hlf).2 c64 g19 (DGS_ev hke hdg) rfl | exact row_no hnc hno_73
                    refine lv_aload_n hx hb dX7_findTwo_83 rfl (lv_at hl 2 rfl) ?_
                    refine va_get (D := D) (ci := 7) (v := .ref (b 21)) (C := RX7) (T := TX7) (N := 24) hx hb hts hinX7 hown hK hP 0 rfl rfl 21 (by decide) (hts (.fieldLink RX7 46 "DancedLockModel" "hasNone" "[Z") (List.mem_of_getElem? (i := 1) rfl)) (fun _ h9 => h9) rfl dX7_findTwo_84 ?_
                    refine lv_iload hx hb dX7_findTwo_87 (lv_at hl 0 rfl) ?_
                    refine lv_iconst (v := nI (1)) hx hb dX7_findTwo_89 (by decide) ?_
                    refine w_zast (f := g21) (w := 1) hx hb hK hP hD hS 13 2 rfl rfl (i := lfk ((v 5 0)) ((v 16 0)) (mL ((v 20 0)) ((v 17))) k (g19)) (by omega) (by decide) (by decide) dX7_findTwo_90 (fun H locs hP hD hS => ?_)
                    have hP : va_P D vwCl (mW b cI cJ cZ (va_up (va_up v 19 (g19_73)) 21 (va_up g21 (lfk ((v 5 0)) ((v 16 0)) (mL ((v 20 0)) ((v 17))) k (g19)) 1)) c) H := hP
                    have hD : va_D A (mW b cI cJ cZ (va_up (va_up v 19 (g19_73)) 21 (va_up g21 (lfk ((v 5 0)) ((v 16 0)) (mL ((v 20 0)) ((v 17))) k (g19)) 1)) c) := hD
                    refine lv_aload_n hx hb dX7_findTwo_91 rfl (lv_at hl 2 rfl) ?_
                    refine lv_iload_n hx hb dX7_findTwo_92 rfl (lv_at hl 3 rfl) ?_
                    refine lv_iload_n hx hb dX7_findTwo_93 rfl (lv_at hl 4 rfl) ?_
                    refine lv_iload_n hx hb dX7_findTwo_94 rfl (lv_at hl 1 rfl) ?_
                    refine lv_iconst (v := nI (1)) hx hb dX7_findTwo_95 (by decide) ?_
                    refine w_iadd (x := w) (y := 1) hx hb dX7_findTwo_96  ?_
                    refine w_cVi (rest := []) hx hb hml hown hts (m_nextRow l D b cI cJ cZ A (va_up (va_up v 19 (g19_73)) 21 (va_up g21 (lfk ((v 5 0)) ((v 16 0)) (mL ((v 20 0)) ((v 17))) k (g19)) 1)) c dd k (w + 1)  (by show XI (vM (va_up (va_up v 19 (g19_73)) 21 (va_up g21 (lfk ((v 5 0)) ((v 16 0)) (mL ((v 20 0)) ((v 17))) k (g19)) 1))); first | (exact MX_i ⟨hnb, hnd, hbt, hfg, hne, hnc, hdk, hnf, hkn, hln, hst, hdc, hs_73⟩) | (exact MX_i ⟨hnb, hnd, hbt, hfg, hne, hnc, hdk, hnf, hkn, hln, hst, hdc, hs⟩)) (by show (v 20 0) ≤ 1; first | assumption | omega) (by show dd < (v 6 0); exact hd) (by show k < (v 8) dd; exact hk) (by omega)) 3 gX7_findTwo_X7_nextRow rfl hdX7_nextRow ⟨Nat.le_of_ble_eq_true rfl, Nat.le_of_ble_eq_true rfl⟩ hK hN hP hD hS hA 0 7 rfl rfl rfl rfl hl.1 rfl (Nat.le_of_ble_eq_true rfl) dX7_findTwo_97 ⟨Nat.le_of_ble_eq_true rfl, Nat.le_of_ble_eq_true rfl⟩ (fun r u H locs hq hP hD hS => ?_)
                    rcases hq with ⟨row_97, g19_97, rfl, rfl, h1_97, h2_97, hL_97, hok_97, hno_97, hs_97⟩ | ⟨g19_97, rfl, rfl, ho_97, hno_97, hs_97⟩
                    · skip
                      have h1_97 : row_97 < cnq ((v 5 0)) (frk (mL ((v 20 0)) ((v 17))) k) ((v 16 0)) := h1_97
                      have hL_97 : LBk ((v 5 0)) ((v 16 0)) (mL ((v 20 0)) ((v 17))) k row_97 (g19_73) g19_97 := hL_97
                      have hok_97 : OKb ((v 5 0)) ((v 7)) ((v 16 0)) (mL ((v 20 0)) ((v 17))) (mP ((v 20 0)) ((v 17)) ((v 18))) (fun j => (v 9) (dd * 6 + j)) k g19_97 := hok_97
                      have hno_97 : NRk ((v 5 0)) ((v 7)) ((v 16 0)) (mL ((v 20 0)) ((v 17))) (mP ((v 20 0)) ((v 17)) ((v 18))) (fun j => (v 9) (dd * 6 + j)) k (w + 1) row_97 (g19_73) := hno_97
                      have hP : va_P D vwCl (mW b cI cJ cZ (va_up (va_up v 19 (g19_97)) 21 (va_up g21 (lfk ((v 5 0)) ((v 16 0)) (mL ((v 20 0)) ((v 17))) k (g19)) 1)) c) H := hP
                      have hD : va_D A (mW b cI cJ cZ (va_up (va_up v 19 (g19_97)) 21 (va_up g21 (lfk ((v 5 0)) ((v 16 0)) (mL ((v 20 0)) ((v 17))) k (g19)) 1)) c) := hD
                      refine lv_istore_n (lv' := [(3, .int (nI (row_97))), (4, .int (nI (lfk ((v 5 0)) ((v 16 0)) (mL ((v 20 0)) ((v 17))) k (g19)))), (0, .ref (b 0)), (1, .int (nI (dd))), (2, .int (nI (k)))]) hx hb dX7_findTwo_100 rfl hl (by decide) rfl (fun ls hl => ?_)
                      refine lv_goto (tgt := 30) hx hb dX7_findTwo_101 (by decide) ?_
                      exact ih30 (nI (row_97)) row_97 g19_97 (va_up g21 (lfk ((v 5 0)) ((v 16 0)) (mL ((v 20 0)) ((v 17))) k (g19)) 1) _ _ _ (by omega) (by omega) (by first | exact Or.inl ⟨rfl, h1_97, hL_97.2.1, hL_97.2.2, hok_97, LO_s hnc hke hB hlo hdg hvl hnb1 hno_97⟩ | exact Or.inr ⟨rfl, LO_s hnc hke hB hlo hdg hvl hnb1 hno_97⟩) (by first | exact fun z hz => (hL_97.1 z (Or.inl (by omega))).trans (ha z hz) | exact fun z hz => (ho_97 z (Or.inl (by omega))).trans (ha z hz) | exact fun z hz => ((hL_97.1 z (Or.inl (by omega))).trans (ho_73 z (Or.inl (by omega)))).trans (ha z hz) | exact fun z hz => ((ho_97 z (Or.inl (by omega))).trans (ho_73 z (Or.inl (by omega)))).trans (ha z hz)) (by exact hs_97) (by exact HN_s hnc hke hH (DGS_ev hke hdg) hnb1) hP hD hS (lv_sub hl [0, 2, 3, 4] rfl)
                    · skip
                      have ho_97 : OUTk k g19_97 (g19_73) := ho_97
                      have hno_97 : NRk ((v 5 0)) ((v 7)) ((v 16 0)) (mL ((v 20 0)) ((v 17))) (mP ((v 20 0)) ((v 17)) ((v 18))) (fun j => (v 9) (dd * 6 + j)) k (w + 1) (cnq ((v 5 0)) (frk (mL ((v 20 0)) ((v 17))) k) ((v 16 0))) (g19_73) := hno_97
                      have hP : va_P D vwCl (mW b cI cJ cZ (va_up (va_up v 19 (g19_97)) 21 (va_up g21 (lfk ((v 5 0)) ((v 16 0)) (mL ((v 20 0)) ((v 17))) k (g19)) 1)) c) H := hP
                      have hD : va_D A (mW b cI cJ cZ (va_up (va_up v 19 (g19_97)) 21 (va_up g21 (lfk ((v 5 0)) ((v 16 0)) (mL ((v 20 0)) ((v 17))) k (g19)) 1)) c) := hD
                      refine lv_istore_n (lv' := [(3, .int (-9)), (4, .int (nI (lfk ((v 5 0)) ((v 16 0)) (mL ((v 20 0)) ((v 17))) k (g19)))), (0, .ref (b 0)), (1, .int (nI (dd))), (2, .int (nI (k)))]) hx hb dX7_findTwo_100 rfl hl (by decide) rfl (fun ls hl => ?_)
                      refine lv_goto (tgt := 30) hx hb dX7_findTwo_101 (by decide) ?_
                      exact ih30 (-9) (cnq (v 5 0) (frk (mL (v 20 0) (v 17)) k) (v 16 0)) g19_97 (va_up g21 (lfk ((v 5 0)) ((v 16 0)) (mL ((v 20 0)) ((v 17))) k (g19)) 1) _ _ _ (by omega) (by omega) (by first | exact Or.inl ⟨rfl, h1_97, hL_97.2.1, hL_97.2.2, hok_97, LO_s hnc hke hB hlo hdg hvl hnb1 hno_97⟩ | exact Or.inr ⟨rfl, LO_s hnc hke hB hlo hdg hvl hnb1 hno_97⟩) (by first | exact fun z hz => (hL_97.1 z (Or.inl (by omega))).trans (ha z hz) | exact fun z hz => (ho_97 z (Or.inl (by omega))).trans (ha z hz) | exact fun z hz => ((hL_97.1 z (Or.inl (by omega))).trans (ho_73 z (Or.inl (by omega)))).trans (ha z hz) | exact fun z hz => ((ho_97 z (Or.inl (by omega))).trans (ho_73 z (Or.inl (by omega)))).trans (ha z hz)) (by exact hs_97) (by exact HN_s hnc hke hH (DGS_ev hke hdg) hnb1) hP hD hS (lv_sub hl [0, 2, 3, 4] rfl)
              · skip
                refine lv_iconst (v := nI (1)) hx hb dX7_findTwo_48 (by decide) ?_
                exact hret (nI (1)) (va_up (va_up v 19 (g19)) 21 (g21), c) _ _ 49 _ dX7_findTwo_49 rfl (by exact Or.inl ⟨g19, g21, rfl, rfl, ha, hs, two_last hnc hke (by omega) hlo hdg hvl hok⟩) hP hD hS
        refine lv_aload_n hx hb dX7_findTwo_22 rfl (lv_at hl 1 rfl) ?_
        refine lv_iload_n hx hb dX7_findTwo_23 rfl (lv_at hl 2 rfl) ?_
        refine lv_iload_n hx hb dX7_findTwo_24 rfl (lv_at hl 3 rfl) ?_
        refine lv_iconst (v := nI (0)) hx hb dX7_findTwo_25 (by decide) ?_
        refine w_cVi (rest := []) hx hb hml hown hts (m_nextRow l D b cI cJ cZ A (va_up v 21 (g21)) c dd k 0  (by show XI (vM (va_up v 21 (g21))); exact MX_i ⟨hnb, hnd, hbt, hfg, hne, hnc, hdk, hnf, hkn, hln, hst, hdc, hsp⟩) (by show (v 20 0) ≤ 1; first | assumption | omega) (by show dd < (v 6 0); exact hd) (by show k < (v 8) dd; exact hk) (by decide)) 3 gX7_findTwo_X7_nextRow rfl hdX7_nextRow ⟨Nat.le_of_ble_eq_true rfl, Nat.le_of_ble_eq_true rfl⟩ hK hN hP hD hS hA 0 7 rfl rfl rfl rfl hl.1 rfl (Nat.le_of_ble_eq_true rfl) dX7_findTwo_26 ⟨Nat.le_of_ble_eq_true rfl, Nat.le_of_ble_eq_true rfl⟩ (fun r u H locs hq hP hD hS => ?_)
        rcases hq with ⟨row_26, g19_26, rfl, rfl, h1_26, h2_26, hL_26, hok_26, hno_26, hs_26⟩ | ⟨g19_26, rfl, rfl, ho_26, hno_26, hs_26⟩
        · skip
          have h1_26 : row_26 < cnq ((v 5 0)) (frk (mL ((v 20 0)) ((v 17))) k) ((v 16 0)) := h1_26
          have hL_26 : LBk ((v 5 0)) ((v 16 0)) (mL ((v 20 0)) ((v 17))) k row_26 ((v 19)) g19_26 := hL_26
          have hok_26 : OKb ((v 5 0)) ((v 7)) ((v 16 0)) (mL ((v 20 0)) ((v 17))) (mP ((v 20 0)) ((v 17)) ((v 18))) (fun j => (v 9) (dd * 6 + j)) k g19_26 := hok_26
          have hno_26 : NRk ((v 5 0)) ((v 7)) ((v 16 0)) (mL ((v 20 0)) ((v 17))) (mP ((v 20 0)) ((v 17)) ((v 18))) (fun j => (v 9) (dd * 6 + j)) k 0 row_26 ((v 19)) := hno_26
          have hP : va_P D vwCl (mW b cI cJ cZ (va_up (va_up v 19 (g19_26)) 21 (g21)) c) H := hP
          have hD : va_D A (mW b cI cJ cZ (va_up (va_up v 19 (g19_26)) 21 (g21)) c) := hD
          refine lv_istore_n (lv' := [(3, .int (nI (row_26))), (0, .ref (b 0)), (1, .int (nI (dd))), (2, .int (nI (k)))]) hx hb dX7_findTwo_29 rfl hl (by decide) rfl (fun ls hl => ?_)
          exact L30 (((cnq (v 5 0) (frk (mL (v 20 0) (v 17)) k) (v 16 0)) + 1 - row_26) + 1) (nI (row_26)) row_26 g19_26 g21 _ _ _ (Nat.lt_succ_self _) (by omega) (by first | exact Or.inl ⟨rfl, h1_26, hL_26.2.1, hL_26.2.2, hok_26, LO_0 hnc hke hno_26⟩ | exact Or.inr ⟨rfl, LO_0 hnc hke hno_26⟩) (by first | exact fun z hz => hL_26.1 z (Or.inl (by omega)) | exact fun z hz => ho_26 z (Or.inl (by omega))) (by exact hs_26) (by exact HN_0 (fun z hz => h2 z (by omega))) hP hD hS (lv_sub hl [0, 1, 2, 3] rfl)
        · skip
          have ho_26 : OUTk k g19_26 ((v 19)) := ho_26
          have hno_26 : NRk ((v 5 0)) ((v 7)) ((v 16 0)) (mL ((v 20 0)) ((v 17))) (mP ((v 20 0)) ((v 17)) ((v 18))) (fun j => (v 9) (dd * 6 + j)) k 0 (cnq ((v 5 0)) (frk (mL ((v 20 0)) ((v 17))) k) ((v 16 0))) ((v 19)) := hno_26
          have hP : va_P D vwCl (mW b cI cJ cZ (va_up (va_up v 19 (g19_26)) 21 (g21)) c) H := hP
          have hD : va_D A (mW b cI cJ cZ (va_up (va_up v 19 (g19_26)) 21 (g21)) c) := hD
          refine lv_istore_n (lv' := [(3, .int (-9)), (0, .ref (b 0)), (1, .int (nI (dd))), (2, .int (nI (k)))]) hx hb dX7_findTwo_29 rfl hl (by decide) rfl (fun ls hl => ?_)
          exact L30 (((cnq (v 5 0) (frk (mL (v 20 0) (v 17)) k) (v 16 0)) + 1 - (cnq (v 5 0) (frk (mL (v 20 0) (v 17)) k) (v 16 0))) + 1) (-9) (cnq (v 5 0) (frk (mL (v 20 0) (v 17)) k) (v 16 0)) g19_26 g21 _ _ _ (Nat.lt_succ_self _) (by omega) (by first | exact Or.inl ⟨rfl, h1_26, hL_26.2.1, hL_26.2.2, hok_26, LO_0 hnc hke hno_26⟩ | exact Or.inr ⟨rfl, LO_0 hnc hke hno_26⟩) (by first | exact fun z hz => hL_26.1 z (Or.inl (by omega)) | exact fun z hz => ho_26 z (Or.inl (by omega))) (by exact hs_26) (by exact HN_0 (fun z hz => h2 z (by omega))) hP hD hS (lv_sub hl [0, 1, 2, 3] rfl)
      · skip
        refine lv_aload_n hx hb dX7_findTwo_9 rfl (lv_at hl 1 rfl) ?_
        refine va_get (D := D) (ci := 7) (v := .ref (b 21)) (C := RX7) (T := TX7) (N := 24) hx hb hts hinX7 hown hK hP 0 rfl rfl 21 (by decide) (hts (.fieldLink RX7 46 "DancedLockModel" "hasNone" "[Z") (List.mem_of_getElem? (i := 1) rfl)) (fun _ h9 => h9) rfl dX7_findTwo_10 ?_
        refine lv_iload_n hx hb dX7_findTwo_13 rfl (lv_at hl 0 rfl) ?_
        refine lv_iconst (v := nI (0)) hx hb dX7_findTwo_14 (by decide) ?_
        refine w_zast (f := g21) (w := 0) hx hb hK hP hD hS 13 2 rfl rfl (i := q) (by omega) (by decide) (by decide) dX7_findTwo_15 (fun H locs hP hD hS => ?_)
        have hP : va_P D vwCl (mW b cI cJ cZ (va_up v 21 (va_up g21 q 0)) c) H := hP
        have hD : va_D A (mW b cI cJ cZ (va_up v 21 (va_up g21 q 0)) c) := hD
        refine lv_iinc (v := nI (q + 1)) (lv' := [(3, .int (nI (q + 1))), (0, .ref (b 0)), (1, .int (nI (dd))), (2, .int (nI (k)))]) hx hb dX7_findTwo_16 hl (k := 0) rfl (nI_add q 1) (by decide) rfl (fun ls hl => ?_)
        refine lv_goto (tgt := 2) hx hb dX7_findTwo_19 (by decide) ?_
        exact ih2 (q + 1) (va_up g21 q 0) _ _ _ (by omega) (by omega) (by exact z_s h2) hP hD hS (lv_sub hl [0, 1, 2, 3] rfl)
  exact L2 ((2401 - 0) + 1) 0 (v 21) _ _ _ (Nat.lt_succ_self _) (by omega) (by exact fun z hz => absurd hz (Nat.not_lt_zero _)) hP hD hS (lv_sub hl [0, 1, 2, 3] rfl)

set_option maxHeartbeats 4000000 in
set_option maxRecDepth 100000 in
theorem m_findPlan (l : Launch) (D : va_G) (b : Nat → Nat) (cI cJ cZ : ClassId) (A : Nat → Prop) (v : Nat → Nat → Nat) (c : Nat → Nat → Int32) (dd : Nat) (hX : XI (vM v)) (hw : v 20 0 ≤ 1) (hd : dd < v 6 0) :
    mI l yX7_findPlan wsX7_findPlan 4 97 [.ref (b 0), .int (nI dd)] D (xT cI cJ cZ) A (mW b cI cJ cZ v c) (fun u : ((Nat → Nat → Nat) × (Nat → Nat → Int32)) => mW b cI cJ cZ u.1 u.2)
    (fun (r : Int32) (u : ((Nat → Nat → Nat) × (Nat → Nat → Int32))) => (∃ g19 : Nat → Nat, ∃ g21 : Nat → Nat, r = nI (1) ∧ u = (va_up (va_up v 19 (g19)) 21 (g21), c) ∧ (∀ q, q < 24 → g19 q < 8) ∧ (∀ j, j % 2 = 0 → j < v 8 dd → FSTb (v 5 0) (v 7) (v 16 0) (mL (v 20 0) (v 17)) (mP (v 20 0) (v 17) (v 18)) (fun j => v 9 (dd * 6 + j)) (v 8 dd) g19 j)) ∨ (∃ g19 : Nat → Nat, ∃ g21 : Nat → Nat, ∃ j : Nat, r = nI (0) ∧ u = (va_up (va_up v 19 (g19)) 21 (g21), c) ∧ (∀ q, q < 24 → g19 q < 8) ∧ (j % 2 = 0 ∧ j < v 8 dd) ∧ NFb (v 5 0) (v 7) (v 16 0) (mL (v 20 0) (v 17)) (mP (v 20 0) (v 17) (v 18)) (fun j => v 9 (dd * 6 + j)) (v 8 dd) j)) := by
  refine w_bI cX7_findPlan 3 .boolean (by decide) rfl (Nat.le_of_ble_eq_true rfl) (Or.inr rfl) ?_
  intro p e s m args below meth c0 ls Q hx hb hml hts hown hK hN hA hret hP hD hS hl
  have hl : lv_has ls 3 [(0, .ref (b 0)), (1, .int (nI (dd)))] := hl
  have hinX7 : ∀ w ∈ wsX70, w ∈ wsX7_findPlan := fun w h => List.mem_cons_of_mem _ (List.mem_append_right _ h)
  obtain ⟨hnb, hnd, hbt, hfg, hne, hnc, hdk, hnf, hkn, hln, hst, hdc, hsp⟩ := MX_o hX
  have hbd := hbt dd hd
  refine lv_iconst (v := nI (0)) hx hb dX7_findPlan_0 (by decide) ?_
  refine lv_istore_n (lv' := [(2, .int (nI (0))), (0, .ref (b 0)), (1, .int (nI (dd)))]) hx hb dX7_findPlan_1 rfl hl (by decide) rfl (fun ls hl => ?_)
  have L2 : ∀ (n : Nat) (k : Nat) (g19 : Nat → Nat) (g21 : Nat → Nat) (H : Heap) (locs : List Loc) (ls : Array Slot), v 8 dd - k < n → (k ≤ 8) → (k % 2 = 0) → (∀ q, q < 24 → g19 q < 8) → (∀ j, j % 2 = 0 → j < k → j < v 8 dd → FSTb (v 5 0) (v 7) (v 16 0) (mL (v 20 0) (v 17)) (mP (v 20 0) (v 17) (v 18)) (fun j => v 9 (dd * 6 + j)) (v 8 dd) g19 j) → va_P D vwCl (mW b cI cJ cZ (va_up (va_up v 19 (g19)) 21 (g21)) c) H → va_D A (mW b cI cJ cZ (va_up (va_up v 19 (g19)) 21 (g21)) c) → va_S A s.heap H locs → lv_has ls 3 [(2, .int (nI (k))), (0, .ref (b 0)), (1, .int (nI (dd)))] → W p l e { frames := 4, cells := 0, slots := 0, locals := 97 } s m args below meth c0 H locs 0 0 Q (F0 m 2 ls []) := by
    intro n
    induction n with
    | zero => intro k g19 g21 H locs ls hm; exact absurd hm (Nat.not_lt_zero _)
    | succ n ih2 =>
      intro k g19 g21 H locs ls hm2 h0 h1 hs hF hP hD hS hl
      refine lv_iload_n hx hb dX7_findPlan_2 rfl (lv_at hl 0 rfl) ?_
      refine lv_aload_n hx hb dX7_findPlan_3 rfl (lv_at hl 1 rfl) ?_
      refine va_get (D := D) (ci := 7) (v := .ref (b 8)) (C := RX7) (T := TX7) (N := 24) hx hb hts hinX7 hown hK hP 0 rfl rfl 8 (by decide) (hts (.fieldLink RX7 22 "DancedLockModel" "beats" "[I") (List.mem_of_getElem? (i := 1) rfl)) (fun _ h9 => h9) rfl dX7_findPlan_4 ?_
      refine lv_iload_n hx hb dX7_findPlan_7 rfl (lv_at hl 2 rfl) ?_
      refine w_iald (f := v 8) hx hb hK hP 5 0 rfl rfl (i := dd) (by omega) (by decide) dX7_findPlan_8 ?_
      refine w_icmp_ge (x := k) (y := v 8 dd) hx hb dX7_findPlan_9 (tgt := 29) (by decide) (by omega) (by omega) (fun c9 => ?_) (fun c9 => ?_)
      · skip
        refine lv_iconst (v := nI (1)) hx hb dX7_findPlan_29 (by decide) ?_
        exact hret (nI (1)) (va_up (va_up v 19 (g19)) 21 (g21), c) _ _ 30 _ dX7_findPlan_30 rfl (by exact Or.inl ⟨g19, g21, rfl, rfl, hs, fun j hj hB => hF j hj (by omega) hB⟩) hP hD hS
      · skip
        refine lv_aload_n hx hb dX7_findPlan_12 rfl (lv_at hl 1 rfl) ?_
        refine lv_iload_n hx hb dX7_findPlan_13 rfl (lv_at hl 2 rfl) ?_
        refine lv_iload_n hx hb dX7_findPlan_14 rfl (lv_at hl 0 rfl) ?_
        refine w_cVi (rest := []) hx hb hml hown hts (m_findTwo l D b cI cJ cZ A (va_up (va_up v 19 (g19)) 21 (g21)) c dd k  (by show XI (vM (va_up (va_up v 19 (g19)) 21 (g21))); exact MX_i ⟨hnb, hnd, hbt, hfg, hne, hnc, hdk, hnf, hkn, hln, hst, hdc, hs⟩) (by show (v 20 0) ≤ 1; first | assumption | omega) (by show dd < (v 6 0); exact hd) (by show k < (v 8) dd; exact c9) (by exact h1)) 2 gX7_findPlan_X7_findTwo rfl hdX7_findTwo ⟨Nat.le_of_ble_eq_true rfl, Nat.le_of_ble_eq_true rfl⟩ hK hN hP hD hS hA 0 7 rfl rfl rfl rfl hl.1 rfl (Nat.le_of_ble_eq_true rfl) dX7_findPlan_15 ⟨Nat.le_of_ble_eq_true rfl, Nat.le_of_ble_eq_true rfl⟩ (fun r u H locs hq hP hD hS => ?_)
        rcases hq with ⟨g19_15, g21_15, rfl, rfl, ha_15, hs_15, hF_15⟩ | ⟨g19_15, g21_15, rfl, rfl, ha_15, hs_15, hN_15⟩
        · skip
          have ha_15 : agr k 0 g19_15 (g19) := ha_15
          have hF_15 : FSTb ((v 5 0)) ((v 7)) ((v 16 0)) (mL ((v 20 0)) ((v 17))) (mP ((v 20 0)) ((v 17)) ((v 18))) (fun j => (v 9) (dd * 6 + j)) ((v 8) dd) g19_15 k := hF_15
          have hP : va_P D vwCl (mW b cI cJ cZ (va_up (va_up v 19 (g19_15)) 21 (g21_15)) c) H := hP
          have hD : va_D A (mW b cI cJ cZ (va_up (va_up v 19 (g19_15)) 21 (g21_15)) c) := hD
          refine w_if_ne (x := 1) hx hb dX7_findPlan_18 (tgt := 23) (by decide) (by decide) (fun _ => ?_) (fun h => absurd h (by decide))
          refine lv_iinc (v := nI (k + 2)) (lv' := [(2, .int (nI (k + 2))), (0, .ref (b 0)), (1, .int (nI (dd)))]) hx hb dX7_findPlan_23 hl (k := 0) rfl (nI_add k 2) (by decide) rfl (fun ls hl => ?_)
          refine lv_goto (tgt := 2) hx hb dX7_findPlan_26 (by decide) ?_
          exact ih2 (k + 2) g19_15 g21_15 _ _ _ (by omega) (by omega) (by omega) (by exact hs_15) (by exact fst_s hnc h1 hF ha_15 hF_15) hP hD hS (lv_sub hl [0, 1, 2] rfl)
        · skip
          have ha_15 : agr k 0 g19_15 (g19) := ha_15
          have hN_15 : NFb ((v 5 0)) ((v 7)) ((v 16 0)) (mL ((v 20 0)) ((v 17))) (mP ((v 20 0)) ((v 17)) ((v 18))) (fun j => (v 9) (dd * 6 + j)) ((v 8) dd) k := hN_15
          have hP : va_P D vwCl (mW b cI cJ cZ (va_up (va_up v 19 (g19_15)) 21 (g21_15)) c) H := hP
          have hD : va_D A (mW b cI cJ cZ (va_up (va_up v 19 (g19_15)) 21 (g21_15)) c) := hD
          refine w_if_ne (x := 0) hx hb dX7_findPlan_18 (tgt := 23) (by decide) (by decide) (fun h => absurd h (by decide)) (fun _ => ?_)
          refine lv_iconst (v := nI (0)) hx hb dX7_findPlan_21 (by decide) ?_
          exact hret (nI (0)) (va_up (va_up v 19 (g19_15)) 21 (g21_15), c) _ _ 22 _ dX7_findPlan_22 rfl (by exact Or.inr ⟨g19_15, g21_15, k, rfl, rfl, hs_15, ⟨h1, c9⟩, hN_15⟩) hP hD hS
  exact L2 ((v 8 dd - 0) + 1) 0 (v 19) (v 21) _ _ _ (Nat.lt_succ_self _) (by omega) (by omega) (by exact hsp) (by exact fun j _ hj => absurd hj (Nat.not_lt_zero _)) hP hD hS (lv_sub hl [0, 1, 2] rfl)

set_option maxHeartbeats 4000000 in
set_option maxRecDepth 100000 in
theorem s_can (l : Launch) (D : va_G) (b : Nat → Nat) (cI cJ cZ : ClassId) (A : Nat → Prop) (v : Nat → Nat → Nat) (c : Nat → Nat → Int32) (x : Int32) (hI : MI v c) :
    mI l yX7_can wsX7_can 5 119 [.ref (b 0), .int x] D (xT cI cJ cZ) A (mW b cI cJ cZ v c) (fun u : ((Nat → Nat → Nat) × (Nat → Nat → Int32)) => mW b cI cJ cZ u.1 u.2)
    (fun (r : Int32) (u : ((Nat → Nat → Nat) × (Nat → Nat → Int32))) => MI u.1 u.2 ∧ sp_can (v 5 0) (v 7) (v 16 0) (lA (v 17)) (pA (v 17) (v 18)) (v 6 0) (v 8) (fun d k => v 9 (d * 6 + k)) x r ∧ XS (vM v) (cM c) (vM u.1, cM u.2) (v 0 0)) := by
  refine w_bI cX7_can 2 .int (by decide) rfl (Nat.le_of_ble_eq_true rfl) (Or.inl rfl) ?_
  intro p e s m args below meth c0 ls Q hx hb hml hts hown hK hN hA hret hP hD hS hl
  have hl : lv_has ls 2 [(0, .ref (b 0)), (1, .int x)] := hl
  obtain ⟨hnb, hnd, hbt, hfg, hne, hnc, hdk, hnf, hkn, hln, hst, hdc, hsp⟩ := MI_o hI
  have h20 : v 20 0 = 0 := hI.2.1
  refine lv_aload_n hx hb dX7_can_0 rfl (lv_at hl 0 rfl) ?_
  refine lv_iload_n hx hb dX7_can_1 rfl (lv_at hl 1 rfl) ?_
  refine w_cVi (rest := []) hx hb hml hown hts (m_isDoor_R l D b cI cJ cZ A v c x  (by first | assumption | omega)) 1 gX7_can_X7_isDoor rfl hdX7_isDoor ⟨Nat.le_of_ble_eq_true rfl, Nat.le_of_ble_eq_true rfl⟩ hK hN hP hD hS hA 0 7 rfl rfl rfl rfl hl.1 rfl (Nat.le_of_ble_eq_true rfl) dX7_can_2 ⟨Nat.le_of_ble_eq_true rfl, Nat.le_of_ble_eq_true rfl⟩ (fun r u H locs hq hP hD hS => ?_)
  rcases hq with ⟨j_2, rfl, h_2, hs_x_2⟩ | ⟨rfl, h_2⟩
  · skip
    have hP : va_P D vwCl (mW b cI cJ cZ v c) H := hP
    have hD : va_D A (mW b cI cJ cZ v c) := hD
    subst hs_x_2
    have j_2T := n_tI (k := j_2) (by omega)
    refine w_if_ne (x := 1) hx hb dX7_can_5 (tgt := 10) (by decide) (by decide) (fun _ => ?_) (fun h => absurd h (by decide))
    refine lv_aload_n hx hb dX7_can_10 rfl (lv_at hl 0 rfl) ?_
    refine lv_iload_n hx hb dX7_can_11 rfl (lv_at hl 1 rfl) ?_
    refine w_cVi (rest := []) hx hb hml hown hts (m_findPlan l D b cI cJ cZ A v c j_2  (by exact hI.1) (by omega) (by exact h_2)) 1 gX7_can_X7_findPlan rfl hdX7_findPlan ⟨Nat.le_of_ble_eq_true rfl, Nat.le_of_ble_eq_true rfl⟩ hK hN hP hD hS hA 0 7 rfl rfl rfl rfl hl.1 rfl (Nat.le_of_ble_eq_true rfl) dX7_can_12 ⟨Nat.le_of_ble_eq_true rfl, Nat.le_of_ble_eq_true rfl⟩ (fun r u H locs hq hP hD hS => ?_)
    rcases hq with ⟨g19_12, g21_12, rfl, rfl, hs_12, hF_12⟩ | ⟨g19_12, g21_12, j_12, rfl, rfl, hs_12, hj_12, hN_12⟩
    · skip
      have hP : va_P D vwCl (mW b cI cJ cZ (va_up (va_up v 19 (g19_12)) 21 (g21_12)) c) H := hP
      have hD : va_D A (mW b cI cJ cZ (va_up (va_up v 19 (g19_12)) 21 (g21_12)) c) := hD
      refine w_if_eq (x := 1) hx hb dX7_can_15 (tgt := 22) (by decide) (by decide) (fun h => absurd h (by decide)) (fun _ => ?_)
      refine lv_iconst (v := nI (1)) hx hb dX7_can_18 (by decide) ?_
      refine lv_goto (tgt := 23) hx hb dX7_can_19 (by decide) ?_
      exact hret (nI (1)) (va_up (va_up v 19 (g19_12)) 21 (g21_12), c) _ _ 23 _ dX7_can_23 rfl (by rw [h20, mL_0, mP_0] at hF_12; exact mx2_of (MI_rd hI ⟨rfl, rfl, rfl, rfl, rfl, rfl, rfl, rfl, rfl, rfl, rfl, rfl, rfl⟩ (hs_12)) (Or.inl ⟨j_2, h_2, rfl, Or.inl ⟨⟨g19_12, hF_12⟩, rfl⟩⟩) rfl ⟨rfl, rfl, rfl, rfl, rfl, rfl, rfl, rfl, rfl, rfl, rfl, rfl, rfl⟩) hP hD hS
    · skip
      have hP : va_P D vwCl (mW b cI cJ cZ (va_up (va_up v 19 (g19_12)) 21 (g21_12)) c) H := hP
      have hD : va_D A (mW b cI cJ cZ (va_up (va_up v 19 (g19_12)) 21 (g21_12)) c) := hD
      refine w_if_eq (x := 0) hx hb dX7_can_15 (tgt := 22) (by decide) (by decide) (fun _ => ?_) (fun h => absurd h (by decide))
      refine lv_iconst (v := nI (0)) hx hb dX7_can_22 (by decide) ?_
      exact hret (nI (0)) (va_up (va_up v 19 (g19_12)) 21 (g21_12), c) _ _ 23 _ dX7_can_23 rfl (by rw [h20, mL_0, mP_0] at hN_12; exact mx2_of (MI_rd hI ⟨rfl, rfl, rfl, rfl, rfl, rfl, rfl, rfl, rfl, rfl, rfl, rfl, rfl⟩ (hs_12)) (Or.inl ⟨j_2, h_2, rfl, Or.inr ⟨⟨j_12, hj_12, hN_12⟩, rfl⟩⟩) rfl ⟨rfl, rfl, rfl, rfl, rfl, rfl, rfl, rfl, rfl, rfl, rfl, rfl, rfl⟩) hP hD hS
  · skip
    have hP : va_P D vwCl (mW b cI cJ cZ v c) H := hP
    have hD : va_D A (mW b cI cJ cZ v c) := hD
    refine w_if_ne (x := 0) hx hb dX7_can_5 (tgt := 10) (by decide) (by decide) (fun h => absurd h (by decide)) (fun _ => ?_)
    refine lv_iconst (v := -1) hx hb dX7_can_8 (by decide) ?_
    exact hret ((-1)) (v, c) _ _ 9 _ dX7_can_9 rfl (by exact mx2_of (MI_rd hI ⟨rfl, rfl, rfl, rfl, rfl, rfl, rfl, rfl, rfl, rfl, rfl, rfl, rfl⟩ (hsp)) (Or.inr ⟨nR_of (by omega) h_2, rfl⟩) rfl ⟨rfl, rfl, rfl, rfl, rfl, rfl, rfl, rfl, rfl, rfl, rfl, rfl, rfl⟩) hP hD hS

set_option maxHeartbeats 4000000 in
set_option maxRecDepth 100000 in
theorem s_plan (l : Launch) (D : va_G) (b : Nat → Nat) (cI cJ cZ : ClassId) (A : Nat → Prop) (v : Nat → Nat → Nat) (c : Nat → Nat → Int32) (x : Int32) (y : Int32) (z : Int32) (hI : MI v c) :
    mI l yX7_plan wsX7_plan 5 119 [.ref (b 0), .int x, .int y, .int z] D (xT cI cJ cZ) A (mW b cI cJ cZ v c) (fun u : ((Nat → Nat → Nat) × (Nat → Nat → Int32)) => mW b cI cJ cZ u.1 u.2)
    (fun (r : Int32) (u : ((Nat → Nat → Nat) × (Nat → Nat → Int32))) => MI u.1 u.2 ∧ sp_plan (v 5 0) (v 7) (v 16 0) (lA (v 17)) (pA (v 17) (v 18)) (v 6 0) (v 8) (fun d k => v 9 (d * 6 + k)) x y z r ∧ XS (vM v) (cM c) (vM u.1, cM u.2) (v 0 0)) := by
  refine w_bI cX7_plan 4 .int (by decide) rfl (Nat.le_of_ble_eq_true rfl) (Or.inl rfl) ?_
  intro p e s m args below meth c0 ls Q hx hb hml hts hown hK hN hA hret hP hD hS hl
  have hl : lv_has ls 4 [(0, .ref (b 0)), (1, .int x), (2, .int y), (3, .int z)] := hl
  have hinX7 : ∀ w ∈ wsX70, w ∈ wsX7_plan := fun w h => List.mem_cons_of_mem _ (List.mem_append_right _ h)
  obtain ⟨hnb, hnd, hbt, hfg, hne, hnc, hdk, hnf, hkn, hln, hst, hdc, hsp⟩ := MI_o hI
  have h20 : v 20 0 = 0 := hI.2.1
  refine lv_aload_n hx hb dX7_plan_0 rfl (lv_at hl 0 rfl) ?_
  refine lv_iload_n hx hb dX7_plan_1 rfl (lv_at hl 1 rfl) ?_
  refine lv_iload_n hx hb dX7_plan_2 rfl (lv_at hl 2 rfl) ?_
  refine w_cVi (rest := []) hx hb hml hown hts (m_isBeat_R l D b cI cJ cZ A v c x y  (by first | assumption | omega)) 2 gX7_plan_X7_isBeat rfl hdX7_isBeat ⟨Nat.le_of_ble_eq_true rfl, Nat.le_of_ble_eq_true rfl⟩ hK hN hP hD hS hA 0 7 rfl rfl rfl rfl hl.1 rfl (Nat.le_of_ble_eq_true rfl) dX7_plan_3 ⟨Nat.le_of_ble_eq_true rfl, Nat.le_of_ble_eq_true rfl⟩ (fun r u H locs hq hP hD hS => ?_)
  rcases hq with ⟨i_3, j_3, rfl, h_3, hj_3, hs_d_3, hs_k_3⟩ | ⟨rfl, h_3⟩ | ⟨i_3, rfl, h_3, hs_d_3, hk_3⟩
  · skip
    have hP : va_P D vwCl (mW b cI cJ cZ v c) H := hP
    have hD : va_D A (mW b cI cJ cZ v c) := hD
    subst hs_d_3
    have i_3T := n_tI (k := i_3) (by have h9 := hbt _ h_3; omega)
    subst hs_k_3
    have j_3T := n_tI (k := j_3) (by have h9 := hbt _ h_3; omega)
    refine w_if_eq (x := 1) hx hb dX7_plan_6 (tgt := 17) (by decide) (by decide) (fun h => absurd h (by decide)) (fun _ => ?_)
    refine lv_aload_n hx hb dX7_plan_9 rfl (lv_at hl 0 rfl) ?_
    refine lv_iload_n hx hb dX7_plan_10 rfl (lv_at hl 3 rfl) ?_
    refine w_cVi (rest := []) hx hb hml hown hts (m_isDancer_R l D b cI cJ cZ A v c z  (by first | assumption | omega)) 1 gX7_plan_X7_isDancer rfl hdX7_isDancer ⟨Nat.le_of_ble_eq_true rfl, Nat.le_of_ble_eq_true rfl⟩ hK hN hP hD hS hA 0 7 rfl rfl rfl rfl hl.1 rfl (Nat.le_of_ble_eq_true rfl) dX7_plan_11 ⟨Nat.le_of_ble_eq_true rfl, Nat.le_of_ble_eq_true rfl⟩ (fun r u H locs hq hP hD hS => ?_)
    rcases hq with ⟨j_11, rfl, h_11, hs_x_11⟩ | ⟨rfl, h_11⟩
    · skip
      have hP : va_P D vwCl (mW b cI cJ cZ v c) H := hP
      have hD : va_D A (mW b cI cJ cZ v c) := hD
      subst hs_x_11
      have j_11T := n_tI (k := j_11) (by omega)
      refine w_if_ne (x := 1) hx hb dX7_plan_14 (tgt := 19) (by decide) (by decide) (fun _ => ?_) (fun h => absurd h (by decide))
      refine lv_aload_n hx hb dX7_plan_19 rfl (lv_at hl 0 rfl) ?_
      refine lv_iload_n hx hb dX7_plan_20 rfl (lv_at hl 1 rfl) ?_
      refine w_cVi (rest := []) hx hb hml hown hts (m_findPlan l D b cI cJ cZ A v c i_3  (by exact hI.1) (by omega) (by exact h_3)) 1 gX7_plan_X7_findPlan rfl hdX7_findPlan ⟨Nat.le_of_ble_eq_true rfl, Nat.le_of_ble_eq_true rfl⟩ hK hN hP hD hS hA 0 7 rfl rfl rfl rfl hl.1 rfl (Nat.le_of_ble_eq_true rfl) dX7_plan_21 ⟨Nat.le_of_ble_eq_true rfl, Nat.le_of_ble_eq_true rfl⟩ (fun r u H locs hq hP hD hS => ?_)
      rcases hq with ⟨g19_21, g21_21, rfl, rfl, hs_21, hF_21⟩ | ⟨g19_21, g21_21, j_21, rfl, rfl, hs_21, hj_21, hN_21⟩
      · skip
        have hP : va_P D vwCl (mW b cI cJ cZ (va_up (va_up v 19 (g19_21)) 21 (g21_21)) c) H := hP
        have hD : va_D A (mW b cI cJ cZ (va_up (va_up v 19 (g19_21)) 21 (g21_21)) c) := hD
        refine w_if_eq (x := 1) hx hb dX7_plan_24 (tgt := 40) (by decide) (by decide) (fun h => absurd h (by decide)) (fun _ => ?_)
        have hbd := hbt _ h_3
        refine lv_aload_n hx hb dX7_plan_27 rfl (lv_at hl 0 rfl) ?_
        refine va_get (D := D) (ci := 7) (v := .ref (b 19)) (C := RX7) (T := TX7) (N := 24) hx hb hts hinX7 hown hK hP 0 rfl rfl 19 (by decide) (hts (.fieldLink RX7 43 "DancedLockModel" "plan" "[I") (List.mem_of_getElem? (i := 1) rfl)) (fun _ h9 => h9) rfl dX7_plan_28 ?_
        refine lv_iconst (v := nI (4)) hx hb dX7_plan_31 (by decide) ?_
        refine lv_iload_n hx hb dX7_plan_32 rfl (lv_at hl 2 rfl) ?_
        refine w_imul (x := 4) (y := j_3) hx hb dX7_plan_33  ?_
        refine lv_iload_n hx hb dX7_plan_34 rfl (lv_at hl 3 rfl) ?_
        refine w_iadd (x := 4 * j_3) (y := j_11) hx hb dX7_plan_35  ?_
        rw [show (nI (4 * j_3 + j_11)) = (nI (j_3 * 4 + j_11)) from congrArg nI (by omega)]
        refine w_iald (f := g19_21) hx hb hK hP 12 0 rfl rfl (i := j_3 * 4 + j_11) (by omega) (by decide) dX7_plan_36 ?_
        refine lv_goto (tgt := 42) hx hb dX7_plan_37 (by decide) ?_
        exact hret (nI (g19_21 (j_3 * 4 + j_11))) (va_up (va_up v 19 (g19_21)) 21 (g21_21), c) _ _ 42 _ dX7_plan_42 rfl (by rw [h20, mL_0, mP_0] at hF_21; exact mx2_of (MI_rd hI ⟨rfl, rfl, rfl, rfl, rfl, rfl, rfl, rfl, rfl, rfl, rfl, rfl, rfl⟩ (hs_21)) (Or.inl ⟨i_3, j_3, j_11, h_3, hj_3, h_11, rfl, rfl, rfl, Or.inl ⟨g19_21, hF_21, rfl⟩⟩) rfl ⟨rfl, rfl, rfl, rfl, rfl, rfl, rfl, rfl, rfl, rfl, rfl, rfl, rfl⟩) hP hD hS
      · skip
        have hP : va_P D vwCl (mW b cI cJ cZ (va_up (va_up v 19 (g19_21)) 21 (g21_21)) c) H := hP
        have hD : va_D A (mW b cI cJ cZ (va_up (va_up v 19 (g19_21)) 21 (g21_21)) c) := hD
        refine w_if_eq (x := 0) hx hb dX7_plan_24 (tgt := 40) (by decide) (by decide) (fun _ => ?_) (fun h => absurd h (by decide))
        refine lv_bipush (v := -9) hx hb dX7_plan_40 (by decide) ?_
        exact hret ((-9)) (va_up (va_up v 19 (g19_21)) 21 (g21_21), c) _ _ 42 _ dX7_plan_42 rfl (by rw [h20, mL_0, mP_0] at hN_21; exact mx2_of (MI_rd hI ⟨rfl, rfl, rfl, rfl, rfl, rfl, rfl, rfl, rfl, rfl, rfl, rfl, rfl⟩ (hs_21)) (Or.inl ⟨i_3, j_3, j_11, h_3, hj_3, h_11, rfl, rfl, rfl, Or.inr ⟨⟨j_21, hj_21, hN_21⟩, rfl⟩⟩) rfl ⟨rfl, rfl, rfl, rfl, rfl, rfl, rfl, rfl, rfl, rfl, rfl, rfl, rfl⟩) hP hD hS
    · skip
      have hP : va_P D vwCl (mW b cI cJ cZ v c) H := hP
      have hD : va_D A (mW b cI cJ cZ v c) := hD
      refine w_if_ne (x := 0) hx hb dX7_plan_14 (tgt := 19) (by decide) (by decide) (fun h => absurd h (by decide)) (fun _ => ?_)
      refine lv_iconst (v := -1) hx hb dX7_plan_17 (by decide) ?_
      exact hret ((-1)) (v, c) _ _ 18 _ dX7_plan_18 rfl (by first | (exact mx2_of (MI_rd hI ⟨rfl, rfl, rfl, rfl, rfl, rfl, rfl, rfl, rfl, rfl, rfl, rfl, rfl⟩ (hsp)) (Or.inr ⟨fun ⟨d1, j1, e1, q1, q2, q3, q4, q5, q6⟩ => nR_of (by omega) h_11 ⟨e1, q3, q6⟩, rfl⟩) rfl ⟨rfl, rfl, rfl, rfl, rfl, rfl, rfl, rfl, rfl, rfl, rfl, rfl, rfl⟩) | (exact mx2_of (MI_rd hI ⟨rfl, rfl, rfl, rfl, rfl, rfl, rfl, rfl, rfl, rfl, rfl, rfl, rfl⟩ (hsp)) (Or.inr ⟨fun ⟨d1, j1, e1, q1, q2, q3, q4, q5, q6⟩ => nR_of (by omega) h_3 ⟨d1, q1, q4⟩, rfl⟩) rfl ⟨rfl, rfl, rfl, rfl, rfl, rfl, rfl, rfl, rfl, rfl, rfl, rfl, rfl⟩) | (exact mx2_of (MI_rd hI ⟨rfl, rfl, rfl, rfl, rfl, rfl, rfl, rfl, rfl, rfl, rfl, rfl, rfl⟩ (hsp)) (Or.inr ⟨fun ⟨d1, j1, e1, q1, q2, q3, q4, q5, q6⟩ => nR_of (by have h9 := hbt _ h_3; omega) hk_3 ⟨j1, by rw [(n_inj (a := i_3) (b := d1) (by omega) (by omega)).mp q4]; exact q2, q5⟩, rfl⟩) rfl ⟨rfl, rfl, rfl, rfl, rfl, rfl, rfl, rfl, rfl, rfl, rfl, rfl, rfl⟩)) hP hD hS
  · skip
    have hP : va_P D vwCl (mW b cI cJ cZ v c) H := hP
    have hD : va_D A (mW b cI cJ cZ v c) := hD
    refine w_if_eq (x := 0) hx hb dX7_plan_6 (tgt := 17) (by decide) (by decide) (fun _ => ?_) (fun h => absurd h (by decide))
    refine lv_iconst (v := -1) hx hb dX7_plan_17 (by decide) ?_
    exact hret ((-1)) (v, c) _ _ 18 _ dX7_plan_18 rfl (by first | (exact mx2_of (MI_rd hI ⟨rfl, rfl, rfl, rfl, rfl, rfl, rfl, rfl, rfl, rfl, rfl, rfl, rfl⟩ (hsp)) (Or.inr ⟨fun ⟨d1, j1, e1, q1, q2, q3, q4, q5, q6⟩ => nR_of (by omega) h_11 ⟨e1, q3, q6⟩, rfl⟩) rfl ⟨rfl, rfl, rfl, rfl, rfl, rfl, rfl, rfl, rfl, rfl, rfl, rfl, rfl⟩) | (exact mx2_of (MI_rd hI ⟨rfl, rfl, rfl, rfl, rfl, rfl, rfl, rfl, rfl, rfl, rfl, rfl, rfl⟩ (hsp)) (Or.inr ⟨fun ⟨d1, j1, e1, q1, q2, q3, q4, q5, q6⟩ => nR_of (by omega) h_3 ⟨d1, q1, q4⟩, rfl⟩) rfl ⟨rfl, rfl, rfl, rfl, rfl, rfl, rfl, rfl, rfl, rfl, rfl, rfl, rfl⟩) | (exact mx2_of (MI_rd hI ⟨rfl, rfl, rfl, rfl, rfl, rfl, rfl, rfl, rfl, rfl, rfl, rfl, rfl⟩ (hsp)) (Or.inr ⟨fun ⟨d1, j1, e1, q1, q2, q3, q4, q5, q6⟩ => nR_of (by have h9 := hbt _ h_3; omega) hk_3 ⟨j1, by rw [(n_inj (a := i_3) (b := d1) (by omega) (by omega)).mp q4]; exact q2, q5⟩, rfl⟩) rfl ⟨rfl, rfl, rfl, rfl, rfl, rfl, rfl, rfl, rfl, rfl, rfl, rfl, rfl⟩)) hP hD hS
  · skip
    have hP : va_P D vwCl (mW b cI cJ cZ v c) H := hP
    have hD : va_D A (mW b cI cJ cZ v c) := hD
    subst hs_d_3
    have i_3T := n_tI (k := i_3) (by have h9 := hbt _ h_3; omega)
    refine w_if_eq (x := 0) hx hb dX7_plan_6 (tgt := 17) (by decide) (by decide) (fun _ => ?_) (fun h => absurd h (by decide))
    refine lv_iconst (v := -1) hx hb dX7_plan_17 (by decide) ?_
    exact hret ((-1)) (v, c) _ _ 18 _ dX7_plan_18 rfl (by first | (exact mx2_of (MI_rd hI ⟨rfl, rfl, rfl, rfl, rfl, rfl, rfl, rfl, rfl, rfl, rfl, rfl, rfl⟩ (hsp)) (Or.inr ⟨fun ⟨d1, j1, e1, q1, q2, q3, q4, q5, q6⟩ => nR_of (by omega) h_11 ⟨e1, q3, q6⟩, rfl⟩) rfl ⟨rfl, rfl, rfl, rfl, rfl, rfl, rfl, rfl, rfl, rfl, rfl, rfl, rfl⟩) | (exact mx2_of (MI_rd hI ⟨rfl, rfl, rfl, rfl, rfl, rfl, rfl, rfl, rfl, rfl, rfl, rfl, rfl⟩ (hsp)) (Or.inr ⟨fun ⟨d1, j1, e1, q1, q2, q3, q4, q5, q6⟩ => nR_of (by omega) h_3 ⟨d1, q1, q4⟩, rfl⟩) rfl ⟨rfl, rfl, rfl, rfl, rfl, rfl, rfl, rfl, rfl, rfl, rfl, rfl, rfl⟩) | (exact mx2_of (MI_rd hI ⟨rfl, rfl, rfl, rfl, rfl, rfl, rfl, rfl, rfl, rfl, rfl, rfl, rfl⟩ (hsp)) (Or.inr ⟨fun ⟨d1, j1, e1, q1, q2, q3, q4, q5, q6⟩ => nR_of (by have h9 := hbt _ h_3; omega) hk_3 ⟨j1, by rw [(n_inj (a := i_3) (b := d1) (by omega) (by omega)).mp q4]; exact q2, q5⟩, rfl⟩) rfl ⟨rfl, rfl, rfl, rfl, rfl, rfl, rfl, rfl, rfl, rfl, rfl, rfl, rfl⟩)) hP hD hS

set_option maxHeartbeats 4000000 in
set_option maxRecDepth 100000 in
theorem s_limped (l : Launch) (D : va_G) (b : Nat → Nat) (cI cJ cZ : ClassId) (A : Nat → Prop) (v : Nat → Nat → Nat) (c : Nat → Nat → Int32) (x : Int32) (hI : MI v c) :
    mI l yX7_limped wsX7_limped 5 119 [.ref (b 0), .int x] D (xT cI cJ cZ) A (mW b cI cJ cZ v c) (fun u : ((Nat → Nat → Nat) × (Nat → Nat → Int32)) => mW b cI cJ cZ u.1 u.2)
    (fun (r : Int32) (u : ((Nat → Nat → Nat) × (Nat → Nat → Int32))) => MI u.1 u.2 ∧ sp_limped (v 5 0) (v 7) (v 16 0) (v 17) (v 18) (v 6 0) (v 8) (fun d k => v 9 (d * 6 + k)) x r ∧ XS (vM v) (cM c) (vM u.1, cM u.2) (v 0 0)) := by
  refine w_bI cX7_limped 3 .int (by decide) rfl (Nat.le_of_ble_eq_true rfl) (Or.inl rfl) ?_
  intro p e s m args below meth c0 ls Q hx hb hml hts hown hK hN hA hret hP hD hS hl
  have hl : lv_has ls 3 [(0, .ref (b 0)), (1, .int x)] := hl
  have hinX7 : ∀ w ∈ wsX70, w ∈ wsX7_limped := fun w h => List.mem_cons_of_mem _ (List.mem_append_right _ h)
  obtain ⟨hnb, hnd, hbt, hfg, hne, hnc, hdk, hnf, hkn, hln, hst, hdc, hsp⟩ := MI_o hI
  have h20 : v 20 0 = 0 := hI.2.1
  refine lv_aload_n hx hb dX7_limped_0 rfl (lv_at hl 0 rfl) ?_
  refine lv_iload_n hx hb dX7_limped_1 rfl (lv_at hl 1 rfl) ?_
  refine w_cVi (rest := []) hx hb hml hown hts (m_isDoor_R l D b cI cJ cZ A v c x  (by first | assumption | omega)) 1 gX7_limped_X7_isDoor rfl hdX7_isDoor ⟨Nat.le_of_ble_eq_true rfl, Nat.le_of_ble_eq_true rfl⟩ hK hN hP hD hS hA 0 7 rfl rfl rfl rfl hl.1 rfl (Nat.le_of_ble_eq_true rfl) dX7_limped_2 ⟨Nat.le_of_ble_eq_true rfl, Nat.le_of_ble_eq_true rfl⟩ (fun r u H locs hq hP hD hS => ?_)
  rcases hq with ⟨j_2, rfl, h_2, hs_x_2⟩ | ⟨rfl, h_2⟩
  · skip
    have hP : va_P D vwCl (mW b cI cJ cZ v c) H := hP
    have hD : va_D A (mW b cI cJ cZ v c) := hD
    subst hs_x_2
    have j_2T := n_tI (k := j_2) (by omega)
    refine w_if_ne (x := 1) hx hb dX7_limped_5 (tgt := 10) (by decide) (by decide) (fun _ => ?_) (fun h => absurd h (by decide))
    refine lv_aload_n hx hb dX7_limped_10 rfl (lv_at hl 0 rfl) ?_
    refine lv_iconst (v := nI (1)) hx hb dX7_limped_11 (by decide) ?_
    refine va_put (D := D) (ci := 7) (v := .int (nI (1))) (ty := .boolean) (C := RX7) (T := TX7) (N := 24) hx hb hts hinX7 tyX7 tyX7_ok nmX7 hown hK hP hD hS 0 rfl rfl 20 (by decide) (hts (.fieldLink RX7 139 "DancedLockModel" "areWhole" "Z") (List.mem_of_getElem? (i := 1) rfl)) (fun _ h9 => h9) rfl (by decide +kernel) rfl (rfl) (Nat.le_of_ble_eq_true rfl) dX7_limped_12 (fun H locs hP hD hS => ?_)
    have hP : va_P D vwCl (mW b cI cJ cZ (va_up v 20 (va_up (v 20) 0 (1))) c) H := hP
    have hD : va_D A (mW b cI cJ cZ (va_up v 20 (va_up (v 20) 0 (1))) c) := hD
    refine lv_aload_n hx hb dX7_limped_15 rfl (lv_at hl 0 rfl) ?_
    refine lv_iload_n hx hb dX7_limped_16 rfl (lv_at hl 1 rfl) ?_
    refine w_cVi (rest := []) hx hb hml hown hts (m_findPlan l D b cI cJ cZ A (va_up v 20 (va_up (v 20) 0 (1))) c j_2  (by show XI (vM (va_up v 20 (va_up (v 20) 0 (1)))); exact MX_i ⟨hnb, hnd, hbt, hfg, hne, hnc, hdk, hnf, hkn, hln, hst, hdc, hsp⟩) (by show 1 ≤ 1; decide) (by show j_2 < (v 6 0); exact h_2)) 1 gX7_limped_X7_findPlan rfl hdX7_findPlan ⟨Nat.le_of_ble_eq_true rfl, Nat.le_of_ble_eq_true rfl⟩ hK hN hP hD hS hA 0 7 rfl rfl rfl rfl hl.1 rfl (Nat.le_of_ble_eq_true rfl) dX7_limped_17 ⟨Nat.le_of_ble_eq_true rfl, Nat.le_of_ble_eq_true rfl⟩ (fun r u H locs hq hP hD hS => ?_)
    rcases hq with ⟨g19_17, g21_17, rfl, rfl, hs_17, hF_17⟩ | ⟨g19_17, g21_17, j_17, rfl, rfl, hs_17, hj_17, hN_17⟩
    · skip
      have hF_17 : ∀ j, j % 2 = 0 → j < (v 8) j_2 → FSTb ((v 5 0)) ((v 7)) ((v 16 0)) (mL (1) ((v 17))) (mP (1) ((v 17)) ((v 18))) (fun j => (v 9) (j_2 * 6 + j)) ((v 8) j_2) g19_17 j := hF_17
      have hP : va_P D vwCl (mW b cI cJ cZ (va_up (va_up (va_up v 19 (g19_17)) 20 (va_up (v 20) 0 (1))) 21 (g21_17)) c) H := hP
      have hD : va_D A (mW b cI cJ cZ (va_up (va_up (va_up v 19 (g19_17)) 20 (va_up (v 20) 0 (1))) 21 (g21_17)) c) := hD
      refine lv_istore_n (lv' := [(2, .int (nI (1))), (0, .ref (b 0)), (1, .int (nI (j_2)))]) hx hb dX7_limped_20 rfl hl (by decide) rfl (fun ls hl => ?_)
      refine lv_aload_n hx hb dX7_limped_21 rfl (lv_at hl 1 rfl) ?_
      refine lv_iconst (v := nI (0)) hx hb dX7_limped_22 (by decide) ?_
      refine va_put (D := D) (ci := 7) (v := .int (nI (0))) (ty := .boolean) (C := RX7) (T := TX7) (N := 24) hx hb hts hinX7 tyX7 tyX7_ok nmX7 hown hK hP hD hS 0 rfl rfl 20 (by decide) (hts (.fieldLink RX7 139 "DancedLockModel" "areWhole" "Z") (List.mem_of_getElem? (i := 1) rfl)) (fun _ h9 => h9) rfl (by decide +kernel) rfl (rfl) (Nat.le_of_ble_eq_true rfl) dX7_limped_23 (fun H locs hP hD hS => ?_)
      have hP : va_P D vwCl (mW b cI cJ cZ (va_up (va_up (va_up v 19 (g19_17)) 20 (va_up (v 20) 0 (0))) 21 (g21_17)) c) H := hP
      have hD : va_D A (mW b cI cJ cZ (va_up (va_up (va_up v 19 (g19_17)) 20 (va_up (v 20) 0 (0))) 21 (g21_17)) c) := hD
      refine lv_iload_n hx hb dX7_limped_26 rfl (lv_at hl 0 rfl) ?_
      refine w_if_eq (x := 1) hx hb dX7_limped_27 (tgt := 43) (by decide) (by decide) (fun h => absurd h (by decide)) (fun _ => ?_)
      refine lv_aload_n hx hb dX7_limped_30 rfl (lv_at hl 1 rfl) ?_
      refine lv_aload_n hx hb dX7_limped_31 rfl (lv_at hl 1 rfl) ?_
      refine va_get (D := D) (ci := 7) (v := .ref (b 8)) (C := RX7) (T := TX7) (N := 24) hx hb hts hinX7 hown hK hP 0 rfl rfl 8 (by decide) (hts (.fieldLink RX7 22 "DancedLockModel" "beats" "[I") (List.mem_of_getElem? (i := 2) rfl)) (fun _ h9 => h9) rfl dX7_limped_32 ?_
      refine lv_iload_n hx hb dX7_limped_35 rfl (lv_at hl 2 rfl) ?_
      refine w_iald (f := v 8) hx hb hK hP 5 0 rfl rfl (i := j_2) (by omega) (by decide) dX7_limped_36 ?_
      refine w_cVi (rest := []) hx hb hml hown hts (m_openedBy l D b cI cJ cZ A (va_up (va_up (va_up v 19 (g19_17)) 20 (va_up (v 20) 0 (0))) 21 (g21_17)) c (v 8 j_2)  (by show XI (vM (va_up (va_up (va_up v 19 (g19_17)) 20 (va_up (v 20) 0 (0))) 21 (g21_17))); exact MX_i ⟨hnb, hnd, hbt, hfg, hne, hnc, hdk, hnf, hkn, hln, hst, hdc, hs_17⟩) (by show 0 ≤ 1; decide) (by exact (hbt _ h_2).2)) 1 gX7_limped_X7_openedBy rfl hdX7_openedBy ⟨Nat.le_of_ble_eq_true rfl, Nat.le_of_ble_eq_true rfl⟩ hK hN hP hD hS hA 0 7 rfl rfl rfl rfl hl.1 rfl (Nat.le_of_ble_eq_true rfl) dX7_limped_37 ⟨Nat.le_of_ble_eq_true rfl, Nat.le_of_ble_eq_true rfl⟩ (fun r u H locs hq hP hD hS => ?_)
      rcases hq with ⟨d_37, rfl, h1_37, h2_37, h3_37⟩ | ⟨rfl, h3_37⟩
      · skip
        have h1_37 : d_37 < (v 6 0) := h1_37
        have h2_37 : opd ((v 5 0)) ((v 7)) ((v 16 0)) (mL (0) ((v 17))) (mP (0) ((v 17)) ((v 18))) (g19_17) ((v 8)) (fun d_37 k => (v 9) (d_37 * 6 + k)) (v 8 j_2) d_37 := h2_37
        have h3_37 : ∀ e, e < d_37 → ¬ opd ((v 5 0)) ((v 7)) ((v 16 0)) (mL (0) ((v 17))) (mP (0) ((v 17)) ((v 18))) (g19_17) ((v 8)) (fun d_37 k => (v 9) (d_37 * 6 + k)) (v 8 j_2) e := h3_37
        have hP : va_P D vwCl (mW b cI cJ cZ (va_up (va_up (va_up v 19 (g19_17)) 20 (va_up (v 20) 0 (0))) 21 (g21_17)) c) H := hP
        have hD : va_D A (mW b cI cJ cZ (va_up (va_up (va_up v 19 (g19_17)) 20 (va_up (v 20) 0 (0))) 21 (g21_17)) c) := hD
        refine lv_goto (tgt := 45) hx hb dX7_limped_40 (by decide) ?_
        exact hret (nI (d_37)) (va_up (va_up (va_up v 19 (g19_17)) 20 (va_up (v 20) 0 (0))) 21 (g21_17), c) _ _ 45 _ dX7_limped_45 rfl (by rw [mL_1, mP_1] at hF_17; rw [mL_0, mP_0] at h2_37 h3_37; exact mx2_of (MI_mk hI ⟨rfl, rfl, rfl, rfl, rfl, rfl, rfl, rfl, rfl, rfl⟩ hln hs_17 rfl hI.2.2) (Or.inl ⟨j_2, h_2, rfl, Or.inl ⟨g19_17, hF_17, Or.inl ⟨d_37, h1_37, rfl, h2_37, h3_37⟩⟩⟩) rfl ⟨rfl, rfl, rfl, rfl, rfl, rfl, rfl, rfl, rfl, rfl, rfl, rfl, rfl⟩) hP hD hS
      · skip
        have h3_37 : ∀ e, e < (v 6 0) → ¬ opd ((v 5 0)) ((v 7)) ((v 16 0)) (mL (0) ((v 17))) (mP (0) ((v 17)) ((v 18))) (g19_17) ((v 8)) (fun d k => (v 9) (d * 6 + k)) (v 8 j_2) e := h3_37
        have hP : va_P D vwCl (mW b cI cJ cZ (va_up (va_up (va_up v 19 (g19_17)) 20 (va_up (v 20) 0 (0))) 21 (g21_17)) c) H := hP
        have hD : va_D A (mW b cI cJ cZ (va_up (va_up (va_up v 19 (g19_17)) 20 (va_up (v 20) 0 (0))) 21 (g21_17)) c) := hD
        refine lv_goto (tgt := 45) hx hb dX7_limped_40 (by decide) ?_
        exact hret (-9) (va_up (va_up (va_up v 19 (g19_17)) 20 (va_up (v 20) 0 (0))) 21 (g21_17), c) _ _ 45 _ dX7_limped_45 rfl (by rw [mL_1, mP_1] at hF_17; rw [mL_0, mP_0] at h3_37; exact mx2_of (MI_mk hI ⟨rfl, rfl, rfl, rfl, rfl, rfl, rfl, rfl, rfl, rfl⟩ hln hs_17 rfl hI.2.2) (Or.inl ⟨j_2, h_2, rfl, Or.inl ⟨g19_17, hF_17, Or.inr ⟨rfl, h3_37⟩⟩⟩) rfl ⟨rfl, rfl, rfl, rfl, rfl, rfl, rfl, rfl, rfl, rfl, rfl, rfl, rfl⟩) hP hD hS
    · skip
      have hj_17 : j_17 % 2 = 0 ∧ j_17 < (v 8) j_2 := hj_17
      have hN_17 : NFb ((v 5 0)) ((v 7)) ((v 16 0)) (mL (1) ((v 17))) (mP (1) ((v 17)) ((v 18))) (fun j_17 => (v 9) (j_2 * 6 + j_17)) ((v 8) j_2) j_17 := hN_17
      have hP : va_P D vwCl (mW b cI cJ cZ (va_up (va_up (va_up v 19 (g19_17)) 20 (va_up (v 20) 0 (1))) 21 (g21_17)) c) H := hP
      have hD : va_D A (mW b cI cJ cZ (va_up (va_up (va_up v 19 (g19_17)) 20 (va_up (v 20) 0 (1))) 21 (g21_17)) c) := hD
      refine lv_istore_n (lv' := [(2, .int (nI (0))), (0, .ref (b 0)), (1, .int (nI (j_2)))]) hx hb dX7_limped_20 rfl hl (by decide) rfl (fun ls hl => ?_)
      refine lv_aload_n hx hb dX7_limped_21 rfl (lv_at hl 1 rfl) ?_
      refine lv_iconst (v := nI (0)) hx hb dX7_limped_22 (by decide) ?_
      refine va_put (D := D) (ci := 7) (v := .int (nI (0))) (ty := .boolean) (C := RX7) (T := TX7) (N := 24) hx hb hts hinX7 tyX7 tyX7_ok nmX7 hown hK hP hD hS 0 rfl rfl 20 (by decide) (hts (.fieldLink RX7 139 "DancedLockModel" "areWhole" "Z") (List.mem_of_getElem? (i := 1) rfl)) (fun _ h9 => h9) rfl (by decide +kernel) rfl (rfl) (Nat.le_of_ble_eq_true rfl) dX7_limped_23 (fun H locs hP hD hS => ?_)
      have hP : va_P D vwCl (mW b cI cJ cZ (va_up (va_up (va_up v 19 (g19_17)) 20 (va_up (v 20) 0 (0))) 21 (g21_17)) c) H := hP
      have hD : va_D A (mW b cI cJ cZ (va_up (va_up (va_up v 19 (g19_17)) 20 (va_up (v 20) 0 (0))) 21 (g21_17)) c) := hD
      refine lv_iload_n hx hb dX7_limped_26 rfl (lv_at hl 0 rfl) ?_
      refine w_if_eq (x := 0) hx hb dX7_limped_27 (tgt := 43) (by decide) (by decide) (fun _ => ?_) (fun h => absurd h (by decide))
      refine lv_bipush (v := -3) hx hb dX7_limped_43 (by decide) ?_
      exact hret ((-3)) (va_up (va_up (va_up v 19 (g19_17)) 20 (va_up (v 20) 0 (0))) 21 (g21_17), c) _ _ 45 _ dX7_limped_45 rfl (by rw [mL_1, mP_1] at hN_17; exact mx2_of (MI_mk hI ⟨rfl, rfl, rfl, rfl, rfl, rfl, rfl, rfl, rfl, rfl⟩ hln hs_17 rfl hI.2.2) (Or.inl ⟨j_2, h_2, rfl, Or.inr ⟨⟨j_17, hj_17, hN_17⟩, rfl⟩⟩) rfl ⟨rfl, rfl, rfl, rfl, rfl, rfl, rfl, rfl, rfl, rfl, rfl, rfl, rfl⟩) hP hD hS
  · skip
    have hP : va_P D vwCl (mW b cI cJ cZ v c) H := hP
    have hD : va_D A (mW b cI cJ cZ v c) := hD
    refine w_if_ne (x := 0) hx hb dX7_limped_5 (tgt := 10) (by decide) (by decide) (fun h => absurd h (by decide)) (fun _ => ?_)
    refine lv_iconst (v := -1) hx hb dX7_limped_8 (by decide) ?_
    exact hret ((-1)) (v, c) _ _ 9 _ dX7_limped_9 rfl (by exact mx2_of (MI_rd hI ⟨rfl, rfl, rfl, rfl, rfl, rfl, rfl, rfl, rfl, rfl, rfl, rfl, rfl⟩ (hsp)) (Or.inr ⟨nR_of (by omega) h_2, rfl⟩) rfl ⟨rfl, rfl, rfl, rfl, rfl, rfl, rfl, rfl, rfl, rfl, rfl, rfl, rfl⟩) hP hD hS

set_option maxHeartbeats 4000000 in
set_option maxRecDepth 100000 in
theorem s_plans (l : Launch) (D : va_G) (b : Nat → Nat) (cI cJ cZ : ClassId) (A : Nat → Prop) (v : Nat → Nat → Nat) (c : Nat → Nat → Int32) (x : Int32) (y : Int32) (hI : MI v c) :
    mJ l yX7_plans wsX7_plans 2 48 [.ref (b 0), .int x, .int y] D (xT cI cJ cZ) A (mW b cI cJ cZ v c) (fun u : ((Nat → Nat → Nat) × (Nat → Nat → Int32)) => mW b cI cJ cZ u.1 u.2)
    (fun (r : Int64) (u : ((Nat → Nat → Nat) × (Nat → Nat → Int32))) => MI u.1 u.2 ∧ sp_plans (v 5 0) (v 7) (v 16 0) (lA (v 17)) (pA (v 17) (v 18)) (v 6 0) (v 8) (fun d k => v 9 (d * 6 + k)) x y r ∧ XS (vM v) (cM c) (vM u.1, cM u.2) (v 0 0)) := by
  refine w_bJ cX7_plans 7 (by decide) rfl (Nat.le_of_ble_eq_true rfl) ?_
  intro p e s m args below meth c0 ls Q hx hb hml hts hown hK hN hA hret hP hD hS hl
  have hl : lv_has ls 7 [(0, .ref (b 0)), (1, .int x), (2, .int y)] := hl
  have hinX7 : ∀ w ∈ wsX70, w ∈ wsX7_plans := fun w h => List.mem_cons_of_mem _ (List.mem_append_right _ h)
  obtain ⟨hnb, hnd, hbt, hfg, hne, hnc, hdk, hnf, hkn, hln, hst, hdc, hsp⟩ := MI_o hI
  have h20 : v 20 0 = 0 := hI.2.1
  refine lv_aload_n hx hb dX7_plans_0 rfl (lv_at hl 0 rfl) ?_
  refine lv_iload_n hx hb dX7_plans_1 rfl (lv_at hl 1 rfl) ?_
  refine lv_iload_n hx hb dX7_plans_2 rfl (lv_at hl 2 rfl) ?_
  refine w_cVi (rest := []) hx hb hml hown hts (m_isBeat_R l D b cI cJ cZ A v c x y  (by first | assumption | omega)) 2 gX7_plans_X7_isBeat rfl hdX7_isBeat ⟨Nat.le_of_ble_eq_true rfl, Nat.le_of_ble_eq_true rfl⟩ hK hN hP hD hS hA 0 7 rfl rfl rfl rfl hl.1 rfl (Nat.le_of_ble_eq_true rfl) dX7_plans_3 ⟨Nat.le_of_ble_eq_true rfl, Nat.le_of_ble_eq_true rfl⟩ (fun r u H locs hq hP hD hS => ?_)
  rcases hq with ⟨i_3, j_3, rfl, h_3, hj_3, hs_d_3, hs_k_3⟩ | ⟨rfl, h_3⟩ | ⟨i_3, rfl, h_3, hs_d_3, hk_3⟩
  · skip
    have hP : va_P D vwCl (mW b cI cJ cZ v c) H := hP
    have hD : va_D A (mW b cI cJ cZ v c) := hD
    subst hs_d_3
    have i_3T := n_tI (k := i_3) (by have h9 := hbt _ h_3; omega)
    subst hs_k_3
    have j_3T := n_tI (k := j_3) (by have h9 := hbt _ h_3; omega)
    refine w_if_ne (x := 1) hx hb dX7_plans_6 (tgt := 13) (by decide) (by decide) (fun _ => ?_) (fun h => absurd h (by decide))
    have hbd := hbt _ h_3
    have hnb0 : 0 < v 5 0 := (by omega)
    have hcn := cnq_2401 (fr := frk (mL (v 20 0) (v 17)) 0) (n := v 16 0) hnb hnc
    have hp7 := pow_le_128 hnb
    refine lv_lconst (v := lN 0) hx hb dX7_plans_13 (by decide) ?_
    refine lv_lstore_n (lv' := [(3, .long (lN (0))), (0, .ref (b 0)), (1, .int (nI (i_3))), (2, .int (nI (j_3)))]) hx hb dX7_plans_14 rfl hl (by decide) rfl (fun ls hl => ?_)
    refine lv_aload_n hx hb dX7_plans_15 rfl (lv_at hl 1 rfl) ?_
    refine lv_iconst (v := nI (0)) hx hb dX7_plans_16 (by decide) ?_
    refine w_cVi (rest := []) hx hb hml hown hts (m_rows l D b cI cJ cZ A v c 0  (by exact hI.1) (by omega) (by decide)) 1 gX7_plans_X7_rows rfl hdX7_rows ⟨Nat.le_of_ble_eq_true rfl, Nat.le_of_ble_eq_true rfl⟩ hK hN hP hD hS hA 0 7 rfl rfl rfl rfl hl.1 rfl (Nat.le_of_ble_eq_true rfl) dX7_plans_17 ⟨Nat.le_of_ble_eq_true rfl, Nat.le_of_ble_eq_true rfl⟩ (fun r u H locs hq hP hD hS => ?_)
    obtain rfl := hq
    have hP : va_P D vwCl (mW b cI cJ cZ v c) H := hP
    have hD : va_D A (mW b cI cJ cZ v c) := hD
    refine lv_istore (lv' := [(5, .int (nI (cnq ((v 5 0)) (frk (mL ((v 20 0)) ((v 17))) 0) ((v 16 0))))), (3, .long (lN (0))), (0, .ref (b 0)), (1, .int (nI (i_3))), (2, .int (nI (j_3)))]) hx hb dX7_plans_20 hl (by decide) rfl (fun ls hl => ?_)
    refine lv_iconst (v := nI (0)) hx hb dX7_plans_22 (by decide) ?_
    refine lv_istore (lv' := [(6, .int (nI (0))), (5, .int (nI (cnq ((v 5 0)) (frk (mL ((v 20 0)) ((v 17))) 0) ((v 16 0))))), (3, .long (lN (0))), (0, .ref (b 0)), (1, .int (nI (i_3))), (2, .int (nI (j_3)))]) hx hb dX7_plans_23 hl (by decide) rfl (fun ls hl => ?_)
    have L25 : ∀ (n : Nat) (i : Nat) (n1 : Nat) (g19 : Nat → Nat) (H : Heap) (locs : List Loc) (ls : Array Slot), (cnq (v 5 0) (frk (mL (v 20 0) (v 17)) 0) (v 16 0)) - i < n → (i ≤ cnq (v 5 0) (frk (mL (v 20 0) (v 17)) 0) (v 16 0)) → (n1 = sm (icr (v 5 0) (v 7) (v 16 0) (mL (v 20 0) (v 17)) (mP (v 20 0) (v 17) (v 18)) (v 9 (i_3 * 6 + j_3))) i) → (∀ q, q < 24 → g19 q < 8) → va_P D vwCl (mW b cI cJ cZ (va_up v 19 (g19)) c) H → va_D A (mW b cI cJ cZ (va_up v 19 (g19)) c) → va_S A s.heap H locs → lv_has ls 7 [(3, .long (lN (n1))), (6, .int (nI (i))), (0, .ref (b 0)), (1, .int (nI (i_3))), (2, .int (nI (j_3))), (5, .int (nI (cnq ((v 5 0)) (frk (mL ((v 20 0)) ((v 17))) 0) ((v 16 0)))))] → W p l e { frames := 2, cells := 0, slots := 0, locals := 48 } s m args below meth c0 H locs 0 0 Q (F0 m 25 ls []) := by
      intro n
      induction n with
      | zero => intro i n1 g19 H locs ls hm; exact absurd hm (Nat.not_lt_zero _)
      | succ n ih25 =>
        intro i n1 g19 H locs ls hm25 h1 h2 hs hP hD hS hl
        refine lv_iload hx hb dX7_plans_25 (lv_at hl 1 rfl) ?_
        refine lv_iload hx hb dX7_plans_27 (lv_at hl 5 rfl) ?_
        refine w_icmp_ge (x := i) (y := cnq ((v 5 0)) (frk (mL ((v 20 0)) ((v 17))) 0) ((v 16 0))) hx hb dX7_plans_29 (tgt := 71) (by decide) (by omega) (by omega) (fun c29 => ?_) (fun c29 => ?_)
        · skip
          refine lv_lload_n hx hb dX7_plans_71 rfl (lv_at hl 0 rfl) ?_
          exact hret (lN (n1)) (va_up v 19 (g19), c) _ _ 72 _ dX7_plans_72 (by have e : i = v 5 0 ^ v 16 0 := (by rw [← cnq_0 (li := (mL (v 20 0) (v 17)))]; omega); rw [e, h20, mL_0, mP_0] at h2; exact mx2_of (MI_rd hI ⟨rfl, rfl, rfl, rfl, rfl, rfl, rfl, rfl, rfl, rfl, rfl, rfl, rfl⟩ (hs)) (Or.inl ⟨i_3, j_3, h_3, hj_3, rfl, rfl, v 19, by rw [cr_all hnc hnb0, h2]⟩) rfl ⟨rfl, rfl, rfl, rfl, rfl, rfl, rfl, rfl, rfl, rfl, rfl, rfl, rfl⟩) hP hD hS
        · skip
          refine lv_aload_n hx hb dX7_plans_32 rfl (lv_at hl 2 rfl) ?_
          refine lv_iconst (v := nI (0)) hx hb dX7_plans_33 (by decide) ?_
          refine lv_iload hx hb dX7_plans_34 (lv_at hl 1 rfl) ?_
          refine w_cVv (rest := []) hx hb hml hown hts (m_layBeat l D b cI cJ cZ A (va_up v 19 (g19)) c 0 i  (by show XI (vM (va_up v 19 (g19))); exact MX_i ⟨hnb, hnd, hbt, hfg, hne, hnc, hdk, hnf, hkn, hln, hst, hdc, hs⟩) (by show (v 20 0) ≤ 1; omega) (by decide) (by show 2 ≤ (v 5 0); omega) (by show i < cnq ((v 5 0)) (frk (mL ((v 20 0)) ((v 17))) 0) ((v 16 0)); exact c29)) 2 gX7_plans_X7_layBeat rfl hdX7_layBeat ⟨Nat.le_of_ble_eq_true rfl, Nat.le_of_ble_eq_true rfl⟩ hK hN hP hD hS hA 0 7 rfl rfl rfl rfl hl.1 rfl (Nat.le_of_ble_eq_true rfl) dX7_plans_36 ⟨Nat.le_of_ble_eq_true rfl, Nat.le_of_ble_eq_true rfl⟩ (fun u H locs hq hP hD hS => ?_)
          obtain ⟨g19_36, rfl, hL_36, hs_36⟩ := hq
          have hL_36 : LBk ((v 5 0)) ((v 16 0)) (mL ((v 20 0)) ((v 17))) 0 i (g19) g19_36 := hL_36
          have hP : va_P D vwCl (mW b cI cJ cZ (va_up v 19 (g19_36)) c) H := hP
          have hD : va_D A (mW b cI cJ cZ (va_up v 19 (g19_36)) c) := hD
          refine lv_lload_n hx hb dX7_plans_39 rfl (lv_at hl 0 rfl) ?_
          refine lv_aload_n hx hb dX7_plans_40 rfl (lv_at hl 2 rfl) ?_
          refine lv_iconst (v := nI (0)) hx hb dX7_plans_41 (by decide) ?_
          refine w_cVi (rest := [.long (lN (n1))]) hx hb hml hown hts (m_feltIn l D b cI cJ cZ A (va_up v 19 (g19_36)) c 0  (by show XI (vM (va_up v 19 (g19_36))); exact MX_i ⟨hnb, hnd, hbt, hfg, hne, hnc, hdk, hnf, hkn, hln, hst, hdc, hs_36⟩) (by show (v 20 0) ≤ 1; omega) (by decide)) 1 gX7_plans_X7_feltIn rfl hdX7_feltIn ⟨Nat.le_of_ble_eq_true rfl, Nat.le_of_ble_eq_true rfl⟩ hK hN hP hD hS hA 0 7 rfl rfl rfl rfl hl.1 rfl (Nat.le_of_ble_eq_true rfl) dX7_plans_42 ⟨Nat.le_of_ble_eq_true rfl, Nat.le_of_ble_eq_true rfl⟩ (fun r u H locs hq hP hD hS => ?_)
          have hr_42 := hq
          have hr_42 : r = nI (FE ((v 5 0)) ((v 7)) ((v 16 0)) (mL ((v 20 0)) ((v 17))) (mP ((v 20 0)) ((v 17)) ((v 18))) (g19_36) 0) := hr_42
          subst hr_42
          have hP : va_P D vwCl (mW b cI cJ cZ (va_up v 19 (g19_36)) c) H := hP
          have hD : va_D A (mW b cI cJ cZ (va_up v 19 (g19_36)) c) := hD
          refine lv_aload_n hx hb dX7_plans_45 rfl (lv_at hl 2 rfl) ?_
          refine va_get (D := D) (ci := 7) (v := .ref (b 9)) (C := RX7) (T := TX7) (N := 24) hx hb hts hinX7 hown hK hP 0 rfl rfl 9 (by decide) (hts (.fieldLink RX7 25 "DancedLockModel" "figure" "[I") (List.mem_of_getElem? (i := 2) rfl)) (fun _ h9 => h9) rfl dX7_plans_46 ?_
          refine lv_iload_n hx hb dX7_plans_49 rfl (lv_at hl 3 rfl) ?_
          refine lv_iload_n hx hb dX7_plans_50 rfl (lv_at hl 4 rfl) ?_
          refine w_cSi (rest := [.ref (b 9), .int (nI (FE ((v 5 0)) ((v 7)) ((v 16 0)) (mL ((v 20 0)) ((v 17))) (mP ((v 20 0)) ((v 17)) ((v 18))) (g19_36) 0)), .long (lN (n1))]) hx hb hml hown hts (m_spot l D b cI cJ cZ A (va_up v 19 (g19_36)) c i_3 j_3  ) 2 gX7_plans_X7_spot rfl hdX7_spot ⟨Nat.le_of_ble_eq_true rfl, Nat.le_of_ble_eq_true rfl⟩ hK hN hP hD hS hA rfl hl.1 rfl (Nat.le_of_ble_eq_true rfl) dX7_plans_51 ⟨Nat.le_of_ble_eq_true rfl, Nat.le_of_ble_eq_true rfl⟩ (fun r u H locs hq hP hD hS => ?_)
          obtain rfl := hq
          have hP : va_P D vwCl (mW b cI cJ cZ (va_up v 19 (g19_36)) c) H := hP
          have hD : va_D A (mW b cI cJ cZ (va_up v 19 (g19_36)) c) := hD
          refine w_iald (f := v 9) hx hb hK hP 6 0 rfl rfl (i := i_3 * 6 + j_3) (by omega) (by decide) dX7_plans_54 ?_
          have hf1 := FE_lt (v 5 0) (v 7) (v 16 0) (mL (v 20 0) (v 17)) (mP (v 20 0) (v 17) (v 18)) g19_36 0
          have hf2 := hfg _ _ h_3 hj_3
          refine w_icmp_ne (x := FE ((v 5 0)) ((v 7)) ((v 16 0)) (mL ((v 20 0)) ((v 17))) (mP ((v 20 0)) ((v 17)) ((v 18))) (g19_36) 0) (y := v 9 (i_3 * 6 + j_3)) hx hb dX7_plans_55 (tgt := 62) (by decide) (by omega) (by omega) (fun c55 => ?_) (fun c55 => ?_)
          · skip
            refine lv_lconst (v := lN 0) hx hb dX7_plans_62 (by decide) ?_
            refine lv_ladd hx hb dX7_plans_63 ?_
            rw [lN_add]
            refine lv_lstore_n (lv' := [(3, .long (lN (n1 + 0))), (6, .int (nI (i))), (0, .ref (b 0)), (1, .int (nI (i_3))), (2, .int (nI (j_3))), (5, .int (nI (cnq ((v 5 0)) (frk (mL ((v 20 0)) ((v 17))) 0) ((v 16 0)))))]) hx hb dX7_plans_64 rfl hl (by decide) rfl (fun ls hl => ?_)
            refine lv_iinc (v := nI (i + 1)) (lv' := [(6, .int (nI (i + 1))), (3, .long (lN (n1 + 0))), (0, .ref (b 0)), (1, .int (nI (i_3))), (2, .int (nI (j_3))), (5, .int (nI (cnq ((v 5 0)) (frk (mL ((v 20 0)) ((v 17))) 0) ((v 16 0)))))]) hx hb dX7_plans_65 hl (k := 1) rfl (nI_add i 1) (by decide) rfl (fun ls hl => ?_)
            refine lv_goto (tgt := 25) hx hb dX7_plans_68 (by decide) ?_
            exact ih25 (i + 1) (n1 + 0) g19_36 _ _ _ (by omega) (by omega) (by first | (rw [h2, sm_s, icr_y hnc hnb0 (by rw [← cnq_0 (li := (mL (v 20 0) (v 17)))]; exact c29) hL_36 c55]) | (rw [h2, sm_s, icr_n hnc hnb0 (by rw [← cnq_0 (li := (mL (v 20 0) (v 17)))]; exact c29) hL_36 c55])) (by exact hs_36) hP hD hS (lv_sub hl [1, 0, 2, 3, 4, 5] rfl)
          · skip
            refine lv_lconst (v := lN 1) hx hb dX7_plans_58 (by decide) ?_
            refine lv_goto (tgt := 63) hx hb dX7_plans_59 (by decide) ?_
            refine lv_ladd hx hb dX7_plans_63 ?_
            rw [lN_add]
            refine lv_lstore_n (lv' := [(3, .long (lN (n1 + 1))), (6, .int (nI (i))), (0, .ref (b 0)), (1, .int (nI (i_3))), (2, .int (nI (j_3))), (5, .int (nI (cnq ((v 5 0)) (frk (mL ((v 20 0)) ((v 17))) 0) ((v 16 0)))))]) hx hb dX7_plans_64 rfl hl (by decide) rfl (fun ls hl => ?_)
            refine lv_iinc (v := nI (i + 1)) (lv' := [(6, .int (nI (i + 1))), (3, .long (lN (n1 + 1))), (0, .ref (b 0)), (1, .int (nI (i_3))), (2, .int (nI (j_3))), (5, .int (nI (cnq ((v 5 0)) (frk (mL ((v 20 0)) ((v 17))) 0) ((v 16 0)))))]) hx hb dX7_plans_65 hl (k := 1) rfl (nI_add i 1) (by decide) rfl (fun ls hl => ?_)
            refine lv_goto (tgt := 25) hx hb dX7_plans_68 (by decide) ?_
            exact ih25 (i + 1) (n1 + 1) g19_36 _ _ _ (by omega) (by omega) (by first | (rw [h2, sm_s, icr_y hnc hnb0 (by rw [← cnq_0 (li := (mL (v 20 0) (v 17)))]; exact c29) hL_36 c55]) | (rw [h2, sm_s, icr_n hnc hnb0 (by rw [← cnq_0 (li := (mL (v 20 0) (v 17)))]; exact c29) hL_36 c55])) (by exact hs_36) hP hD hS (lv_sub hl [1, 0, 2, 3, 4, 5] rfl)
    exact L25 (((cnq (v 5 0) (frk (mL (v 20 0) (v 17)) 0) (v 16 0)) - 0) + 1) 0 0 (v 19) _ _ _ (Nat.lt_succ_self _) (by omega) (by rfl) (by exact hsp) hP hD hS (lv_sub hl [2, 0, 3, 4, 5, 1] rfl)
  · skip
    have hP : va_P D vwCl (mW b cI cJ cZ v c) H := hP
    have hD : va_D A (mW b cI cJ cZ v c) := hD
    refine w_if_ne (x := 0) hx hb dX7_plans_6 (tgt := 13) (by decide) (by decide) (fun h => absurd h (by decide)) (fun _ => ?_)
    refine lv_ldc2 (own := RX7) hx hb hown (hts (.constantLong RX7 57 (-9223372036854775808)) (List.mem_of_getElem? (i := 1) rfl)) dX7_plans_9 ?_
    exact hret ((-9223372036854775808)) (v, c) _ _ 12 _ dX7_plans_12 (by first | (exact mx2_of (MI_rd hI ⟨rfl, rfl, rfl, rfl, rfl, rfl, rfl, rfl, rfl, rfl, rfl, rfl, rfl⟩ (hsp)) (Or.inr ⟨fun ⟨d1, j1, q1, q2, q4, q5⟩ => nR_of (by omega) h_3 ⟨d1, q1, q4⟩, rfl⟩) rfl ⟨rfl, rfl, rfl, rfl, rfl, rfl, rfl, rfl, rfl, rfl, rfl, rfl, rfl⟩) | (exact mx2_of (MI_rd hI ⟨rfl, rfl, rfl, rfl, rfl, rfl, rfl, rfl, rfl, rfl, rfl, rfl, rfl⟩ (hsp)) (Or.inr ⟨fun ⟨d1, j1, q1, q2, q4, q5⟩ => nR_of (by have h9 := hbt _ h_3; omega) hk_3 ⟨j1, by rw [(n_inj (a := i_3) (b := d1) (by omega) (by omega)).mp q4]; exact q2, q5⟩, rfl⟩) rfl ⟨rfl, rfl, rfl, rfl, rfl, rfl, rfl, rfl, rfl, rfl, rfl, rfl, rfl⟩)) hP hD hS
  · skip
    have hP : va_P D vwCl (mW b cI cJ cZ v c) H := hP
    have hD : va_D A (mW b cI cJ cZ v c) := hD
    subst hs_d_3
    have i_3T := n_tI (k := i_3) (by have h9 := hbt _ h_3; omega)
    refine w_if_ne (x := 0) hx hb dX7_plans_6 (tgt := 13) (by decide) (by decide) (fun h => absurd h (by decide)) (fun _ => ?_)
    refine lv_ldc2 (own := RX7) hx hb hown (hts (.constantLong RX7 57 (-9223372036854775808)) (List.mem_of_getElem? (i := 1) rfl)) dX7_plans_9 ?_
    exact hret ((-9223372036854775808)) (v, c) _ _ 12 _ dX7_plans_12 (by first | (exact mx2_of (MI_rd hI ⟨rfl, rfl, rfl, rfl, rfl, rfl, rfl, rfl, rfl, rfl, rfl, rfl, rfl⟩ (hsp)) (Or.inr ⟨fun ⟨d1, j1, q1, q2, q4, q5⟩ => nR_of (by omega) h_3 ⟨d1, q1, q4⟩, rfl⟩) rfl ⟨rfl, rfl, rfl, rfl, rfl, rfl, rfl, rfl, rfl, rfl, rfl, rfl, rfl⟩) | (exact mx2_of (MI_rd hI ⟨rfl, rfl, rfl, rfl, rfl, rfl, rfl, rfl, rfl, rfl, rfl, rfl, rfl⟩ (hsp)) (Or.inr ⟨fun ⟨d1, j1, q1, q2, q4, q5⟩ => nR_of (by have h9 := hbt _ h_3; omega) hk_3 ⟨j1, by rw [(n_inj (a := i_3) (b := d1) (by omega) (by omega)).mp q4]; exact q2, q5⟩, rfl⟩) rfl ⟨rfl, rfl, rfl, rfl, rfl, rfl, rfl, rfl, rfl, rfl, rfl, rfl, rfl⟩)) hP hD hS
