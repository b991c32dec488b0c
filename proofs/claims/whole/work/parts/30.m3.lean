/-! ===== the model's searches for the least ===== -/
theorem fwr_7 {q : Nat × Nat} (hb : q.2 < 2147483648) (h : fwr q = -9) : q.1 = 7 := by
  unfold fwr at h
  split at h
  · assumption
  · exact absurd h (n_neg hb (by decide))
theorem fwr_n {q : Nat × Nat} (h : q.1 ≠ 7) : fwr q = nI q.2 := if_neg h
theorem fwr_y {q : Nat × Nat} (h : q.1 = 7) : fwr q = -9 := if_pos h
theorem lu_ok {U : Nat → Nat} {d : Nat} : ∀ n, ((lu U d n).1 = 7 ∧ (lu U d n).2 = 0) ∨ ((lu U d n).2 < n ∧ (lu U d n).1 = U (lu U d n).2) := by
  intro n
  induction n with
  | zero => exact Or.inl ⟨rfl, rfl⟩
  | succ n ih =>
    by_cases h : n ≠ d ∧ U n < (lu U d n).1
    · rw [lu_y h]; exact Or.inr ⟨Nat.lt_succ_self _, rfl⟩
    · rw [lu_n h]; exact ih.imp id (fun z => ⟨by omega, z.2⟩)
theorem lu_idx {U : Nat → Nat} {d n : Nat} {bb : Int32} (h : bb = fwr (lu U d n)) (hb : ¬ bb = -9) : ∃ x, x < n ∧ lu U d n = (U x, x) ∧ bb = nI x := by
  rcases lu_ok (U := U) (d := d) n with h1 | h1
  · exact absurd (h.trans (fwr_y h1.1)) hb
  · have h7 : (lu U d n).1 ≠ 7 := fun z => hb (h.trans (fwr_y z))
    exact ⟨_, h1.1, Prod.ext h1.2 rfl, h.trans (fwr_n h7)⟩
theorem lu_s1 {U : Nat → Nat} {d n : Nat} {bb : Int32} (hn : n < 2147483647) (hU : ∀ k, k ≤ n → U k ≤ 6) (h : bb = fwr (lu U d n)) (hb : bb = -9) (hd : ¬ n = d) : nI n = fwr (lu U d (n + 1)) := by
  have h7 : (lu U d n).1 = 7 := fwr_7 (by rcases lu_ok (U := U) (d := d) n with h1 | h1 <;> omega) (h.symm.trans hb)
  have := hU n (Nat.le_refl _)
  rw [lu_y ⟨hd, by omega⟩, fwr_n (by show U n ≠ 7; omega)]
theorem lu_s2 {U : Nat → Nat} {d n x : Nat} (hU : ∀ k, k ≤ n → U k ≤ 6) (e : lu U d n = (U x, x)) (hd : ¬ n = d) (hlt : U n < U x) : nI n = fwr (lu U d (n + 1)) := by
  have := hU n (Nat.le_refl _)
  rw [lu_y ⟨hd, by rw [e]; exact hlt⟩, fwr_n (by show U n ≠ 7; omega)]
theorem lu_s3 {U : Nat → Nat} {d n x : Nat} {y : Int32} (h : y = fwr (lu U d n)) (e : lu U d n = (U x, x)) (hle : U x ≤ U n) : y = fwr (lu U d (n + 1)) := by
  rw [lu_n (fun z => by rw [e] at z; have := z.2; exact absurd this (Nat.not_lt.mpr hle))]; exact h
theorem lu_s4 {U : Nat → Nat} {d n : Nat} {y : Int32} (h : y = fwr (lu U d n)) (hd : n = d) : y = fwr (lu U d (n + 1)) := by
  rw [lu_n (fun z => z.1 hd)]; exact h
theorem fw_ok {f : Nat → Nat} {nf z : Nat} : ∀ n, ((fw f nf z n).1 = 7 ∧ (fw f nf z n).2 = 0) ∨ ((fw f nf z n).2 < n ∧ (fw f nf z n).1 = pc (fw f nf z n).2) := by
  intro n
  induction n with
  | zero => exact Or.inl ⟨rfl, rfl⟩
  | succ n ih =>
    by_cases h : z &&& kn f n nf = z ∧ pc n < (fw f nf z n).1
    · rw [fw_y h]; exact Or.inr ⟨Nat.lt_succ_self _, rfl⟩
    · rw [fw_n h]; exact ih.imp id (fun z => ⟨by omega, z.2⟩)
theorem fw_idx {f : Nat → Nat} {nf z n : Nat} {bb : Int32} (h : bb = fwr (fw f nf z n)) (hb : ¬ bb = -9) : ∃ x, x < n ∧ fw f nf z n = (pc x, x) ∧ bb = nI x := by
  rcases fw_ok (f := f) (nf := nf) (z := z) n with h1 | h1
  · exact absurd (h.trans (fwr_y h1.1)) hb
  · have h7 : (fw f nf z n).1 ≠ 7 := fun z => hb (h.trans (fwr_y z))
    exact ⟨_, h1.1, Prod.ext h1.2 rfl, h.trans (fwr_n h7)⟩
theorem fw_s1 {f : Nat → Nat} {nf z n : Nat} {bb : Int32} (hn : n < 64) (h : bb = fwr (fw f nf z n)) (hb : bb = -9) (hk : kn f n nf &&& z = z) : nI n = fwr (fw f nf z (n + 1)) := by
  have h7 : (fw f nf z n).1 = 7 := fwr_7 (by rcases fw_ok (f := f) (nf := nf) (z := z) n with h1 | h1 <;> omega) (h.symm.trans hb)
  have := pc64 n hn
  rw [fw_y ⟨by rw [Nat.and_comm]; exact hk, by omega⟩, fwr_n (by show pc n ≠ 7; omega)]
theorem fw_s2 {f : Nat → Nat} {nf z n x : Nat} (hn : n < 64) (e : fw f nf z n = (pc x, x)) (hk : kn f n nf &&& z = z) (hlt : pc n < pc x) : nI n = fwr (fw f nf z (n + 1)) := by
  have := pc64 n hn
  rw [fw_y ⟨by rw [Nat.and_comm]; exact hk, by rw [e]; exact hlt⟩, fwr_n (by show pc n ≠ 7; omega)]
theorem fw_s3 {f : Nat → Nat} {nf z n x : Nat} {y : Int32} (h : y = fwr (fw f nf z n)) (e : fw f nf z n = (pc x, x)) (hle : pc x ≤ pc n) : y = fwr (fw f nf z (n + 1)) := by
  rw [fw_n (fun z => by rw [e] at z; have := z.2; exact absurd this (Nat.not_lt.mpr hle))]; exact h
theorem fw_s4 {f : Nat → Nat} {nf z n : Nat} {y : Int32} (h : y = fwr (fw f nf z n)) (hk : ¬ kn f n nf &&& z = z) : y = fwr (fw f nf z (n + 1)) := by
  rw [fw_n (fun q => hk (by rw [Nat.and_comm]; exact q.1))]; exact h
set_option maxHeartbeats 4000000 in
set_option maxRecDepth 100000 in
theorem s_nearest (l : Launch) (D : va_G) (b : Nat → Nat) (cI cJ cZ : ClassId) (A : Nat → Prop) (v : Nat → Nat → Nat) (c : Nat → Nat → Int32) (x : Int32) (hI : MI v c) :
    mI l yX7_nearest wsX7_nearest 3 69 [.ref (b 0), .int x] D (xT cI cJ cZ) A (mW b cI cJ cZ v c) (fun _ : Unit => mW b cI cJ cZ v c)
    (fun (r : Int32) (u : Unit) => sp_door (v 6 0) (fun d => fwr (lu (fun o => ulN (v 8 d) (v 8 o) (fun k => v 9 (d * 6 + k)) (fun k => v 9 (o * 6 + k)) 6) d (v 6 0))) x r) := by
  refine w_bI cX7_nearest 5 .int (by decide) rfl (Nat.le_of_ble_eq_true rfl) (Or.inl rfl) ?_
  intro p e s m args below meth c0 ls Q hx hb hml hts hown hK hN hA hret hP hD hS hl
  have hl : lv_has ls 5 [(0, .ref (b 0)), (1, .int x)] := hl
  have hinX7 : ∀ w ∈ wsX70, w ∈ wsX7_nearest := fun w h => List.mem_cons_of_mem _ (List.mem_append_right _ h)
  obtain ⟨hnb, hnd, hbt, hfg, hne, hnc, hdk, hnf, hkn, hln, hst, hdc, hsp⟩ := MI_o hI
  refine lv_aload_n hx hb dX7_nearest_0 rfl (lv_at hl 0 rfl) ?_
  refine lv_iload_n hx hb dX7_nearest_1 rfl (lv_at hl 1 rfl) ?_
  refine w_cVi (rest := []) hx hb hml hown hts (m_isDoor_R l D b cI cJ cZ A v c x  (by first | assumption | omega)) 1 gX7_nearest_X7_isDoor rfl hdX7_isDoor ⟨Nat.le_of_ble_eq_true rfl, Nat.le_of_ble_eq_true rfl⟩ hK hN hP hD hS hA 0 7 rfl rfl rfl rfl hl.1 rfl (Nat.le_of_ble_eq_true rfl) dX7_nearest_2 ⟨Nat.le_of_ble_eq_true rfl, Nat.le_of_ble_eq_true rfl⟩ (fun r u H locs hq hP hD hS => ?_)
  rcases hq with ⟨j_2, rfl, h_2, hs_x_2⟩ | ⟨rfl, h_2⟩
  · skip
    have hP : va_P D vwCl (mW b cI cJ cZ v c) H := hP
    have hD : va_D A (mW b cI cJ cZ v c) := hD
    subst hs_x_2
    have j_2T := n_tI (k := j_2) (by omega)
    refine w_if_ne (x := 1) hx hb dX7_nearest_5 (tgt := 10) (by decide) (by decide) (fun _ => ?_) (fun h => absurd h (by decide))
    refine lv_bipush (v := -9) hx hb dX7_nearest_10 (by decide) ?_
    refine lv_istore_n (lv' := [(2, .int (-9)), (0, .ref (b 0)), (1, .int (nI (j_2)))]) hx hb dX7_nearest_12 rfl hl (by decide) rfl (fun ls hl => ?_)
    refine lv_iconst (v := nI (0)) hx hb dX7_nearest_13 (by decide) ?_
    refine lv_istore_n (lv' := [(3, .int (nI (0))), (2, .int (-9)), (0, .ref (b 0)), (1, .int (nI (j_2)))]) hx hb dX7_nearest_14 rfl hl (by decide) rfl (fun ls hl => ?_)
    have L15 : ∀ (n : Nat) (i : Nat) (bb : Int32) (H : Heap) (locs : List Loc) (ls : Array Slot), v 6 0 - i < n → (i ≤ v 6 0) → (bb = fwr (lu (fun o => ulN (v 8 j_2) (v 8 o) (fun k => v 9 (j_2 * 6 + k)) (fun k => v 9 (o * 6 + k)) 6) j_2 i)) → va_P D vwCl (mW b cI cJ cZ v c) H → va_D A (mW b cI cJ cZ v c) → va_S A s.heap H locs → lv_has ls 5 [(2, .int bb), (3, .int (nI (i))), (0, .ref (b 0)), (1, .int (nI (j_2)))] → W p l e { frames := 3, cells := 0, slots := 0, locals := 69 } s m args below meth c0 H locs 0 0 Q (F0 m 15 ls []) := by
      intro n
      induction n with
      | zero => intro i bb H locs ls hm; exact absurd hm (Nat.not_lt_zero _)
      | succ n ih15 =>
        intro i bb H locs ls hm15 h1 h2 hP hD hS hl
        refine lv_iload_n hx hb dX7_nearest_15 rfl (lv_at hl 1 rfl) ?_
        refine lv_aload_n hx hb dX7_nearest_16 rfl (lv_at hl 2 rfl) ?_
        refine va_get (D := D) (ci := 7) (v := .int (nI (v 6 0))) (C := RX7) (T := TX7) (N := 24) hx hb hts hinX7 hown hK hP 0 rfl rfl 6 (by decide) (hts (.fieldLink RX7 66 "DancedLockModel" "doors" "I") (List.mem_of_getElem? (i := 1) rfl)) (fun _ h9 => h9) rfl dX7_nearest_17 ?_
        refine w_icmp_ge (x := i) (y := v 6 0) hx hb dX7_nearest_20 (tgt := 73) (by decide) (by omega) (by omega) (fun c20 => ?_) (fun c20 => ?_)
        · skip
          refine lv_iload_n hx hb dX7_nearest_73 rfl (lv_at hl 0 rfl) ?_
          exact hret (bb) () _ _ 74 _ dX7_nearest_74 rfl (by have e : i = v 6 0 := (by omega); subst e; exact Or.inl ⟨j_2, h_2, rfl, h2⟩) hP hD hS
        · skip
          refine lv_iload_n hx hb dX7_nearest_23 rfl (lv_at hl 1 rfl) ?_
          refine lv_iload_n hx hb dX7_nearest_24 rfl (lv_at hl 3 rfl) ?_
          refine w_icmp_eq (x := i) (y := j_2) hx hb dX7_nearest_25 (tgt := 53) (by decide) (by omega) (by omega) (fun c25 => ?_) (fun c25 => ?_)
          · skip
            refine lv_iconst (v := nI (0)) hx hb dX7_nearest_53 (by decide) ?_
            refine lv_istore (lv' := [(4, .int (nI (0))), (2, .int bb), (3, .int (nI (i))), (0, .ref (b 0)), (1, .int (nI (j_2)))]) hx hb dX7_nearest_54 hl (by decide) rfl (fun ls hl => ?_)
            refine lv_iload hx hb dX7_nearest_56 (lv_at hl 0 rfl) ?_
            refine w_if_eq (x := 0) hx hb dX7_nearest_58 (tgt := 65) (by decide) (by decide) (fun _ => ?_) (fun h => absurd h (by decide))
            refine lv_iload_n hx hb dX7_nearest_65 rfl (lv_at hl 1 rfl) ?_
            refine lv_istore_n (lv' := [(2, .int bb), (4, .int (nI (0))), (3, .int (nI (i))), (0, .ref (b 0)), (1, .int (nI (j_2)))]) hx hb dX7_nearest_66 rfl hl (by decide) rfl (fun ls hl => ?_)
            refine lv_iinc (v := nI (i + 1)) (lv' := [(3, .int (nI (i + 1))), (2, .int bb), (4, .int (nI (0))), (0, .ref (b 0)), (1, .int (nI (j_2)))]) hx hb dX7_nearest_67 hl (k := 2) rfl (nI_add i 1) (by decide) rfl (fun ls hl => ?_)
            refine lv_goto (tgt := 15) hx hb dX7_nearest_70 (by decide) ?_
            exact ih15 (i + 1) bb _ _ _ (by omega) (by omega) (by first | exact lu_s4 h2 (by omega) | exact lu_s1 (by omega) (fun k _ => ulN_le) h2 c31 c25 | exact lu_s2 (fun k _ => ulN_le) hbe c25 (by omega) | exact lu_s3 h2 hbe (by omega)) hP hD hS (lv_sub hl [1, 0, 3, 4] rfl)
          · skip
            refine lv_iload_n hx hb dX7_nearest_28 rfl (lv_at hl 0 rfl) ?_
            refine lv_bipush (v := -9) hx hb dX7_nearest_29 (by decide) ?_
            refine lv_icmp_eq (x := bb) (y := (-9)) hx hb dX7_nearest_31 (tgt := 49) (by decide) (fun c31 => ?_) (fun c31 => ?_)
            · skip
              refine lv_iconst (v := nI (1)) hx hb dX7_nearest_49 (by decide) ?_
              refine lv_goto (tgt := 54) hx hb dX7_nearest_50 (by decide) ?_
              refine lv_istore (lv' := [(4, .int (nI (1))), (2, .int bb), (3, .int (nI (i))), (0, .ref (b 0)), (1, .int (nI (j_2)))]) hx hb dX7_nearest_54 hl (by decide) rfl (fun ls hl => ?_)
              refine lv_iload hx hb dX7_nearest_56 (lv_at hl 0 rfl) ?_
              refine w_if_eq (x := 1) hx hb dX7_nearest_58 (tgt := 65) (by decide) (by decide) (fun h => absurd h (by decide)) (fun _ => ?_)
              refine lv_iload_n hx hb dX7_nearest_61 rfl (lv_at hl 2 rfl) ?_
              refine lv_goto (tgt := 66) hx hb dX7_nearest_62 (by decide) ?_
              refine lv_istore_n (lv' := [(2, .int (nI (i))), (4, .int (nI (1))), (3, .int (nI (i))), (0, .ref (b 0)), (1, .int (nI (j_2)))]) hx hb dX7_nearest_66 rfl hl (by decide) rfl (fun ls hl => ?_)
              refine lv_iinc (v := nI (i + 1)) (lv' := [(3, .int (nI (i + 1))), (2, .int (nI (i))), (4, .int (nI (1))), (0, .ref (b 0)), (1, .int (nI (j_2)))]) hx hb dX7_nearest_67 hl (k := 2) rfl (nI_add i 1) (by decide) rfl (fun ls hl => ?_)
              refine lv_goto (tgt := 15) hx hb dX7_nearest_70 (by decide) ?_
              exact ih15 (i + 1) (nI (i)) _ _ _ (by omega) (by omega) (by first | exact lu_s4 h2 (by omega) | exact lu_s1 (by omega) (fun k _ => ulN_le) h2 c31 c25 | exact lu_s2 (fun k _ => ulN_le) hbe c25 (by omega) | exact lu_s3 h2 hbe (by omega)) hP hD hS (lv_sub hl [1, 0, 3, 4] rfl)
            · skip
              obtain ⟨bx, hbx, hbe, rfl⟩ := lu_idx h2 c31
              refine lv_aload_n hx hb dX7_nearest_34 rfl (lv_at hl 2 rfl) ?_
              refine lv_iload_n hx hb dX7_nearest_35 rfl (lv_at hl 3 rfl) ?_
              refine lv_iload_n hx hb dX7_nearest_36 rfl (lv_at hl 1 rfl) ?_
              refine w_cVi (rest := []) hx hb hml hown hts (m_apartOf l D b cI cJ cZ A v c j_2 i  (by first | assumption | omega) (by first | assumption | omega) (by first | assumption | omega)) 2 gX7_nearest_X7_apartOf rfl hdX7_apartOf ⟨Nat.le_of_ble_eq_true rfl, Nat.le_of_ble_eq_true rfl⟩ hK hN hP hD hS hA 0 7 rfl rfl rfl rfl hl.1 rfl (Nat.le_of_ble_eq_true rfl) dX7_nearest_37 ⟨Nat.le_of_ble_eq_true rfl, Nat.le_of_ble_eq_true rfl⟩ (fun r u H locs hq hP hD hS => ?_)
              obtain rfl := hq
              have hP : va_P D vwCl (mW b cI cJ cZ v c) H := hP
              have hD : va_D A (mW b cI cJ cZ v c) := hD
              refine lv_aload_n hx hb dX7_nearest_40 rfl (lv_at hl 2 rfl) ?_
              refine lv_iload_n hx hb dX7_nearest_41 rfl (lv_at hl 3 rfl) ?_
              refine lv_iload_n hx hb dX7_nearest_42 rfl (lv_at hl 0 rfl) ?_
              refine w_cVi (rest := [.int (nI (ulN ((v 8) j_2) ((v 8) i) (fun k => (v 9) (j_2 * 6 + k)) (fun k => (v 9) (i * 6 + k)) 6))]) hx hb hml hown hts (m_apartOf l D b cI cJ cZ A v c j_2 bx  (by first | assumption | omega) (by first | assumption | omega) (by first | assumption | omega)) 2 gX7_nearest_X7_apartOf rfl hdX7_apartOf ⟨Nat.le_of_ble_eq_true rfl, Nat.le_of_ble_eq_true rfl⟩ hK hN hP hD hS hA 0 7 rfl rfl rfl rfl hl.1 rfl (Nat.le_of_ble_eq_true rfl) dX7_nearest_43 ⟨Nat.le_of_ble_eq_true rfl, Nat.le_of_ble_eq_true rfl⟩ (fun r u H locs hq hP hD hS => ?_)
              obtain rfl := hq
              have hP : va_P D vwCl (mW b cI cJ cZ v c) H := hP
              have hD : va_D A (mW b cI cJ cZ v c) := hD
              have u1 := ulN_le (bd := v 8 j_2) (bo := v 8 i) (f := fun k => v 9 (j_2 * 6 + k)) (g := fun k => v 9 (i * 6 + k)) (n := 6)
              have u2 := ulN_le (bd := v 8 j_2) (bo := v 8 bx) (f := fun k => v 9 (j_2 * 6 + k)) (g := fun k => v 9 (bx * 6 + k)) (n := 6)
              refine w_icmp_ge (x := ulN ((v 8) j_2) ((v 8) i) (fun k => (v 9) (j_2 * 6 + k)) (fun k => (v 9) (i * 6 + k)) 6) (y := ulN ((v 8) j_2) ((v 8) bx) (fun k => (v 9) (j_2 * 6 + k)) (fun k => (v 9) (bx * 6 + k)) 6) hx hb dX7_nearest_46 (tgt := 53) (by decide) (by omega) (by omega) (fun c46 => ?_) (fun c46 => ?_)
              · skip
                refine lv_iconst (v := nI (0)) hx hb dX7_nearest_53 (by decide) ?_
                refine lv_istore (lv' := [(4, .int (nI (0))), (2, .int (nI (bx))), (3, .int (nI (i))), (0, .ref (b 0)), (1, .int (nI (j_2)))]) hx hb dX7_nearest_54 hl (by decide) rfl (fun ls hl => ?_)
                refine lv_iload hx hb dX7_nearest_56 (lv_at hl 0 rfl) ?_
                refine w_if_eq (x := 0) hx hb dX7_nearest_58 (tgt := 65) (by decide) (by decide) (fun _ => ?_) (fun h => absurd h (by decide))
                refine lv_iload_n hx hb dX7_nearest_65 rfl (lv_at hl 1 rfl) ?_
                refine lv_istore_n (lv' := [(2, .int (nI (bx))), (4, .int (nI (0))), (3, .int (nI (i))), (0, .ref (b 0)), (1, .int (nI (j_2)))]) hx hb dX7_nearest_66 rfl hl (by decide) rfl (fun ls hl => ?_)
                refine lv_iinc (v := nI (i + 1)) (lv' := [(3, .int (nI (i + 1))), (2, .int (nI (bx))), (4, .int (nI (0))), (0, .ref (b 0)), (1, .int (nI (j_2)))]) hx hb dX7_nearest_67 hl (k := 2) rfl (nI_add i 1) (by decide) rfl (fun ls hl => ?_)
                refine lv_goto (tgt := 15) hx hb dX7_nearest_70 (by decide) ?_
                exact ih15 (i + 1) (nI (bx)) _ _ _ (by omega) (by omega) (by first | exact lu_s4 h2 (by omega) | exact lu_s1 (by omega) (fun k _ => ulN_le) h2 c31 c25 | exact lu_s2 (fun k _ => ulN_le) hbe c25 (by omega) | exact lu_s3 h2 hbe (by omega)) hP hD hS (lv_sub hl [1, 0, 3, 4] rfl)
              · skip
                refine lv_iconst (v := nI (1)) hx hb dX7_nearest_49 (by decide) ?_
                refine lv_goto (tgt := 54) hx hb dX7_nearest_50 (by decide) ?_
                refine lv_istore (lv' := [(4, .int (nI (1))), (2, .int (nI (bx))), (3, .int (nI (i))), (0, .ref (b 0)), (1, .int (nI (j_2)))]) hx hb dX7_nearest_54 hl (by decide) rfl (fun ls hl => ?_)
                refine lv_iload hx hb dX7_nearest_56 (lv_at hl 0 rfl) ?_
                refine w_if_eq (x := 1) hx hb dX7_nearest_58 (tgt := 65) (by decide) (by decide) (fun h => absurd h (by decide)) (fun _ => ?_)
                refine lv_iload_n hx hb dX7_nearest_61 rfl (lv_at hl 2 rfl) ?_
                refine lv_goto (tgt := 66) hx hb dX7_nearest_62 (by decide) ?_
                refine lv_istore_n (lv' := [(2, .int (nI (i))), (4, .int (nI (1))), (3, .int (nI (i))), (0, .ref (b 0)), (1, .int (nI (j_2)))]) hx hb dX7_nearest_66 rfl hl (by decide) rfl (fun ls hl => ?_)
                refine lv_iinc (v := nI (i + 1)) (lv' := [(3, .int (nI (i + 1))), (2, .int (nI (i))), (4, .int (nI (1))), (0, .ref (b 0)), (1, .int (nI (j_2)))]) hx hb dX7_nearest_67 hl (k := 2) rfl (nI_add i 1) (by decide) rfl (fun ls hl => ?_)
                refine lv_goto (tgt := 15) hx hb dX7_nearest_70 (by decide) ?_
                exact ih15 (i + 1) (nI (i)) _ _ _ (by omega) (by omega) (by first | exact lu_s4 h2 (by omega) | exact lu_s1 (by omega) (fun k _ => ulN_le) h2 c31 c25 | exact lu_s2 (fun k _ => ulN_le) hbe c25 (by omega) | exact lu_s3 h2 hbe (by omega)) hP hD hS (lv_sub hl [1, 0, 3, 4] rfl)
    exact L15 ((v 6 0 - 0) + 1) 0 (-9) _ _ _ (Nat.lt_succ_self _) (by omega) (by rfl) hP hD hS (lv_sub hl [1, 0, 2, 3] rfl)
  · skip
    have hP : va_P D vwCl (mW b cI cJ cZ v c) H := hP
    have hD : va_D A (mW b cI cJ cZ v c) := hD
    refine w_if_ne (x := 0) hx hb dX7_nearest_5 (tgt := 10) (by decide) (by decide) (fun h => absurd h (by decide)) (fun _ => ?_)
    refine lv_iconst (v := -1) hx hb dX7_nearest_8 (by decide) ?_
    exact hret ((-1)) () _ _ 9 _ dX7_nearest_9 rfl (by exact Or.inr ⟨nR_of (by omega) h_2, rfl⟩) hP hD hS

set_option maxHeartbeats 4000000 in
set_option maxRecDepth 100000 in
theorem s_fewest (l : Launch) (D : va_G) (b : Nat → Nat) (cI cJ cZ : ClassId) (A : Nat → Prop) (v : Nat → Nat → Nat) (c : Nat → Nat → Int32) (x : Int32) (hI : MI v c) :
    mI l yX7_fewest wsX7_fewest 2 45 [.ref (b 0), .int x] D (xT cI cJ cZ) A (mW b cI cJ cZ v c) (fun _ : Unit => mW b cI cJ cZ v c)
    (fun (r : Int32) (u : Unit) => sp_door (v 6 0) (fun d => fwr (fw (v 23) (v 22 0) ((2 ^ v 8 d - 1) * 2 ^ (d * 6)) (2 ^ v 22 0))) x r) := by
  refine w_bI cX7_fewest 5 .int (by decide) rfl (Nat.le_of_ble_eq_true rfl) (Or.inl rfl) ?_
  intro p e s m args below meth c0 ls Q hx hb hml hts hown hK hN hA hret hP hD hS hl
  have hl : lv_has ls 5 [(0, .ref (b 0)), (1, .int x)] := hl
  have hinX7 : ∀ w ∈ wsX70, w ∈ wsX7_fewest := fun w h => List.mem_cons_of_mem _ (List.mem_append_right _ h)
  obtain ⟨hnb, hnd, hbt, hfg, hne, hnc, hdk, hnf, hkn, hln, hst, hdc, hsp⟩ := MI_o hI
  refine lv_aload_n hx hb dX7_fewest_0 rfl (lv_at hl 0 rfl) ?_
  refine lv_iload_n hx hb dX7_fewest_1 rfl (lv_at hl 1 rfl) ?_
  refine w_cVi (rest := []) hx hb hml hown hts (m_isDoor_R l D b cI cJ cZ A v c x  (by first | assumption | omega)) 1 gX7_fewest_X7_isDoor rfl hdX7_isDoor ⟨Nat.le_of_ble_eq_true rfl, Nat.le_of_ble_eq_true rfl⟩ hK hN hP hD hS hA 0 7 rfl rfl rfl rfl hl.1 rfl (Nat.le_of_ble_eq_true rfl) dX7_fewest_2 ⟨Nat.le_of_ble_eq_true rfl, Nat.le_of_ble_eq_true rfl⟩ (fun r u H locs hq hP hD hS => ?_)
  rcases hq with ⟨j_2, rfl, h_2, hs_x_2⟩ | ⟨rfl, h_2⟩
  · skip
    have hP : va_P D vwCl (mW b cI cJ cZ v c) H := hP
    have hD : va_D A (mW b cI cJ cZ v c) := hD
    subst hs_x_2
    have j_2T := n_tI (k := j_2) (by omega)
    refine w_if_ne (x := 1) hx hb dX7_fewest_5 (tgt := 10) (by decide) (by decide) (fun _ => ?_) (fun h => absurd h (by decide))
    have hbd := hbt _ h_2
    have hq2 := bars_lt hbd.2 (show j_2 ≤ 3 by omega)
    have hp7 := pow_le_128 (show v 22 0 ≤ 7 by omega)
    have hp0 := Nat.two_pow_pos (v 22 0)
    have hp6 := pow_le_64 hnf
    refine lv_bipush (v := -9) hx hb dX7_fewest_10 (by decide) ?_
    refine lv_istore_n (lv' := [(2, .int (-9)), (0, .ref (b 0)), (1, .int (nI (j_2)))]) hx hb dX7_fewest_12 rfl hl (by decide) rfl (fun ls hl => ?_)
    refine lv_iconst (v := nI (0)) hx hb dX7_fewest_13 (by decide) ?_
    refine lv_istore_n (lv' := [(3, .int (nI (0))), (2, .int (-9)), (0, .ref (b 0)), (1, .int (nI (j_2)))]) hx hb dX7_fewest_14 rfl hl (by decide) rfl (fun ls hl => ?_)
    have L15 : ∀ (n : Nat) (i : Nat) (bb : Int32) (H : Heap) (locs : List Loc) (ls : Array Slot), 2 ^ v 22 0 - i < n → (i ≤ 2 ^ v 22 0) → (bb = fwr (fw (v 23) (v 22 0) ((2 ^ v 8 j_2 - 1) * 2 ^ (j_2 * 6)) i)) → va_P D vwCl (mW b cI cJ cZ v c) H → va_D A (mW b cI cJ cZ v c) → va_S A s.heap H locs → lv_has ls 5 [(2, .int bb), (3, .int (nI (i))), (0, .ref (b 0)), (1, .int (nI (j_2)))] → W p l e { frames := 2, cells := 0, slots := 0, locals := 45 } s m args below meth c0 H locs 0 0 Q (F0 m 15 ls []) := by
      intro n
      induction n with
      | zero => intro i bb H locs ls hm; exact absurd hm (Nat.not_lt_zero _)
      | succ n ih15 =>
        intro i bb H locs ls hm15 h1 h2 hP hD hS hl
        refine lv_iload_n hx hb dX7_fewest_15 rfl (lv_at hl 1 rfl) ?_
        refine lv_iconst (v := nI (1)) hx hb dX7_fewest_16 (by decide) ?_
        refine lv_aload_n hx hb dX7_fewest_17 rfl (lv_at hl 2 rfl) ?_
        refine va_get (D := D) (ci := 7) (v := .int (nI (v 22 0))) (C := RX7) (T := TX7) (N := 24) hx hb hts hinX7 hown hK hP 0 rfl rfl 22 (by decide) (hts (.fieldLink RX7 106 "DancedLockModel" "families" "I") (List.mem_of_getElem? (i := 1) rfl)) (fun _ h9 => h9) rfl dX7_fewest_18 ?_
        refine w_ishl (x := 1) (y := v 22 0) hx hb dX7_fewest_21 (by omega) (by omega) ?_
        refine w_icmp_ge (x := i) (y := 1 * 2 ^ (v 22 0)) hx hb dX7_fewest_22 (tgt := 75) (by decide) (by omega) (by omega) (fun c22 => ?_) (fun c22 => ?_)
        · skip
          refine lv_iload_n hx hb dX7_fewest_75 rfl (lv_at hl 0 rfl) ?_
          exact hret (bb) () _ _ 76 _ dX7_fewest_76 rfl (by have e : i = 2 ^ v 22 0 := (by omega); subst e; exact Or.inl ⟨j_2, h_2, rfl, h2⟩) hP hD hS
        · skip
          refine lv_iload_n hx hb dX7_fewest_25 rfl (lv_at hl 0 rfl) ?_
          refine lv_bipush (v := -9) hx hb dX7_fewest_26 (by decide) ?_
          refine lv_icmp_eq (x := bb) (y := (-9)) hx hb dX7_fewest_28 (tgt := 42) (by decide) (fun c28 => ?_) (fun c28 => ?_)
          · skip
            refine lv_iconst (v := nI (1)) hx hb dX7_fewest_42 (by decide) ?_
            refine lv_goto (tgt := 47) hx hb dX7_fewest_43 (by decide) ?_
            refine lv_istore (lv' := [(4, .int (nI (1))), (2, .int bb), (3, .int (nI (i))), (0, .ref (b 0)), (1, .int (nI (j_2)))]) hx hb dX7_fewest_47 hl (by decide) rfl (fun ls hl => ?_)
            refine lv_iload hx hb dX7_fewest_49 (lv_at hl 0 rfl) ?_
            refine w_if_eq (x := 1) hx hb dX7_fewest_51 (tgt := 67) (by decide) (by decide) (fun h => absurd h (by decide)) (fun _ => ?_)
            refine lv_aload_n hx hb dX7_fewest_54 rfl (lv_at hl 3 rfl) ?_
            refine lv_iload_n hx hb dX7_fewest_55 rfl (lv_at hl 2 rfl) ?_
            refine lv_iload_n hx hb dX7_fewest_56 rfl (lv_at hl 4 rfl) ?_
            refine w_cVi (rest := []) hx hb hml hown hts (m_knowAll l D b cI cJ cZ A v c i j_2  (by exact hI) (by omega) (by exact h_2)) 2 gX7_fewest_X7_knowAll rfl hdX7_knowAll ⟨Nat.le_of_ble_eq_true rfl, Nat.le_of_ble_eq_true rfl⟩ hK hN hP hD hS hA 0 7 rfl rfl rfl rfl hl.1 rfl (Nat.le_of_ble_eq_true rfl) dX7_fewest_57 ⟨Nat.le_of_ble_eq_true rfl, Nat.le_of_ble_eq_true rfl⟩ (fun r u H locs hq hP hD hS => ?_)
            rcases hq with ⟨rfl, h_57⟩ | ⟨rfl, h_57⟩
            · skip
              have hP : va_P D vwCl (mW b cI cJ cZ v c) H := hP
              have hD : va_D A (mW b cI cJ cZ v c) := hD
              refine w_if_eq (x := 1) hx hb dX7_fewest_60 (tgt := 67) (by decide) (by decide) (fun h => absurd h (by decide)) (fun _ => ?_)
              refine lv_iload_n hx hb dX7_fewest_63 rfl (lv_at hl 2 rfl) ?_
              refine lv_goto (tgt := 68) hx hb dX7_fewest_64 (by decide) ?_
              refine lv_istore_n (lv' := [(2, .int (nI (i))), (4, .int (nI (1))), (3, .int (nI (i))), (0, .ref (b 0)), (1, .int (nI (j_2)))]) hx hb dX7_fewest_68 rfl hl (by decide) rfl (fun ls hl => ?_)
              refine lv_iinc (v := nI (i + 1)) (lv' := [(3, .int (nI (i + 1))), (2, .int (nI (i))), (4, .int (nI (1))), (0, .ref (b 0)), (1, .int (nI (j_2)))]) hx hb dX7_fewest_69 hl (k := 2) rfl (nI_add i 1) (by decide) rfl (fun ls hl => ?_)
              refine lv_goto (tgt := 15) hx hb dX7_fewest_72 (by decide) ?_
              exact ih15 (i + 1) (nI (i)) _ _ _ (by omega) (by omega) (by first | exact fw_s1 (by omega) h2 c28 h_57 | exact fw_s2 (by omega) hbe h_57 (by omega) | exact fw_s4 h2 h_57 | exact fw_s3 h2 hbe (by omega)) hP hD hS (lv_sub hl [1, 0, 3, 4] rfl)
            · skip
              have hP : va_P D vwCl (mW b cI cJ cZ v c) H := hP
              have hD : va_D A (mW b cI cJ cZ v c) := hD
              refine w_if_eq (x := 0) hx hb dX7_fewest_60 (tgt := 67) (by decide) (by decide) (fun _ => ?_) (fun h => absurd h (by decide))
              refine lv_iload_n hx hb dX7_fewest_67 rfl (lv_at hl 1 rfl) ?_
              refine lv_istore_n (lv' := [(2, .int bb), (4, .int (nI (1))), (3, .int (nI (i))), (0, .ref (b 0)), (1, .int (nI (j_2)))]) hx hb dX7_fewest_68 rfl hl (by decide) rfl (fun ls hl => ?_)
              refine lv_iinc (v := nI (i + 1)) (lv' := [(3, .int (nI (i + 1))), (2, .int bb), (4, .int (nI (1))), (0, .ref (b 0)), (1, .int (nI (j_2)))]) hx hb dX7_fewest_69 hl (k := 2) rfl (nI_add i 1) (by decide) rfl (fun ls hl => ?_)
              refine lv_goto (tgt := 15) hx hb dX7_fewest_72 (by decide) ?_
              exact ih15 (i + 1) bb _ _ _ (by omega) (by omega) (by first | exact fw_s1 (by omega) h2 c28 h_57 | exact fw_s2 (by omega) hbe h_57 (by omega) | exact fw_s4 h2 h_57 | exact fw_s3 h2 hbe (by omega)) hP hD hS (lv_sub hl [1, 0, 3, 4] rfl)
          · skip
            obtain ⟨bx, hbx, hbe, rfl⟩ := fw_idx h2 c28
            refine lv_iload_n hx hb dX7_fewest_31 rfl (lv_at hl 1 rfl) ?_
            refine w_cSi (rest := []) hx hb hml hown hts (m_size l D b cI cJ cZ A v c i  (by first | assumption | omega)) 1 gX7_fewest_X7_size rfl hdX7_size ⟨Nat.le_of_ble_eq_true rfl, Nat.le_of_ble_eq_true rfl⟩ hK hN hP hD hS hA rfl hl.1 rfl (Nat.le_of_ble_eq_true rfl) dX7_fewest_32 ⟨Nat.le_of_ble_eq_true rfl, Nat.le_of_ble_eq_true rfl⟩ (fun r u H locs hq hP hD hS => ?_)
            obtain rfl := hq
            have hP : va_P D vwCl (mW b cI cJ cZ v c) H := hP
            have hD : va_D A (mW b cI cJ cZ v c) := hD
            refine lv_iload_n hx hb dX7_fewest_35 rfl (lv_at hl 0 rfl) ?_
            refine w_cSi (rest := [.int (nI (pc i))]) hx hb hml hown hts (m_size l D b cI cJ cZ A v c bx  (by first | assumption | omega)) 1 gX7_fewest_X7_size rfl hdX7_size ⟨Nat.le_of_ble_eq_true rfl, Nat.le_of_ble_eq_true rfl⟩ hK hN hP hD hS hA rfl hl.1 rfl (Nat.le_of_ble_eq_true rfl) dX7_fewest_36 ⟨Nat.le_of_ble_eq_true rfl, Nat.le_of_ble_eq_true rfl⟩ (fun r u H locs hq hP hD hS => ?_)
            obtain rfl := hq
            have hP : va_P D vwCl (mW b cI cJ cZ v c) H := hP
            have hD : va_D A (mW b cI cJ cZ v c) := hD
            have u1 := pc_le i
            have u2 := pc_le bx
            refine w_icmp_ge (x := pc i) (y := pc bx) hx hb dX7_fewest_39 (tgt := 46) (by decide) (by omega) (by omega) (fun c39 => ?_) (fun c39 => ?_)
            · skip
              refine lv_iconst (v := nI (0)) hx hb dX7_fewest_46 (by decide) ?_
              refine lv_istore (lv' := [(4, .int (nI (0))), (2, .int (nI (bx))), (3, .int (nI (i))), (0, .ref (b 0)), (1, .int (nI (j_2)))]) hx hb dX7_fewest_47 hl (by decide) rfl (fun ls hl => ?_)
              refine lv_iload hx hb dX7_fewest_49 (lv_at hl 0 rfl) ?_
              refine w_if_eq (x := 0) hx hb dX7_fewest_51 (tgt := 67) (by decide) (by decide) (fun _ => ?_) (fun h => absurd h (by decide))
              refine lv_iload_n hx hb dX7_fewest_67 rfl (lv_at hl 1 rfl) ?_
              refine lv_istore_n (lv' := [(2, .int (nI (bx))), (4, .int (nI (0))), (3, .int (nI (i))), (0, .ref (b 0)), (1, .int (nI (j_2)))]) hx hb dX7_fewest_68 rfl hl (by decide) rfl (fun ls hl => ?_)
              refine lv_iinc (v := nI (i + 1)) (lv' := [(3, .int (nI (i + 1))), (2, .int (nI (bx))), (4, .int (nI (0))), (0, .ref (b 0)), (1, .int (nI (j_2)))]) hx hb dX7_fewest_69 hl (k := 2) rfl (nI_add i 1) (by decide) rfl (fun ls hl => ?_)
              refine lv_goto (tgt := 15) hx hb dX7_fewest_72 (by decide) ?_
              exact ih15 (i + 1) (nI (bx)) _ _ _ (by omega) (by omega) (by first | exact fw_s1 (by omega) h2 c28 h_57 | exact fw_s2 (by omega) hbe h_57 (by omega) | exact fw_s4 h2 h_57 | exact fw_s3 h2 hbe (by omega)) hP hD hS (lv_sub hl [1, 0, 3, 4] rfl)
            · skip
              refine lv_iconst (v := nI (1)) hx hb dX7_fewest_42 (by decide) ?_
              refine lv_goto (tgt := 47) hx hb dX7_fewest_43 (by decide) ?_
              refine lv_istore (lv' := [(4, .int (nI (1))), (2, .int (nI (bx))), (3, .int (nI (i))), (0, .ref (b 0)), (1, .int (nI (j_2)))]) hx hb dX7_fewest_47 hl (by decide) rfl (fun ls hl => ?_)
              refine lv_iload hx hb dX7_fewest_49 (lv_at hl 0 rfl) ?_
              refine w_if_eq (x := 1) hx hb dX7_fewest_51 (tgt := 67) (by decide) (by decide) (fun h => absurd h (by decide)) (fun _ => ?_)
              refine lv_aload_n hx hb dX7_fewest_54 rfl (lv_at hl 3 rfl) ?_
              refine lv_iload_n hx hb dX7_fewest_55 rfl (lv_at hl 2 rfl) ?_
              refine lv_iload_n hx hb dX7_fewest_56 rfl (lv_at hl 4 rfl) ?_
              refine w_cVi (rest := []) hx hb hml hown hts (m_knowAll l D b cI cJ cZ A v c i j_2  (by exact hI) (by omega) (by exact h_2)) 2 gX7_fewest_X7_knowAll rfl hdX7_knowAll ⟨Nat.le_of_ble_eq_true rfl, Nat.le_of_ble_eq_true rfl⟩ hK hN hP hD hS hA 0 7 rfl rfl rfl rfl hl.1 rfl (Nat.le_of_ble_eq_true rfl) dX7_fewest_57 ⟨Nat.le_of_ble_eq_true rfl, Nat.le_of_ble_eq_true rfl⟩ (fun r u H locs hq hP hD hS => ?_)
              rcases hq with ⟨rfl, h_57⟩ | ⟨rfl, h_57⟩
              · skip
                have hP : va_P D vwCl (mW b cI cJ cZ v c) H := hP
                have hD : va_D A (mW b cI cJ cZ v c) := hD
                refine w_if_eq (x := 1) hx hb dX7_fewest_60 (tgt := 67) (by decide) (by decide) (fun h => absurd h (by decide)) (fun _ => ?_)
                refine lv_iload_n hx hb dX7_fewest_63 rfl (lv_at hl 2 rfl) ?_
                refine lv_goto (tgt := 68) hx hb dX7_fewest_64 (by decide) ?_
                refine lv_istore_n (lv' := [(2, .int (nI (i))), (4, .int (nI (1))), (3, .int (nI (i))), (0, .ref (b 0)), (1, .int (nI (j_2)))]) hx hb dX7_fewest_68 rfl hl (by decide) rfl (fun ls hl => ?_)
                refine lv_iinc (v := nI (i + 1)) (lv' := [(3, .int (nI (i + 1))), (2, .int (nI (i))), (4, .int (nI (1))), (0, .ref (b 0)), (1, .int (nI (j_2)))]) hx hb dX7_fewest_69 hl (k := 2) rfl (nI_add i 1) (by decide) rfl (fun ls hl => ?_)
                refine lv_goto (tgt := 15) hx hb dX7_fewest_72 (by decide) ?_
                exact ih15 (i + 1) (nI (i)) _ _ _ (by omega) (by omega) (by first | exact fw_s1 (by omega) h2 c28 h_57 | exact fw_s2 (by omega) hbe h_57 (by omega) | exact fw_s4 h2 h_57 | exact fw_s3 h2 hbe (by omega)) hP hD hS (lv_sub hl [1, 0, 3, 4] rfl)
              · skip
                have hP : va_P D vwCl (mW b cI cJ cZ v c) H := hP
                have hD : va_D A (mW b cI cJ cZ v c) := hD
                refine w_if_eq (x := 0) hx hb dX7_fewest_60 (tgt := 67) (by decide) (by decide) (fun _ => ?_) (fun h => absurd h (by decide))
                refine lv_iload_n hx hb dX7_fewest_67 rfl (lv_at hl 1 rfl) ?_
                refine lv_istore_n (lv' := [(2, .int (nI (bx))), (4, .int (nI (1))), (3, .int (nI (i))), (0, .ref (b 0)), (1, .int (nI (j_2)))]) hx hb dX7_fewest_68 rfl hl (by decide) rfl (fun ls hl => ?_)
                refine lv_iinc (v := nI (i + 1)) (lv' := [(3, .int (nI (i + 1))), (2, .int (nI (bx))), (4, .int (nI (1))), (0, .ref (b 0)), (1, .int (nI (j_2)))]) hx hb dX7_fewest_69 hl (k := 2) rfl (nI_add i 1) (by decide) rfl (fun ls hl => ?_)
                refine lv_goto (tgt := 15) hx hb dX7_fewest_72 (by decide) ?_
                exact ih15 (i + 1) (nI (bx)) _ _ _ (by omega) (by omega) (by first | exact fw_s1 (by omega) h2 c28 h_57 | exact fw_s2 (by omega) hbe h_57 (by omega) | exact fw_s4 h2 h_57 | exact fw_s3 h2 hbe (by omega)) hP hD hS (lv_sub hl [1, 0, 3, 4] rfl)
    exact L15 ((2 ^ v 22 0 - 0) + 1) 0 (-9) _ _ _ (Nat.lt_succ_self _) (by omega) (by rfl) hP hD hS (lv_sub hl [1, 0, 2, 3] rfl)
  · skip
    have hP : va_P D vwCl (mW b cI cJ cZ v c) H := hP
    have hD : va_D A (mW b cI cJ cZ v c) := hD
    refine w_if_ne (x := 0) hx hb dX7_fewest_5 (tgt := 10) (by decide) (by decide) (fun h => absurd h (by decide)) (fun _ => ?_)
    refine lv_iconst (v := -1) hx hb dX7_fewest_8 (by decide) ?_
    exact hret ((-1)) () _ _ 9 _ dX7_fewest_9 rfl (by exact Or.inr ⟨nR_of (by omega) h_2, rfl⟩) hP hD hS
