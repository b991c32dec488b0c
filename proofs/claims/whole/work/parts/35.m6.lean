/-! ===== the model: dances ===== -/
theorem mx_of {v w : Nat → Nat → Nat} {c d : Nat → Nat → Int32} {P : Nat → Prop} {F : Nat} (hm : MI w d) (hp : P F) (h0 : w 0 0 = F) (e : vM w 3 = vM v 3 ∧ vM w 11 = vM v 11 ∧ vM w 12 = vM v 12 ∧ vM w 13 = vM v 13 ∧ vM w 14 = vM v 14 ∧ vM w 15 = vM v 15 ∧ vM w 16 = vM v 16 ∧ vM w 17 = vM v 17 ∧ vM w 23 = vM v 23 ∧ vM w 24 = vM v 24 ∧ cM d 2 = cM c 2 ∧ cM d 4 = cM c 4 ∧ cM d 0 7 = cM c 0 7) : MI w d ∧ ∃ F, P F ∧ XS (vM v) (cM c) (vM w, cM d) F :=
  ⟨hm, F, hp, hm.1, h0, e⟩
set_option maxHeartbeats 4000000 in
set_option maxRecDepth 100000 in
theorem m_weighsX (l : Launch) (D : va_G) (b : Nat → Nat) (cI cJ cZ : ClassId) (A : Nat → Prop) (v : Nat → Nat → Nat) (c : Nat → Nat → Int32) (dd : Nat) (hX : XI (vM v)) (hd : dd < v 16 0) :
    mI l yX7_weighs wsX7_weighs 0 0 [.ref (b 0), .int (nI dd)] D (xT cI cJ cZ) A (mW b cI cJ cZ v c) (fun _ : Unit => mW b cI cJ cZ v c)
    (fun (r : Int32) (u : Unit) => r = nI (pA (v 17) (v 18) dd)) := by
  refine w_bI cX7_weighs 2 .int (by decide) rfl (Nat.le_of_ble_eq_true rfl) (Or.inl rfl) ?_
  intro p e s m args below meth c0 ls Q hx hb hml hts hown hK hN hA hret hP hD hS hl
  have hl : lv_has ls 2 [(0, .ref (b 0)), (1, .int (nI (dd)))] := hl
  have hinX7 : ∀ w ∈ wsX70, w ∈ wsX7_weighs := fun w h => List.mem_cons_of_mem _ (List.mem_append_right _ h)
  obtain ⟨hnb, hnd, hbt, hfg, hne, hnc, hdk, hnf, hkn, hln, hst, hdc, hsp⟩ := MX_o hX
  have hkd := hdk dd hd
  refine lv_aload_n hx hb dX7_weighs_0 rfl (lv_at hl 0 rfl) ?_
  refine va_get (D := D) (ci := 7) (v := .ref (b 17)) (C := RX7) (T := TX7) (N := 24) hx hb hts hinX7 hown hK hP 0 rfl rfl 17 (by decide) (hts (.fieldLink RX7 37 "DancedLockModel" "kind" "[I") (List.mem_of_getElem? (i := 1) rfl)) (fun _ h9 => h9) rfl dX7_weighs_1 ?_
  refine lv_iload_n hx hb dX7_weighs_4 rfl (lv_at hl 1 rfl) ?_
  refine w_iald (f := v 17) hx hb hK hP 10 0 rfl rfl (i := dd) (by omega) (by decide) dX7_weighs_5 ?_
  refine lv_iconst (v := nI (2)) hx hb dX7_weighs_6 (by decide) ?_
  refine w_icmp_ne (x := v 17 dd) (y := 2) hx hb dX7_weighs_7 (tgt := 21) (by decide) (by omega) (by omega) (fun c7 => ?_) (fun c7 => ?_)
  · skip
    refine lv_aload_n hx hb dX7_weighs_21 rfl (lv_at hl 0 rfl) ?_
    refine va_get (D := D) (ci := 7) (v := .ref (b 18)) (C := RX7) (T := TX7) (N := 24) hx hb hts hinX7 hown hK hP 0 rfl rfl 18 (by decide) (hts (.fieldLink RX7 40 "DancedLockModel" "weight" "[I") (List.mem_of_getElem? (i := 2) rfl)) (fun _ h9 => h9) rfl dX7_weighs_22 ?_
    refine lv_iload_n hx hb dX7_weighs_25 rfl (lv_at hl 1 rfl) ?_
    refine w_iald (f := v 18) hx hb hK hP 11 0 rfl rfl (i := dd) (by omega) (by decide) dX7_weighs_26 ?_
    exact hret (nI (v 18 dd)) () _ _ 27 _ dX7_weighs_27 rfl (by show _ = nI (if _ then _ else _); first | rw [if_pos c7] | rw [if_neg c7]) hP hD hS
  · skip
    refine lv_aload_n hx hb dX7_weighs_10 rfl (lv_at hl 0 rfl) ?_
    refine va_get (D := D) (ci := 7) (v := .ref (b 18)) (C := RX7) (T := TX7) (N := 24) hx hb hts hinX7 hown hK hP 0 rfl rfl 18 (by decide) (hts (.fieldLink RX7 40 "DancedLockModel" "weight" "[I") (List.mem_of_getElem? (i := 2) rfl)) (fun _ h9 => h9) rfl dX7_weighs_11 ?_
    refine lv_iload_n hx hb dX7_weighs_14 rfl (lv_at hl 1 rfl) ?_
    refine w_iald (f := v 18) hx hb hK hP 11 0 rfl rfl (i := dd) (by omega) (by decide) dX7_weighs_15 ?_
    refine lv_iconst (v := nI (2)) hx hb dX7_weighs_16 (by decide) ?_
    refine w_idiv (x := v 18 dd) (y := 2) hx hb dX7_weighs_17 (by omega) (by omega) (by omega) ?_
    refine lv_goto (tgt := 27) hx hb dX7_weighs_18 (by decide) ?_
    exact hret (nI ((v 18 dd) / 2)) () _ _ 27 _ dX7_weighs_27 rfl (by show _ = nI (if _ then _ else _); first | rw [if_pos c7] | rw [if_neg c7]) hP hD hS

set_option maxHeartbeats 4000000 in
set_option maxRecDepth 100000 in
theorem m_limps (l : Launch) (D : va_G) (b : Nat → Nat) (cI cJ cZ : ClassId) (A : Nat → Prop) (v : Nat → Nat → Nat) (c : Nat → Nat → Int32) (k : Nat) (d : Nat) (hX : XI (vM v)) (hw : v 20 0 ≤ 1) (hk : k < 8) (hd : d < v 16 0) :
    mI l yX7_limps wsX7_limps 0 0 [.ref (b 0), .int (nI k), .int (nI d)] D (xT cI cJ cZ) A (mW b cI cJ cZ v c) (fun _ : Unit => mW b cI cJ cZ v c)
    (fun (r : Int32) (u : Unit) => (r = nI (1) ∧ k % 2 = 1 ∧ (mL (v 20 0) (v 17)) d ≠ 0) ∨ (r = nI (0) ∧ (¬ (k % 2 = 1 ∧ (mL (v 20 0) (v 17)) d ≠ 0)))) := by
  refine w_bI cX7_limps 3 .boolean (by decide) rfl (Nat.le_of_ble_eq_true rfl) (Or.inr rfl) ?_
  intro p e s m args below meth c0 ls Q hx hb hml hts hown hK hN hA hret hP hD hS hl
  have hl : lv_has ls 3 [(0, .ref (b 0)), (1, .int (nI (k))), (2, .int (nI (d)))] := hl
  have hinX7 : ∀ w ∈ wsX70, w ∈ wsX7_limps := fun w h => List.mem_cons_of_mem _ (List.mem_append_right _ h)
  obtain ⟨hnb, hnd, hbt, hfg, hne, hnc, hdk, hnf, hkn, hln, hst, hdc, hsp⟩ := MX_o hX
  have hkd := hdk d hd
  refine lv_aload_n hx hb dX7_limps_0 rfl (lv_at hl 0 rfl) ?_
  refine va_get (D := D) (ci := 7) (v := .int (nI (v 20 0))) (C := RX7) (T := TX7) (N := 24) hx hb hts hinX7 hown hK hP 0 rfl rfl 20 (by decide) (hts (.fieldLink RX7 139 "DancedLockModel" "areWhole" "Z") (List.mem_of_getElem? (i := 1) rfl)) (fun _ h9 => h9) rfl dX7_limps_1 ?_
  refine w_if_ne (x := v 20 0) hx hb dX7_limps_4 (tgt := 27) (by decide) (by omega) (fun c4 => ?_) (fun c4 => ?_)
  · skip
    refine lv_iconst (v := nI (0)) hx hb dX7_limps_27 (by decide) ?_
    exact hret (nI (0)) () _ _ 28 _ dX7_limps_28 rfl (by first | exact Or.inr ⟨rfl, fun y => y.2 (mL_z c4)⟩ | exact Or.inr ⟨rfl, fun y => y.2 (mL_k c20)⟩ | exact Or.inr ⟨rfl, fun y => c11 y.1⟩) hP hD hS
  · skip
    refine lv_iload_n hx hb dX7_limps_7 rfl (lv_at hl 1 rfl) ?_
    refine lv_iconst (v := nI (2)) hx hb dX7_limps_8 (by decide) ?_
    refine w_irem (x := k) (y := 2) hx hb dX7_limps_9 (by omega) (by omega) (by omega) ?_
    refine lv_iconst (v := nI (1)) hx hb dX7_limps_10 (by decide) ?_
    refine w_icmp_ne (x := k % 2) (y := 1) hx hb dX7_limps_11 (tgt := 27) (by decide) (by omega) (by omega) (fun c11 => ?_) (fun c11 => ?_)
    · skip
      refine lv_iconst (v := nI (0)) hx hb dX7_limps_27 (by decide) ?_
      exact hret (nI (0)) () _ _ 28 _ dX7_limps_28 rfl (by first | exact Or.inr ⟨rfl, fun y => y.2 (mL_z c4)⟩ | exact Or.inr ⟨rfl, fun y => y.2 (mL_k c20)⟩ | exact Or.inr ⟨rfl, fun y => c11 y.1⟩) hP hD hS
    · skip
      refine lv_aload_n hx hb dX7_limps_14 rfl (lv_at hl 0 rfl) ?_
      refine va_get (D := D) (ci := 7) (v := .ref (b 17)) (C := RX7) (T := TX7) (N := 24) hx hb hts hinX7 hown hK hP 0 rfl rfl 17 (by decide) (hts (.fieldLink RX7 37 "DancedLockModel" "kind" "[I") (List.mem_of_getElem? (i := 2) rfl)) (fun _ h9 => h9) rfl dX7_limps_15 ?_
      refine lv_iload_n hx hb dX7_limps_18 rfl (lv_at hl 2 rfl) ?_
      refine w_iald (f := v 17) hx hb hK hP 10 0 rfl rfl (i := d) (by omega) (by decide) dX7_limps_19 ?_
      refine w_if_le (x := v 17 d) hx hb dX7_limps_20 (tgt := 27) (by decide) (by omega) (fun c20 => ?_) (fun c20 => ?_)
      · skip
        refine lv_iconst (v := nI (0)) hx hb dX7_limps_27 (by decide) ?_
        exact hret (nI (0)) () _ _ 28 _ dX7_limps_28 rfl (by first | exact Or.inr ⟨rfl, fun y => y.2 (mL_z c4)⟩ | exact Or.inr ⟨rfl, fun y => y.2 (mL_k c20)⟩ | exact Or.inr ⟨rfl, fun y => c11 y.1⟩) hP hD hS
      · skip
        refine lv_iconst (v := nI (1)) hx hb dX7_limps_23 (by decide) ?_
        refine lv_goto (tgt := 28) hx hb dX7_limps_24 (by decide) ?_
        exact hret (nI (1)) () _ _ 28 _ dX7_limps_28 rfl (by exact Or.inl ⟨rfl, c11, mL_p c4 c20⟩) hP hD hS

set_option maxHeartbeats 4000000 in
set_option maxRecDepth 100000 in
theorem m_feltIn (l : Launch) (D : va_G) (b : Nat → Nat) (cI cJ cZ : ClassId) (A : Nat → Prop) (v : Nat → Nat → Nat) (c : Nat → Nat → Int32) (k : Nat) (hX : XI (vM v)) (hw : v 20 0 ≤ 1) (hk : k < 6) :
    mI l yX7_feltIn wsX7_feltIn 1 22 [.ref (b 0), .int (nI k)] D (xT cI cJ cZ) A (mW b cI cJ cZ v c) (fun _ : Unit => mW b cI cJ cZ v c)
    (fun (r : Int32) (u : Unit) => r = nI (FE (v 5 0) (v 7) (v 16 0) (mL (v 20 0) (v 17)) (mP (v 20 0) (v 17) (v 18)) (v 19) k)) := by
  refine w_bI cX7_feltIn 7 .int (by decide) rfl (Nat.le_of_ble_eq_true rfl) (Or.inl rfl) ?_
  intro p e s m args below meth c0 ls Q hx hb hml hts hown hK hN hA hret hP hD hS hl
  have hl : lv_has ls 7 [(0, .ref (b 0)), (1, .int (nI (k)))] := hl
  have hinX7 : ∀ w ∈ wsX70, w ∈ wsX7_feltIn := fun w h => List.mem_cons_of_mem _ (List.mem_append_right _ h)
  obtain ⟨hnb, hnd, hbt, hfg, hne, hnc, hdk, hnf, hkn, hln, hst, hdc, hsp⟩ := MX_o hX
  refine lv_iconst (v := nI (0)) hx hb dX7_feltIn_0 (by decide) ?_
  refine lv_istore_n (lv' := [(2, .int (nI (0))), (0, .ref (b 0)), (1, .int (nI (k)))]) hx hb dX7_feltIn_1 rfl hl (by decide) rfl (fun ls hl => ?_)
  refine lv_iconst (v := nI (0)) hx hb dX7_feltIn_2 (by decide) ?_
  refine lv_istore_n (lv' := [(3, .int (nI (0))), (2, .int (nI (0))), (0, .ref (b 0)), (1, .int (nI (k)))]) hx hb dX7_feltIn_3 rfl hl (by decide) rfl (fun ls hl => ?_)
  have L4 : ∀ (n : Nat) (i : Nat) (q : Nat) (H : Heap) (locs : List Loc) (ls : Array Slot), v 5 0 - i < n → (i ≤ v 5 0) → (q = fe (fun b => sm (fun d => if tr (mL (v 20 0) (v 17)) (v 19) k d = b then (mP (v 20 0) (v 17) (v 18)) d else 0) (v 16 0)) (v 7) i) → va_P D vwCl (mW b cI cJ cZ v c) H → va_D A (mW b cI cJ cZ v c) → va_S A s.heap H locs → lv_has ls 7 [(2, .int (nI (q))), (3, .int (nI (i))), (0, .ref (b 0)), (1, .int (nI (k)))] → W p l e { frames := 1, cells := 0, slots := 0, locals := 22 } s m args below meth c0 H locs 0 0 Q (F0 m 4 ls []) := by
    intro n
    induction n with
    | zero => intro i q H locs ls hm; exact absurd hm (Nat.not_lt_zero _)
    | succ n ih4 =>
      intro i q H locs ls hm4 h1 h2 hP hD hS hl
      refine lv_iload_n hx hb dX7_feltIn_4 rfl (lv_at hl 1 rfl) ?_
      refine lv_aload_n hx hb dX7_feltIn_5 rfl (lv_at hl 2 rfl) ?_
      refine va_get (D := D) (ci := 7) (v := .int (nI (v 5 0))) (C := RX7) (T := TX7) (N := 24) hx hb hts hinX7 hown hK hP 0 rfl rfl 5 (by decide) (hts (.fieldLink RX7 63 "DancedLockModel" "boards" "I") (List.mem_of_getElem? (i := 1) rfl)) (fun _ h9 => h9) rfl dX7_feltIn_6 ?_
      refine w_icmp_ge (x := i) (y := v 5 0) hx hb dX7_feltIn_9 (tgt := 127) (by decide) (by omega) (by omega) (fun c9 => ?_) (fun c9 => ?_)
      · skip
        refine lv_iload_n hx hb dX7_feltIn_127 rfl (lv_at hl 0 rfl) ?_
        exact hret (nI (q)) () _ _ 128 _ dX7_feltIn_128 rfl (by have e : i = v 5 0 := (by omega); rw [h2, e]; rfl) hP hD hS
      · skip
        refine lv_iconst (v := nI (0)) hx hb dX7_feltIn_12 (by decide) ?_
        refine lv_istore (lv' := [(4, .int (nI (0))), (2, .int (nI (q))), (3, .int (nI (i))), (0, .ref (b 0)), (1, .int (nI (k)))]) hx hb dX7_feltIn_13 hl (by decide) rfl (fun ls hl => ?_)
        refine lv_iconst (v := nI (0)) hx hb dX7_feltIn_15 (by decide) ?_
        refine lv_istore (lv' := [(5, .int (nI (0))), (4, .int (nI (0))), (2, .int (nI (q))), (3, .int (nI (i))), (0, .ref (b 0)), (1, .int (nI (k)))]) hx hb dX7_feltIn_16 hl (by decide) rfl (fun ls hl => ?_)
        have L18 : ∀ (n : Nat) (j : Nat) (y : Nat) (H : Heap) (locs : List Loc) (ls : Array Slot), v 16 0 - j < n → (j ≤ v 16 0) → (y = sm (fun d => if tr (mL (v 20 0) (v 17)) (v 19) k d = i then (mP (v 20 0) (v 17) (v 18)) d else 0) j) → (y ≤ 9 * j) → va_P D vwCl (mW b cI cJ cZ v c) H → va_D A (mW b cI cJ cZ v c) → va_S A s.heap H locs → lv_has ls 7 [(4, .int (nI (y))), (5, .int (nI (j))), (0, .ref (b 0)), (1, .int (nI (k))), (2, .int (nI (q))), (3, .int (nI (i)))] → W p l e { frames := 1, cells := 0, slots := 0, locals := 22 } s m args below meth c0 H locs 0 0 Q (F0 m 18 ls []) := by
          intro n
          induction n with
          | zero => intro j y H locs ls hm; exact absurd hm (Nat.not_lt_zero _)
          | succ n ih18 =>
            intro j y H locs ls hm18 k1 k2 k3 hP hD hS hl
            refine lv_iload hx hb dX7_feltIn_18 (lv_at hl 1 rfl) ?_
            refine lv_aload_n hx hb dX7_feltIn_20 rfl (lv_at hl 2 rfl) ?_
            refine va_get (D := D) (ci := 7) (v := .int (nI (v 16 0))) (C := RX7) (T := TX7) (N := 24) hx hb hts hinX7 hown hK hP 0 rfl rfl 16 (by decide) (hts (.fieldLink RX7 103 "DancedLockModel" "dancers" "I") (List.mem_of_getElem? (i := 2) rfl)) (fun _ h9 => h9) rfl dX7_feltIn_21 ?_
            refine w_icmp_ge (x := j) (y := v 16 0) hx hb dX7_feltIn_24 (tgt := 100) (by decide) (by omega) (by omega) (fun c24 => ?_) (fun c24 => ?_)
            · skip
              refine lv_iload_n hx hb dX7_feltIn_100 rfl (lv_at hl 4 rfl) ?_
              refine lv_iload hx hb dX7_feltIn_101 (lv_at hl 0 rfl) ?_
              refine lv_aload_n hx hb dX7_feltIn_103 rfl (lv_at hl 2 rfl) ?_
              have hni := hne i (by omega)
              refine va_get (D := D) (ci := 7) (v := .ref (b 7)) (C := RX7) (T := TX7) (N := 24) hx hb hts hinX7 hown hK hP 0 rfl rfl 7 (by decide) (hts (.fieldLink RX7 19 "DancedLockModel" "feltFrom" "[I") (List.mem_of_getElem? (i := 6) rfl)) (fun _ h9 => h9) rfl dX7_feltIn_104 ?_
              refine lv_iload_n hx hb dX7_feltIn_107 rfl (lv_at hl 5 rfl) ?_
              refine w_iald (f := v 7) hx hb hK hP 4 0 rfl rfl (i := i) (by omega) (by decide) dX7_feltIn_108 ?_
              refine w_icmp_lt (x := y) (y := v 7 i) hx hb dX7_feltIn_109 (tgt := 118) (by decide) (by omega) (by omega) (fun c109 => ?_) (fun c109 => ?_)
              · skip
                refine lv_iconst (v := nI (0)) hx hb dX7_feltIn_118 (by decide) ?_
                refine w_ior (x := q) (y := 0) hx hb dX7_feltIn_119  ?_
                refine lv_istore_n (lv' := [(2, .int (nI (q ||| 0))), (4, .int (nI (y))), (5, .int (nI (j))), (0, .ref (b 0)), (1, .int (nI (k))), (3, .int (nI (i)))]) hx hb dX7_feltIn_120 rfl hl (by decide) rfl (fun ls hl => ?_)
                refine lv_iinc (v := nI (i + 1)) (lv' := [(3, .int (nI (i + 1))), (2, .int (nI (q ||| 0))), (4, .int (nI (y))), (5, .int (nI (j))), (0, .ref (b 0)), (1, .int (nI (k)))]) hx hb dX7_feltIn_121 hl (k := 5) rfl (nI_add i 1) (by decide) rfl (fun ls hl => ?_)
                refine lv_goto (tgt := 4) hx hb dX7_feltIn_124 (by decide) ?_
                exact ih4 (i + 1) (q ||| 0) _ _ _ (by omega) (by omega) (by have e : j = v 16 0 := (by omega); rw [e] at k2; first | (rw [h2, fe_y (by show _ ≤ sm _ _; rw [← k2]; exact c109), Nat.one_mul]) | (rw [h2, fe_n (by show sm _ _ < _; rw [← k2]; exact c109), Nat.or_zero])) hP hD hS (lv_sub hl [1, 0, 4, 5] rfl)
              · skip
                refine lv_iconst (v := nI (1)) hx hb dX7_feltIn_112 (by decide) ?_
                refine lv_iload_n hx hb dX7_feltIn_113 rfl (lv_at hl 5 rfl) ?_
                refine w_ishl (x := 1) (y := i) hx hb dX7_feltIn_114 (by omega) (by have := pow_le_128 (show i ≤ 7 by omega); omega) ?_
                refine lv_goto (tgt := 119) hx hb dX7_feltIn_115 (by decide) ?_
                refine w_ior (x := q) (y := 1 * 2 ^ i) hx hb dX7_feltIn_119  ?_
                refine lv_istore_n (lv' := [(2, .int (nI (q ||| (1 * 2 ^ i)))), (4, .int (nI (y))), (5, .int (nI (j))), (0, .ref (b 0)), (1, .int (nI (k))), (3, .int (nI (i)))]) hx hb dX7_feltIn_120 rfl hl (by decide) rfl (fun ls hl => ?_)
                refine lv_iinc (v := nI (i + 1)) (lv' := [(3, .int (nI (i + 1))), (2, .int (nI (q ||| (1 * 2 ^ i)))), (4, .int (nI (y))), (5, .int (nI (j))), (0, .ref (b 0)), (1, .int (nI (k)))]) hx hb dX7_feltIn_121 hl (k := 5) rfl (nI_add i 1) (by decide) rfl (fun ls hl => ?_)
                refine lv_goto (tgt := 4) hx hb dX7_feltIn_124 (by decide) ?_
                exact ih4 (i + 1) (q ||| (1 * 2 ^ i)) _ _ _ (by omega) (by omega) (by have e : j = v 16 0 := (by omega); rw [e] at k2; first | (rw [h2, fe_y (by show _ ≤ sm _ _; rw [← k2]; exact c109), Nat.one_mul]) | (rw [h2, fe_n (by show sm _ _ < _; rw [← k2]; exact c109), Nat.or_zero])) hP hD hS (lv_sub hl [1, 0, 4, 5] rfl)
            · skip
              have hkd := hdk j (by omega)
              refine lv_aload_n hx hb dX7_feltIn_27 rfl (lv_at hl 2 rfl) ?_
              refine va_get (D := D) (ci := 7) (v := .ref (b 19)) (C := RX7) (T := TX7) (N := 24) hx hb hts hinX7 hown hK hP 0 rfl rfl 19 (by decide) (hts (.fieldLink RX7 43 "DancedLockModel" "plan" "[I") (List.mem_of_getElem? (i := 3) rfl)) (fun _ h9 => h9) rfl dX7_feltIn_28 ?_
              refine lv_iconst (v := nI (4)) hx hb dX7_feltIn_31 (by decide) ?_
              refine lv_aload_n hx hb dX7_feltIn_32 rfl (lv_at hl 2 rfl) ?_
              refine lv_iload_n hx hb dX7_feltIn_33 rfl (lv_at hl 3 rfl) ?_
              refine lv_iload hx hb dX7_feltIn_34 (lv_at hl 1 rfl) ?_
              refine w_cVi (rest := [.int (nI (4)), .ref (b 19)]) hx hb hml hown hts (m_limps l D b cI cJ cZ A v c k j  (by first | assumption | omega) (by first | assumption | omega) (by omega) (by omega)) 2 gX7_feltIn_X7_limps rfl hdX7_limps ⟨Nat.le_of_ble_eq_true rfl, Nat.le_of_ble_eq_true rfl⟩ hK hN hP hD hS hA 0 7 rfl rfl rfl rfl hl.1 rfl (Nat.le_of_ble_eq_true rfl) dX7_feltIn_36 ⟨Nat.le_of_ble_eq_true rfl, Nat.le_of_ble_eq_true rfl⟩ (fun r u H locs hq hP hD hS => ?_)
              rcases hq with ⟨rfl, h1_36, h2_36⟩ | ⟨rfl, h_36⟩
              · skip
                have hP : va_P D vwCl (mW b cI cJ cZ v c) H := hP
                have hD : va_D A (mW b cI cJ cZ v c) := hD
                refine w_if_eq (x := 1) hx hb dX7_feltIn_39 (tgt := 48) (by decide) (by decide) (fun h => absurd h (by decide)) (fun _ => ?_)
                refine lv_iload_n hx hb dX7_feltIn_42 rfl (lv_at hl 3 rfl) ?_
                refine lv_iconst (v := nI (1)) hx hb dX7_feltIn_43 (by decide) ?_
                refine w_isub (x := k) (y := 1) hx hb dX7_feltIn_44 (by omega) ?_
                refine lv_goto (tgt := 49) hx hb dX7_feltIn_45 (by decide) ?_
                refine w_imul (x := 4) (y := k - 1) hx hb dX7_feltIn_49  ?_
                refine lv_iload hx hb dX7_feltIn_50 (lv_at hl 1 rfl) ?_
                refine w_iadd (x := 4 * (k - 1)) (y := j) hx hb dX7_feltIn_52  ?_
                refine w_iald (f := v 19) hx hb hK hP 12 0 rfl rfl (i := 4 * (k - 1) + j) (by omega) (by decide) dX7_feltIn_53 ?_
                refine lv_istore (lv' := [(6, .int (nI (v 19 (4 * (k - 1) + j)))), (4, .int (nI (y))), (5, .int (nI (j))), (0, .ref (b 0)), (1, .int (nI (k))), (2, .int (nI (q))), (3, .int (nI (i)))]) hx hb dX7_feltIn_54 hl (by decide) rfl (fun ls hl => ?_)
                refine lv_iload hx hb dX7_feltIn_56 (lv_at hl 1 rfl) ?_
                refine lv_iload hx hb dX7_feltIn_58 (lv_at hl 0 rfl) ?_
                refine lv_iload_n hx hb dX7_feltIn_60 rfl (lv_at hl 6 rfl) ?_
                refine w_icmp_eq (x := v 19 (4 * (k - 1) + j)) (y := i) hx hb dX7_feltIn_61 (tgt := 68) (by decide) (by first | (have h9 := hsp (4 * (k - 1) + j) (by omega); omega) | (have h9 := hsp (4 * k + j) (by omega); omega)) (by omega) (fun c61 => ?_) (fun c61 => ?_)
                · skip
                  refine lv_aload_n hx hb dX7_feltIn_68 rfl (lv_at hl 3 rfl) ?_
                  refine va_get (D := D) (ci := 7) (v := .int (nI (v 20 0))) (C := RX7) (T := TX7) (N := 24) hx hb hts hinX7 hown hK hP 0 rfl rfl 20 (by decide) (hts (.fieldLink RX7 139 "DancedLockModel" "areWhole" "Z") (List.mem_of_getElem? (i := 4) rfl)) (fun _ h9 => h9) rfl dX7_feltIn_69 ?_
                  refine w_if_eq (x := v 20 0) hx hb dX7_feltIn_72 (tgt := 85) (by decide) (by omega) (fun c72 => ?_) (fun c72 => ?_)
                  · skip
                    refine lv_aload_n hx hb dX7_feltIn_85 rfl (lv_at hl 3 rfl) ?_
                    refine lv_iload hx hb dX7_feltIn_86 (lv_at hl 2 rfl) ?_
                    refine w_cVi (rest := [.int (nI (y))]) hx hb hml hown hts (m_weighsX l D b cI cJ cZ A v c j  (by exact hX) (by omega)) 1 gX7_feltIn_X7_weighs rfl hdX7_weighs ⟨Nat.le_of_ble_eq_true rfl, Nat.le_of_ble_eq_true rfl⟩ hK hN hP hD hS hA 0 7 rfl rfl rfl rfl hl.1 rfl (Nat.le_of_ble_eq_true rfl) dX7_feltIn_88 ⟨Nat.le_of_ble_eq_true rfl, Nat.le_of_ble_eq_true rfl⟩ (fun r u H locs hq hP hD hS => ?_)
                    obtain rfl := hq
                    have hP : va_P D vwCl (mW b cI cJ cZ v c) H := hP
                    have hD : va_D A (mW b cI cJ cZ v c) := hD
                    refine w_iadd (x := y) (y := pA ((v 17)) ((v 18)) j) hx hb dX7_feltIn_91  ?_
                    refine lv_istore (lv' := [(4, .int (nI (y + (pA ((v 17)) ((v 18)) j)))), (6, .int (nI (v 19 (4 * (k - 1) + j)))), (5, .int (nI (j))), (0, .ref (b 0)), (1, .int (nI (k))), (2, .int (nI (q))), (3, .int (nI (i)))]) hx hb dX7_feltIn_92 hl (by decide) rfl (fun ls hl => ?_)
                    refine lv_iinc (v := nI (j + 1)) (lv' := [(5, .int (nI (j + 1))), (4, .int (nI (y + (pA ((v 17)) ((v 18)) j)))), (6, .int (nI (v 19 (4 * (k - 1) + j)))), (0, .ref (b 0)), (1, .int (nI (k))), (2, .int (nI (q))), (3, .int (nI (i)))]) hx hb dX7_feltIn_94 hl (k := 2) rfl (nI_add j 1) (by decide) rfl (fun ls hl => ?_)
                    refine lv_goto (tgt := 18) hx hb dX7_feltIn_97 (by decide) ?_
                    exact ih18 (j + 1) (y + (pA ((v 17)) ((v 18)) j)) _ _ _ (by omega) (by omega) (by first | exact ft_y k2 (tr_y h1_36 h2_36) c61 (mP_w c72) | exact ft_y k2 (tr_y h1_36 h2_36) c61 (mP_a c72) | exact ft_y k2 (tr_n h_36) c61 (mP_w c72) | exact ft_y k2 (tr_n h_36) c61 (mP_a c72) | exact ft_n k2 (tr_y h1_36 h2_36) c61 | exact ft_n k2 (tr_n h_36) c61) (by first | omega | (have h9 := pA_le (kd := v 17) (wt := v 18) (d := j) hkd.2.2; omega)) hP hD hS (lv_sub hl [1, 0, 3, 4, 5, 6] rfl)
                  · skip
                    refine lv_aload_n hx hb dX7_feltIn_75 rfl (lv_at hl 3 rfl) ?_
                    refine va_get (D := D) (ci := 7) (v := .ref (b 18)) (C := RX7) (T := TX7) (N := 24) hx hb hts hinX7 hown hK hP 0 rfl rfl 18 (by decide) (hts (.fieldLink RX7 40 "DancedLockModel" "weight" "[I") (List.mem_of_getElem? (i := 5) rfl)) (fun _ h9 => h9) rfl dX7_feltIn_76 ?_
                    refine lv_iload hx hb dX7_feltIn_79 (lv_at hl 2 rfl) ?_
                    refine w_iald (f := v 18) hx hb hK hP 11 0 rfl rfl (i := j) (by omega) (by decide) dX7_feltIn_81 ?_
                    refine lv_goto (tgt := 91) hx hb dX7_feltIn_82 (by decide) ?_
                    refine w_iadd (x := y) (y := v 18 j) hx hb dX7_feltIn_91  ?_
                    refine lv_istore (lv' := [(4, .int (nI (y + (v 18 j)))), (6, .int (nI (v 19 (4 * (k - 1) + j)))), (5, .int (nI (j))), (0, .ref (b 0)), (1, .int (nI (k))), (2, .int (nI (q))), (3, .int (nI (i)))]) hx hb dX7_feltIn_92 hl (by decide) rfl (fun ls hl => ?_)
                    refine lv_iinc (v := nI (j + 1)) (lv' := [(5, .int (nI (j + 1))), (4, .int (nI (y + (v 18 j)))), (6, .int (nI (v 19 (4 * (k - 1) + j)))), (0, .ref (b 0)), (1, .int (nI (k))), (2, .int (nI (q))), (3, .int (nI (i)))]) hx hb dX7_feltIn_94 hl (k := 2) rfl (nI_add j 1) (by decide) rfl (fun ls hl => ?_)
                    refine lv_goto (tgt := 18) hx hb dX7_feltIn_97 (by decide) ?_
                    exact ih18 (j + 1) (y + (v 18 j)) _ _ _ (by omega) (by omega) (by first | exact ft_y k2 (tr_y h1_36 h2_36) c61 (mP_w c72) | exact ft_y k2 (tr_y h1_36 h2_36) c61 (mP_a c72) | exact ft_y k2 (tr_n h_36) c61 (mP_w c72) | exact ft_y k2 (tr_n h_36) c61 (mP_a c72) | exact ft_n k2 (tr_y h1_36 h2_36) c61 | exact ft_n k2 (tr_n h_36) c61) (by first | omega | (have h9 := pA_le (kd := v 17) (wt := v 18) (d := j) hkd.2.2; omega)) hP hD hS (lv_sub hl [1, 0, 3, 4, 5, 6] rfl)
                · skip
                  refine lv_iconst (v := nI (0)) hx hb dX7_feltIn_64 (by decide) ?_
                  refine lv_goto (tgt := 91) hx hb dX7_feltIn_65 (by decide) ?_
                  refine w_iadd (x := y) (y := 0) hx hb dX7_feltIn_91  ?_
                  rw [show y + 0 = y from by omega]
                  refine lv_istore (lv' := [(4, .int (nI (y))), (6, .int (nI (v 19 (4 * (k - 1) + j)))), (5, .int (nI (j))), (0, .ref (b 0)), (1, .int (nI (k))), (2, .int (nI (q))), (3, .int (nI (i)))]) hx hb dX7_feltIn_92 hl (by decide) rfl (fun ls hl => ?_)
                  refine lv_iinc (v := nI (j + 1)) (lv' := [(5, .int (nI (j + 1))), (4, .int (nI (y))), (6, .int (nI (v 19 (4 * (k - 1) + j)))), (0, .ref (b 0)), (1, .int (nI (k))), (2, .int (nI (q))), (3, .int (nI (i)))]) hx hb dX7_feltIn_94 hl (k := 2) rfl (nI_add j 1) (by decide) rfl (fun ls hl => ?_)
                  refine lv_goto (tgt := 18) hx hb dX7_feltIn_97 (by decide) ?_
                  exact ih18 (j + 1) y _ _ _ (by omega) (by omega) (by first | exact ft_y k2 (tr_y h1_36 h2_36) c61 (mP_w c72) | exact ft_y k2 (tr_y h1_36 h2_36) c61 (mP_a c72) | exact ft_y k2 (tr_n h_36) c61 (mP_w c72) | exact ft_y k2 (tr_n h_36) c61 (mP_a c72) | exact ft_n k2 (tr_y h1_36 h2_36) c61 | exact ft_n k2 (tr_n h_36) c61) (by first | omega | (have h9 := pA_le (kd := v 17) (wt := v 18) (d := j) hkd.2.2; omega)) hP hD hS (lv_sub hl [1, 0, 3, 4, 5, 6] rfl)
              · skip
                have hP : va_P D vwCl (mW b cI cJ cZ v c) H := hP
                have hD : va_D A (mW b cI cJ cZ v c) := hD
                refine w_if_eq (x := 0) hx hb dX7_feltIn_39 (tgt := 48) (by decide) (by decide) (fun _ => ?_) (fun h => absurd h (by decide))
                refine lv_iload_n hx hb dX7_feltIn_48 rfl (lv_at hl 3 rfl) ?_
                refine w_imul (x := 4) (y := k) hx hb dX7_feltIn_49  ?_
                refine lv_iload hx hb dX7_feltIn_50 (lv_at hl 1 rfl) ?_
                refine w_iadd (x := 4 * k) (y := j) hx hb dX7_feltIn_52  ?_
                refine w_iald (f := v 19) hx hb hK hP 12 0 rfl rfl (i := 4 * k + j) (by omega) (by decide) dX7_feltIn_53 ?_
                refine lv_istore (lv' := [(6, .int (nI (v 19 (4 * k + j)))), (4, .int (nI (y))), (5, .int (nI (j))), (0, .ref (b 0)), (1, .int (nI (k))), (2, .int (nI (q))), (3, .int (nI (i)))]) hx hb dX7_feltIn_54 hl (by decide) rfl (fun ls hl => ?_)
                refine lv_iload hx hb dX7_feltIn_56 (lv_at hl 1 rfl) ?_
                refine lv_iload hx hb dX7_feltIn_58 (lv_at hl 0 rfl) ?_
                refine lv_iload_n hx hb dX7_feltIn_60 rfl (lv_at hl 6 rfl) ?_
                refine w_icmp_eq (x := v 19 (4 * k + j)) (y := i) hx hb dX7_feltIn_61 (tgt := 68) (by decide) (by first | (have h9 := hsp (4 * (k - 1) + j) (by omega); omega) | (have h9 := hsp (4 * k + j) (by omega); omega)) (by omega) (fun c61 => ?_) (fun c61 => ?_)
                · skip
                  refine lv_aload_n hx hb dX7_feltIn_68 rfl (lv_at hl 3 rfl) ?_
                  refine va_get (D := D) (ci := 7) (v := .int (nI (v 20 0))) (C := RX7) (T := TX7) (N := 24) hx hb hts hinX7 hown hK hP 0 rfl rfl 20 (by decide) (hts (.fieldLink RX7 139 "DancedLockModel" "areWhole" "Z") (List.mem_of_getElem? (i := 4) rfl)) (fun _ h9 => h9) rfl dX7_feltIn_69 ?_
                  refine w_if_eq (x := v 20 0) hx hb dX7_feltIn_72 (tgt := 85) (by decide) (by omega) (fun c72 => ?_) (fun c72 => ?_)
                  · skip
                    refine lv_aload_n hx hb dX7_feltIn_85 rfl (lv_at hl 3 rfl) ?_
                    refine lv_iload hx hb dX7_feltIn_86 (lv_at hl 2 rfl) ?_
                    refine w_cVi (rest := [.int (nI (y))]) hx hb hml hown hts (m_weighsX l D b cI cJ cZ A v c j  (by exact hX) (by omega)) 1 gX7_feltIn_X7_weighs rfl hdX7_weighs ⟨Nat.le_of_ble_eq_true rfl, Nat.le_of_ble_eq_true rfl⟩ hK hN hP hD hS hA 0 7 rfl rfl rfl rfl hl.1 rfl (Nat.le_of_ble_eq_true rfl) dX7_feltIn_88 ⟨Nat.le_of_ble_eq_true rfl, Nat.le_of_ble_eq_true rfl⟩ (fun r u H locs hq hP hD hS => ?_)
                    obtain rfl := hq
                    have hP : va_P D vwCl (mW b cI cJ cZ v c) H := hP
                    have hD : va_D A (mW b cI cJ cZ v c) := hD
                    refine w_iadd (x := y) (y := pA ((v 17)) ((v 18)) j) hx hb dX7_feltIn_91  ?_
                    refine lv_istore (lv' := [(4, .int (nI (y + (pA ((v 17)) ((v 18)) j)))), (6, .int (nI (v 19 (4 * k + j)))), (5, .int (nI (j))), (0, .ref (b 0)), (1, .int (nI (k))), (2, .int (nI (q))), (3, .int (nI (i)))]) hx hb dX7_feltIn_92 hl (by decide) rfl (fun ls hl => ?_)
                    refine lv_iinc (v := nI (j + 1)) (lv' := [(5, .int (nI (j + 1))), (4, .int (nI (y + (pA ((v 17)) ((v 18)) j)))), (6, .int (nI (v 19 (4 * k + j)))), (0, .ref (b 0)), (1, .int (nI (k))), (2, .int (nI (q))), (3, .int (nI (i)))]) hx hb dX7_feltIn_94 hl (k := 2) rfl (nI_add j 1) (by decide) rfl (fun ls hl => ?_)
                    refine lv_goto (tgt := 18) hx hb dX7_feltIn_97 (by decide) ?_
                    exact ih18 (j + 1) (y + (pA ((v 17)) ((v 18)) j)) _ _ _ (by omega) (by omega) (by first | exact ft_y k2 (tr_y h1_36 h2_36) c61 (mP_w c72) | exact ft_y k2 (tr_y h1_36 h2_36) c61 (mP_a c72) | exact ft_y k2 (tr_n h_36) c61 (mP_w c72) | exact ft_y k2 (tr_n h_36) c61 (mP_a c72) | exact ft_n k2 (tr_y h1_36 h2_36) c61 | exact ft_n k2 (tr_n h_36) c61) (by first | omega | (have h9 := pA_le (kd := v 17) (wt := v 18) (d := j) hkd.2.2; omega)) hP hD hS (lv_sub hl [1, 0, 3, 4, 5, 6] rfl)
                  · skip
                    refine lv_aload_n hx hb dX7_feltIn_75 rfl (lv_at hl 3 rfl) ?_
                    refine va_get (D := D) (ci := 7) (v := .ref (b 18)) (C := RX7) (T := TX7) (N := 24) hx hb hts hinX7 hown hK hP 0 rfl rfl 18 (by decide) (hts (.fieldLink RX7 40 "DancedLockModel" "weight" "[I") (List.mem_of_getElem? (i := 5) rfl)) (fun _ h9 => h9) rfl dX7_feltIn_76 ?_
                    refine lv_iload hx hb dX7_feltIn_79 (lv_at hl 2 rfl) ?_
                    refine w_iald (f := v 18) hx hb hK hP 11 0 rfl rfl (i := j) (by omega) (by decide) dX7_feltIn_81 ?_
                    refine lv_goto (tgt := 91) hx hb dX7_feltIn_82 (by decide) ?_
                    refine w_iadd (x := y) (y := v 18 j) hx hb dX7_feltIn_91  ?_
                    refine lv_istore (lv' := [(4, .int (nI (y + (v 18 j)))), (6, .int (nI (v 19 (4 * k + j)))), (5, .int (nI (j))), (0, .ref (b 0)), (1, .int (nI (k))), (2, .int (nI (q))), (3, .int (nI (i)))]) hx hb dX7_feltIn_92 hl (by decide) rfl (fun ls hl => ?_)
                    refine lv_iinc (v := nI (j + 1)) (lv' := [(5, .int (nI (j + 1))), (4, .int (nI (y + (v 18 j)))), (6, .int (nI (v 19 (4 * k + j)))), (0, .ref (b 0)), (1, .int (nI (k))), (2, .int (nI (q))), (3, .int (nI (i)))]) hx hb dX7_feltIn_94 hl (k := 2) rfl (nI_add j 1) (by decide) rfl (fun ls hl => ?_)
                    refine lv_goto (tgt := 18) hx hb dX7_feltIn_97 (by decide) ?_
                    exact ih18 (j + 1) (y + (v 18 j)) _ _ _ (by omega) (by omega) (by first | exact ft_y k2 (tr_y h1_36 h2_36) c61 (mP_w c72) | exact ft_y k2 (tr_y h1_36 h2_36) c61 (mP_a c72) | exact ft_y k2 (tr_n h_36) c61 (mP_w c72) | exact ft_y k2 (tr_n h_36) c61 (mP_a c72) | exact ft_n k2 (tr_y h1_36 h2_36) c61 | exact ft_n k2 (tr_n h_36) c61) (by first | omega | (have h9 := pA_le (kd := v 17) (wt := v 18) (d := j) hkd.2.2; omega)) hP hD hS (lv_sub hl [1, 0, 3, 4, 5, 6] rfl)
                · skip
                  refine lv_iconst (v := nI (0)) hx hb dX7_feltIn_64 (by decide) ?_
                  refine lv_goto (tgt := 91) hx hb dX7_feltIn_65 (by decide) ?_
                  refine w_iadd (x := y) (y := 0) hx hb dX7_feltIn_91  ?_
                  rw [show y + 0 = y from by omega]
                  refine lv_istore (lv' := [(4, .int (nI (y))), (6, .int (nI (v 19 (4 * k + j)))), (5, .int (nI (j))), (0, .ref (b 0)), (1, .int (nI (k))), (2, .int (nI (q))), (3, .int (nI (i)))]) hx hb dX7_feltIn_92 hl (by decide) rfl (fun ls hl => ?_)
                  refine lv_iinc (v := nI (j + 1)) (lv' := [(5, .int (nI (j + 1))), (4, .int (nI (y))), (6, .int (nI (v 19 (4 * k + j)))), (0, .ref (b 0)), (1, .int (nI (k))), (2, .int (nI (q))), (3, .int (nI (i)))]) hx hb dX7_feltIn_94 hl (k := 2) rfl (nI_add j 1) (by decide) rfl (fun ls hl => ?_)
                  refine lv_goto (tgt := 18) hx hb dX7_feltIn_97 (by decide) ?_
                  exact ih18 (j + 1) y _ _ _ (by omega) (by omega) (by first | exact ft_y k2 (tr_y h1_36 h2_36) c61 (mP_w c72) | exact ft_y k2 (tr_y h1_36 h2_36) c61 (mP_a c72) | exact ft_y k2 (tr_n h_36) c61 (mP_w c72) | exact ft_y k2 (tr_n h_36) c61 (mP_a c72) | exact ft_n k2 (tr_y h1_36 h2_36) c61 | exact ft_n k2 (tr_n h_36) c61) (by first | omega | (have h9 := pA_le (kd := v 17) (wt := v 18) (d := j) hkd.2.2; omega)) hP hD hS (lv_sub hl [1, 0, 3, 4, 5, 6] rfl)
        exact L18 ((v 16 0 - 0) + 1) 0 0 _ _ _ (Nat.lt_succ_self _) (by omega) (by rfl) (by omega) hP hD hS (lv_sub hl [1, 0, 4, 5, 2, 3] rfl)
  exact L4 ((v 5 0 - 0) + 1) 0 0 _ _ _ (Nat.lt_succ_self _) (by omega) (by rfl) hP hD hS (lv_sub hl [1, 0, 2, 3] rfl)

set_option maxHeartbeats 4000000 in
set_option maxRecDepth 100000 in
theorem m_wrongIn (l : Launch) (D : va_G) (b : Nat → Nat) (cI cJ cZ : ClassId) (A : Nat → Prop) (v : Nat → Nat → Nat) (c : Nat → Nat → Int32) (dd : Nat) (hX : XI (vM v)) (hw : v 20 0 ≤ 1) (hd : dd < v 6 0) :
    mI l yX7_wrongIn wsX7_wrongIn 2 48 [.ref (b 0), .int (nI dd)] D (xT cI cJ cZ) A (mW b cI cJ cZ v c) (fun _ : Unit => mW b cI cJ cZ v c)
    (fun (r : Int32) (u : Unit) => (∃ k : Nat, r = nI (k) ∧ k < v 8 dd ∧ FE (v 5 0) (v 7) (v 16 0) (mL (v 20 0) (v 17)) (mP (v 20 0) (v 17) (v 18)) (v 19) k ≠ v 9 (dd * 6 + k) ∧ (∀ j, j < k → FE (v 5 0) (v 7) (v 16 0) (mL (v 20 0) (v 17)) (mP (v 20 0) (v 17) (v 18)) (v 19) j = v 9 (dd * 6 + j))) ∨ (r = -9 ∧ (∀ j, j < v 8 dd → FE (v 5 0) (v 7) (v 16 0) (mL (v 20 0) (v 17)) (mP (v 20 0) (v 17) (v 18)) (v 19) j = v 9 (dd * 6 + j)))) := by
  refine w_bI cX7_wrongIn 3 .int (by decide) rfl (Nat.le_of_ble_eq_true rfl) (Or.inl rfl) ?_
  intro p e s m args below meth c0 ls Q hx hb hml hts hown hK hN hA hret hP hD hS hl
  have hl : lv_has ls 3 [(0, .ref (b 0)), (1, .int (nI (dd)))] := hl
  have hinX7 : ∀ w ∈ wsX70, w ∈ wsX7_wrongIn := fun w h => List.mem_cons_of_mem _ (List.mem_append_right _ h)
  obtain ⟨hnb, hnd, hbt, hfg, hne, hnc, hdk, hnf, hkn, hln, hst, hdc, hsp⟩ := MX_o hX
  have hbd := hbt dd hd
  refine lv_iconst (v := nI (0)) hx hb dX7_wrongIn_0 (by decide) ?_
  refine lv_istore_n (lv' := [(2, .int (nI (0))), (0, .ref (b 0)), (1, .int (nI (dd)))]) hx hb dX7_wrongIn_1 rfl hl (by decide) rfl (fun ls hl => ?_)
  have L2 : ∀ (n : Nat) (i : Nat) (H : Heap) (locs : List Loc) (ls : Array Slot), v 8 dd - i < n → (i ≤ v 8 dd) → (∀ j, j < i → FE (v 5 0) (v 7) (v 16 0) (mL (v 20 0) (v 17)) (mP (v 20 0) (v 17) (v 18)) (v 19) j = v 9 (dd * 6 + j)) → va_P D vwCl (mW b cI cJ cZ v c) H → va_D A (mW b cI cJ cZ v c) → va_S A s.heap H locs → lv_has ls 3 [(2, .int (nI (i))), (0, .ref (b 0)), (1, .int (nI (dd)))] → W p l e { frames := 2, cells := 0, slots := 0, locals := 48 } s m args below meth c0 H locs 0 0 Q (F0 m 2 ls []) := by
    intro n
    induction n with
    | zero => intro i H locs ls hm; exact absurd hm (Nat.not_lt_zero _)
    | succ n ih2 =>
      intro i H locs ls hm2 h1 h2 hP hD hS hl
      refine lv_iload_n hx hb dX7_wrongIn_2 rfl (lv_at hl 0 rfl) ?_
      refine lv_aload_n hx hb dX7_wrongIn_3 rfl (lv_at hl 1 rfl) ?_
      refine va_get (D := D) (ci := 7) (v := .ref (b 8)) (C := RX7) (T := TX7) (N := 24) hx hb hts hinX7 hown hK hP 0 rfl rfl 8 (by decide) (hts (.fieldLink RX7 22 "DancedLockModel" "beats" "[I") (List.mem_of_getElem? (i := 1) rfl)) (fun _ h9 => h9) rfl dX7_wrongIn_4 ?_
      refine lv_iload_n hx hb dX7_wrongIn_7 rfl (lv_at hl 2 rfl) ?_
      refine w_iald (f := v 8) hx hb hK hP 5 0 rfl rfl (i := dd) (by omega) (by decide) dX7_wrongIn_8 ?_
      refine w_icmp_ge (x := i) (y := v 8 dd) hx hb dX7_wrongIn_9 (tgt := 38) (by decide) (by omega) (by omega) (fun c9 => ?_) (fun c9 => ?_)
      · skip
        refine lv_bipush (v := -9) hx hb dX7_wrongIn_38 (by decide) ?_
        exact hret ((-9)) () _ _ 40 _ dX7_wrongIn_40 rfl (by exact Or.inr ⟨rfl, fun j hj => h2 j (by omega)⟩) hP hD hS
      · skip
        refine lv_aload_n hx hb dX7_wrongIn_12 rfl (lv_at hl 1 rfl) ?_
        refine lv_iload_n hx hb dX7_wrongIn_13 rfl (lv_at hl 0 rfl) ?_
        refine w_cVi (rest := []) hx hb hml hown hts (m_feltIn l D b cI cJ cZ A v c i  (by first | assumption | omega) (by first | assumption | omega) (by omega)) 1 gX7_wrongIn_X7_feltIn rfl hdX7_feltIn ⟨Nat.le_of_ble_eq_true rfl, Nat.le_of_ble_eq_true rfl⟩ hK hN hP hD hS hA 0 7 rfl rfl rfl rfl hl.1 rfl (Nat.le_of_ble_eq_true rfl) dX7_wrongIn_14 ⟨Nat.le_of_ble_eq_true rfl, Nat.le_of_ble_eq_true rfl⟩ (fun r u H locs hq hP hD hS => ?_)
        obtain rfl := hq
        have hP : va_P D vwCl (mW b cI cJ cZ v c) H := hP
        have hD : va_D A (mW b cI cJ cZ v c) := hD
        refine lv_aload_n hx hb dX7_wrongIn_17 rfl (lv_at hl 1 rfl) ?_
        refine va_get (D := D) (ci := 7) (v := .ref (b 9)) (C := RX7) (T := TX7) (N := 24) hx hb hts hinX7 hown hK hP 0 rfl rfl 9 (by decide) (hts (.fieldLink RX7 25 "DancedLockModel" "figure" "[I") (List.mem_of_getElem? (i := 2) rfl)) (fun _ h9 => h9) rfl dX7_wrongIn_18 ?_
        refine lv_iload_n hx hb dX7_wrongIn_21 rfl (lv_at hl 2 rfl) ?_
        refine lv_iload_n hx hb dX7_wrongIn_22 rfl (lv_at hl 0 rfl) ?_
        refine w_cSi (rest := [.ref (b 9), .int (nI (FE ((v 5 0)) ((v 7)) ((v 16 0)) (mL ((v 20 0)) ((v 17))) (mP ((v 20 0)) ((v 17)) ((v 18))) ((v 19)) i))]) hx hb hml hown hts (m_spot l D b cI cJ cZ A v c dd i  ) 2 gX7_wrongIn_X7_spot rfl hdX7_spot ⟨Nat.le_of_ble_eq_true rfl, Nat.le_of_ble_eq_true rfl⟩ hK hN hP hD hS hA rfl hl.1 rfl (Nat.le_of_ble_eq_true rfl) dX7_wrongIn_23 ⟨Nat.le_of_ble_eq_true rfl, Nat.le_of_ble_eq_true rfl⟩ (fun r u H locs hq hP hD hS => ?_)
        obtain rfl := hq
        have hP : va_P D vwCl (mW b cI cJ cZ v c) H := hP
        have hD : va_D A (mW b cI cJ cZ v c) := hD
        refine w_iald (f := v 9) hx hb hK hP 6 0 rfl rfl (i := dd * 6 + i) (by omega) (by decide) dX7_wrongIn_26 ?_
        have hf1 := FE_lt (v 5 0) (v 7) (v 16 0) (mL (v 20 0) (v 17)) (mP (v 20 0) (v 17) (v 18)) (v 19) i
        have hf2 := hfg dd i hd (by omega)
        have hf3 := pow_le_128 hnb
        refine w_icmp_eq (x := FE ((v 5 0)) ((v 7)) ((v 16 0)) (mL ((v 20 0)) ((v 17))) (mP ((v 20 0)) ((v 17)) ((v 18))) ((v 19)) i) (y := v 9 (dd * 6 + i)) hx hb dX7_wrongIn_27 (tgt := 32) (by decide) (by omega) (by omega) (fun c27 => ?_) (fun c27 => ?_)
        · skip
          refine lv_iinc (v := nI (i + 1)) (lv' := [(2, .int (nI (i + 1))), (0, .ref (b 0)), (1, .int (nI (dd)))]) hx hb dX7_wrongIn_32 hl (k := 0) rfl (nI_add i 1) (by decide) rfl (fun ls hl => ?_)
          refine lv_goto (tgt := 2) hx hb dX7_wrongIn_35 (by decide) ?_
          exact ih2 (i + 1) _ _ _ (by omega) (by omega) (by exact lt_s h2 c27) hP hD hS (lv_sub hl [0, 1, 2] rfl)
        · skip
          refine lv_iload_n hx hb dX7_wrongIn_30 rfl (lv_at hl 0 rfl) ?_
          exact hret (nI (i)) () _ _ 31 _ dX7_wrongIn_31 rfl (by exact Or.inl ⟨i, rfl, by omega, c27, h2⟩) hP hD hS
  exact L2 ((v 8 dd - 0) + 1) 0 _ _ _ (Nat.lt_succ_self _) (by omega) (by exact fun j hj => absurd hj (Nat.not_lt_zero _)) hP hD hS (lv_sub hl [0, 1, 2] rfl)

set_option maxHeartbeats 4000000 in
set_option maxRecDepth 100000 in
theorem m_openedBy (l : Launch) (D : va_G) (b : Nat → Nat) (cI cJ cZ : ClassId) (A : Nat → Prop) (v : Nat → Nat → Nat) (c : Nat → Nat → Int32) (bt : Nat) (hX : XI (vM v)) (hw : v 20 0 ≤ 1) (hbt6 : bt ≤ 6) :
    mI l yX7_openedBy wsX7_openedBy 3 70 [.ref (b 0), .int (nI bt)] D (xT cI cJ cZ) A (mW b cI cJ cZ v c) (fun _ : Unit => mW b cI cJ cZ v c)
    (fun (r : Int32) (u : Unit) => (∃ d : Nat, r = nI (d) ∧ d < v 6 0 ∧ opd (v 5 0) (v 7) (v 16 0) (mL (v 20 0) (v 17)) (mP (v 20 0) (v 17) (v 18)) (v 19) (v 8) (fun d k => v 9 (d * 6 + k)) bt d ∧ (∀ e, e < d → ¬ opd (v 5 0) (v 7) (v 16 0) (mL (v 20 0) (v 17)) (mP (v 20 0) (v 17) (v 18)) (v 19) (v 8) (fun d k => v 9 (d * 6 + k)) bt e)) ∨ (r = -9 ∧ (∀ e, e < v 6 0 → ¬ opd (v 5 0) (v 7) (v 16 0) (mL (v 20 0) (v 17)) (mP (v 20 0) (v 17) (v 18)) (v 19) (v 8) (fun d k => v 9 (d * 6 + k)) bt e))) := by
  refine w_bI cX7_openedBy 3 .int (by decide) rfl (Nat.le_of_ble_eq_true rfl) (Or.inl rfl) ?_
  intro p e s m args below meth c0 ls Q hx hb hml hts hown hK hN hA hret hP hD hS hl
  have hl : lv_has ls 3 [(0, .ref (b 0)), (1, .int (nI (bt)))] := hl
  have hinX7 : ∀ w ∈ wsX70, w ∈ wsX7_openedBy := fun w h => List.mem_cons_of_mem _ (List.mem_append_right _ h)
  obtain ⟨hnb, hnd, hbt, hfg, hne, hnc, hdk, hnf, hkn, hln, hst, hdc, hsp⟩ := MX_o hX
  refine lv_iconst (v := nI (0)) hx hb dX7_openedBy_0 (by decide) ?_
  refine lv_istore_n (lv' := [(2, .int (nI (0))), (0, .ref (b 0)), (1, .int (nI (bt)))]) hx hb dX7_openedBy_1 rfl hl (by decide) rfl (fun ls hl => ?_)
  have L2 : ∀ (n : Nat) (i : Nat) (H : Heap) (locs : List Loc) (ls : Array Slot), v 6 0 - i < n → (i ≤ v 6 0) → (∀ e, e < i → ¬ opd (v 5 0) (v 7) (v 16 0) (mL (v 20 0) (v 17)) (mP (v 20 0) (v 17) (v 18)) (v 19) (v 8) (fun d k => v 9 (d * 6 + k)) bt e) → va_P D vwCl (mW b cI cJ cZ v c) H → va_D A (mW b cI cJ cZ v c) → va_S A s.heap H locs → lv_has ls 3 [(2, .int (nI (i))), (0, .ref (b 0)), (1, .int (nI (bt)))] → W p l e { frames := 3, cells := 0, slots := 0, locals := 70 } s m args below meth c0 H locs 0 0 Q (F0 m 2 ls []) := by
    intro n
    induction n with
    | zero => intro i H locs ls hm; exact absurd hm (Nat.not_lt_zero _)
    | succ n ih2 =>
      intro i H locs ls hm2 h1 h2 hP hD hS hl
      refine lv_iload_n hx hb dX7_openedBy_2 rfl (lv_at hl 0 rfl) ?_
      refine lv_aload_n hx hb dX7_openedBy_3 rfl (lv_at hl 1 rfl) ?_
      refine va_get (D := D) (ci := 7) (v := .int (nI (v 6 0))) (C := RX7) (T := TX7) (N := 24) hx hb hts hinX7 hown hK hP 0 rfl rfl 6 (by decide) (hts (.fieldLink RX7 66 "DancedLockModel" "doors" "I") (List.mem_of_getElem? (i := 1) rfl)) (fun _ h9 => h9) rfl dX7_openedBy_4 ?_
      refine w_icmp_ge (x := i) (y := v 6 0) hx hb dX7_openedBy_7 (tgt := 38) (by decide) (by omega) (by omega) (fun c7 => ?_) (fun c7 => ?_)
      · skip
        refine lv_bipush (v := -9) hx hb dX7_openedBy_38 (by decide) ?_
        exact hret ((-9)) () _ _ 40 _ dX7_openedBy_40 rfl (by exact Or.inr ⟨rfl, fun e he => h2 e (by omega)⟩) hP hD hS
      · skip
        have hbi := hbt i (by omega)
        refine lv_aload_n hx hb dX7_openedBy_10 rfl (lv_at hl 1 rfl) ?_
        refine va_get (D := D) (ci := 7) (v := .ref (b 8)) (C := RX7) (T := TX7) (N := 24) hx hb hts hinX7 hown hK hP 0 rfl rfl 8 (by decide) (hts (.fieldLink RX7 22 "DancedLockModel" "beats" "[I") (List.mem_of_getElem? (i := 2) rfl)) (fun _ h9 => h9) rfl dX7_openedBy_11 ?_
        refine lv_iload_n hx hb dX7_openedBy_14 rfl (lv_at hl 0 rfl) ?_
        refine w_iald (f := v 8) hx hb hK hP 5 0 rfl rfl (i := i) (by omega) (by decide) dX7_openedBy_15 ?_
        refine lv_iload_n hx hb dX7_openedBy_16 rfl (lv_at hl 2 rfl) ?_
        refine w_icmp_ne (x := v 8 i) (y := bt) hx hb dX7_openedBy_17 (tgt := 32) (by decide) (by omega) (by omega) (fun c17 => ?_) (fun c17 => ?_)
        · skip
          refine lv_iinc (v := nI (i + 1)) (lv' := [(2, .int (nI (i + 1))), (0, .ref (b 0)), (1, .int (nI (bt)))]) hx hb dX7_openedBy_32 hl (k := 0) rfl (nI_add i 1) (by decide) rfl (fun ls hl => ?_)
          refine lv_goto (tgt := 2) hx hb dX7_openedBy_35 (by decide) ?_
          exact ih2 (i + 1) _ _ _ (by omega) (by omega) (by first | exact lt_s h2 (fun z => c17 z.1) | exact lt_s h2 (fun z => h2_22 (z.2 _ h1_22))) hP hD hS (lv_sub hl [0, 1, 2] rfl)
        · skip
          refine lv_aload_n hx hb dX7_openedBy_20 rfl (lv_at hl 1 rfl) ?_
          refine lv_iload_n hx hb dX7_openedBy_21 rfl (lv_at hl 0 rfl) ?_
          refine w_cVi (rest := []) hx hb hml hown hts (m_wrongIn l D b cI cJ cZ A v c i  (by first | assumption | omega) (by first | assumption | omega) (by omega)) 1 gX7_openedBy_X7_wrongIn rfl hdX7_wrongIn ⟨Nat.le_of_ble_eq_true rfl, Nat.le_of_ble_eq_true rfl⟩ hK hN hP hD hS hA 0 7 rfl rfl rfl rfl hl.1 rfl (Nat.le_of_ble_eq_true rfl) dX7_openedBy_22 ⟨Nat.le_of_ble_eq_true rfl, Nat.le_of_ble_eq_true rfl⟩ (fun r u H locs hq hP hD hS => ?_)
          rcases hq with ⟨k_22, rfl, h1_22, h2_22, h3_22⟩ | ⟨rfl, h3_22⟩
          · skip
            have hP : va_P D vwCl (mW b cI cJ cZ v c) H := hP
            have hD : va_D A (mW b cI cJ cZ v c) := hD
            refine lv_bipush (v := -9) hx hb dX7_openedBy_25 (by decide) ?_
            refine lv_icmp_ne hx hb dX7_openedBy_27 (tgt := 32) (by decide) (fun _ => ?_) (fun h => absurd h (n_neg (by omega) (by decide)))
            refine lv_iinc (v := nI (i + 1)) (lv' := [(2, .int (nI (i + 1))), (0, .ref (b 0)), (1, .int (nI (bt)))]) hx hb dX7_openedBy_32 hl (k := 0) rfl (nI_add i 1) (by decide) rfl (fun ls hl => ?_)
            refine lv_goto (tgt := 2) hx hb dX7_openedBy_35 (by decide) ?_
            exact ih2 (i + 1) _ _ _ (by omega) (by omega) (by first | exact lt_s h2 (fun z => c17 z.1) | exact lt_s h2 (fun z => h2_22 (z.2 _ h1_22))) hP hD hS (lv_sub hl [0, 1, 2] rfl)
          · skip
            have hP : va_P D vwCl (mW b cI cJ cZ v c) H := hP
            have hD : va_D A (mW b cI cJ cZ v c) := hD
            refine lv_bipush (v := -9) hx hb dX7_openedBy_25 (by decide) ?_
            refine lv_icmp_ne hx hb dX7_openedBy_27 (tgt := 32) (by decide) (fun h => absurd h (by decide)) (fun _ => ?_)
            refine lv_iload_n hx hb dX7_openedBy_30 rfl (lv_at hl 0 rfl) ?_
            exact hret (nI (i)) () _ _ 31 _ dX7_openedBy_31 rfl (by exact Or.inl ⟨i, rfl, by omega, ⟨c17, h3_22⟩, h2⟩) hP hD hS
  exact L2 ((v 6 0 - 0) + 1) 0 _ _ _ (Nat.lt_succ_self _) (by omega) (by exact fun j hj => absurd hj (Nat.not_lt_zero _)) hP hD hS (lv_sub hl [0, 1, 2] rfl)

set_option maxHeartbeats 4000000 in
set_option maxRecDepth 100000 in
theorem m_layPlan (l : Launch) (D : va_G) (b : Nat → Nat) (cI cJ cZ : ClassId) (A : Nat → Prop) (v : Nat → Nat → Nat) (c : Nat → Nat → Int32) (bt : Nat) (k : Nat) (s1 : Nat) (ii : Int32) (hI : MI v c) (hbt6 : bt ≤ 6) (hk : k < 4) (hs3 : s1 < 3) :
    mI l yX7_layPlan wsX7_layPlan 1 24 [.ref (b 0), .int (nI bt), .int (nI k), .int (nI s1), .int ii] D (xT cI cJ cZ) A (mW b cI cJ cZ v c) (fun u : ((Nat → Nat → Nat) × (Nat → Nat → Int32)) => mW b cI cJ cZ u.1 u.2)
    (fun (r : Int32) (u : ((Nat → Nat → Nat) × (Nat → Nat → Int32))) => (∃ r0 : Int32, ∃ F : Nat, r = r0 ∧ u = (va_up v 0 (va_up (v 0) 0 (F)), c) ∧ tkB (xNo (cM c)) (xHas (cM c)) (v 3) (nI k) (nI s1) False ii (nI (bt * v 16 0)) r0 F ∧ ¬ r0 = 0) ∨ (∃ ia : Nat, r = -3 ∧ u = (v, c) ∧ tkY (xHas (cM c)) (v 3) (nI k) (nI s1) False ii (nI (bt * v 16 0)) k s1 ia (bt * v 16 0) ∧ v 6 0 = 0) ∨ (∃ ia : Nat, ∃ g19 : Nat → Nat, r = -1 ∧ u = (va_up v 19 (g19), c) ∧ tkY (xHas (cM c)) (v 3) (nI k) (nI s1) False ii (nI (bt * v 16 0)) k s1 ia (bt * v 16 0) ∧ 0 < v 6 0 ∧ cellsN (xCell (cM c)) k ia (v 5 0) (bt * v 16 0) ∧ (∀ q, q < 24 → g19 q < 8)) ∨ (∃ ia : Nat, ∃ g19 : Nat → Nat, r = nI (0) ∧ u = (va_up v 19 (g19), c) ∧ tkY (xHas (cM c)) (v 3) (nI k) (nI s1) False ii (nI (bt * v 16 0)) k s1 ia (bt * v 16 0) ∧ 0 < v 6 0 ∧ cellsP (xCell (cM c)) k ia (v 5 0) (v 16 0) bt g19 ∧ (∀ q, q < 24 → g19 q < 8))) := by
  refine w_bI cX7_layPlan 9 .int (by decide) rfl (Nat.le_of_ble_eq_true rfl) (Or.inl rfl) ?_
  intro p e s m args below meth c0 ls Q hx hb hml hts hown hK hN hA hret hP hD hS hl
  have hl : lv_has ls 9 [(0, .ref (b 0)), (1, .int (nI (bt))), (2, .int (nI (k))), (3, .int (nI (s1))), (4, .int ii)] := hl
  have hinX7 : ∀ w ∈ wsX70, w ∈ wsX7_layPlan := fun w h => List.mem_cons_of_mem _ (List.mem_append_right _ h)
  obtain ⟨hnb, hnd, hbt, hfg, hne, hnc, hdk, hnf, hkn, hln, hst, hdc, hsp⟩ := MI_o hI
  have hm : bt * v 16 0 ≤ 24 := Nat.le_trans (Nat.mul_le_mul hbt6 hnc) (by decide)
  have hlk := hln k hk
  have hmT := n_tI (k := bt * v 16 0) (by omega)
  refine lv_aload_n hx hb dX7_layPlan_0 rfl (lv_at hl 0 rfl) ?_
  refine lv_iload_n hx hb dX7_layPlan_1 rfl (lv_at hl 2 rfl) ?_
  refine lv_iload_n hx hb dX7_layPlan_2 rfl (lv_at hl 3 rfl) ?_
  refine lv_iload hx hb dX7_layPlan_3 (lv_at hl 4 rfl) ?_
  refine lv_iload_n hx hb dX7_layPlan_5 rfl (lv_at hl 1 rfl) ?_
  refine lv_aload_n hx hb dX7_layPlan_6 rfl (lv_at hl 0 rfl) ?_
  refine va_get (D := D) (ci := 7) (v := .int (nI (v 16 0))) (C := RX7) (T := TX7) (N := 24) hx hb hts hinX7 hown hK hP 0 rfl rfl 16 (by decide) (hts (.fieldLink RX7 103 "DancedLockModel" "dancers" "I") (List.mem_of_getElem? (i := 1) rfl)) (fun _ h9 => h9) rfl dX7_layPlan_7 ?_
  refine w_imul (x := bt) (y := v 16 0) hx hb dX7_layPlan_10  ?_
  refine w_cVi (rest := []) hx hb hml hown hts (m_against l D b cI cJ cZ A v c k s1 ii (nI (bt * (v 16 0)))  (by exact hk) (by exact hlk)) 4 gX7_layPlan_X7_against rfl hdX7_against ⟨Nat.le_of_ble_eq_true rfl, Nat.le_of_ble_eq_true rfl⟩ hK hN hP hD hS hA 0 7 rfl rfl rfl rfl hl.1 rfl (Nat.le_of_ble_eq_true rfl) dX7_layPlan_11 ⟨Nat.le_of_ble_eq_true rfl, Nat.le_of_ble_eq_true rfl⟩ (fun r u H locs hq hP hD hS => ?_)
  rcases hq with ⟨rfl, h1_11, h2_11⟩ | ⟨rfl, h1_11⟩ | ⟨rfl, h1_11, h2_11, h3_11⟩ | ⟨rfl, h1_11, h2_11, h3_11, h4_11⟩ | ⟨rfl, h1_11, h2_11, h3_11, h4_11, h5_11⟩
  · skip
    have hP : va_P D vwCl (mW b cI cJ cZ v c) H := hP
    have hD : va_D A (mW b cI cJ cZ v c) := hD
    refine lv_istore (lv' := [(5, .int (nI (2))), (0, .ref (b 0)), (1, .int (nI (bt))), (2, .int (nI (k))), (3, .int (nI (s1))), (4, .int ii)]) hx hb dX7_layPlan_14 hl (by decide) rfl (fun ls hl => ?_)
    refine lv_iload hx hb dX7_layPlan_16 (lv_at hl 0 rfl) ?_
    refine w_if_eq (x := 2) hx hb dX7_layPlan_18 (tgt := 28) (by decide) (by decide) (fun h => absurd h (by decide)) (fun _ => ?_)
    refine lv_aload_n hx hb dX7_layPlan_21 rfl (lv_at hl 1 rfl) ?_
    refine lv_iload hx hb dX7_layPlan_22 (lv_at hl 0 rfl) ?_
    refine w_cVi (rest := []) hx hb hml hown hts (m_fails l D b cI cJ cZ A v c 2  ) 1 gX7_layPlan_X7_fails rfl hdX7_fails ⟨Nat.le_of_ble_eq_true rfl, Nat.le_of_ble_eq_true rfl⟩ hK hN hP hD hS hA 0 7 rfl rfl rfl rfl hl.1 rfl (Nat.le_of_ble_eq_true rfl) dX7_layPlan_24 ⟨Nat.le_of_ble_eq_true rfl, Nat.le_of_ble_eq_true rfl⟩ (fun r u H locs hq hP hD hS => ?_)
    obtain ⟨rfl, rfl⟩ := hq
    have hP : va_P D vwCl (mW b cI cJ cZ (va_up v 0 (va_up (v 0) 0 (2))) c) H := hP
    have hD : va_D A (mW b cI cJ cZ (va_up v 0 (va_up (v 0) 0 (2))) c) := hD
    exact hret ((-10) - (nI (2))) (va_up v 0 (va_up (v 0) 0 (2)), c) _ _ 27 _ dX7_layPlan_27 rfl (by exact Or.inl ⟨_, _, rfl, rfl, by first | exact tbo_2 (c2 := cM c 2) id hk hs3 (m_no h1_11) | exact tbo_3 (c2 := cM c 2) id hk hs3 (m_nn hI hk h1_11) (m_hn h1_11 h2_11) | exact tbo_4 (c2 := cM c 2) id hk hs3 (m_has hs3 h2_11) h3_11 | exact tbo_5 (c2 := cM c 2) id hk hs3 (m_has hs3 h2_11) h3_11 h4_11, by decide⟩) hP hD hS
  · skip
    have hP : va_P D vwCl (mW b cI cJ cZ v c) H := hP
    have hD : va_D A (mW b cI cJ cZ v c) := hD
    refine lv_istore (lv' := [(5, .int (nI (1))), (0, .ref (b 0)), (1, .int (nI (bt))), (2, .int (nI (k))), (3, .int (nI (s1))), (4, .int ii)]) hx hb dX7_layPlan_14 hl (by decide) rfl (fun ls hl => ?_)
    refine lv_iload hx hb dX7_layPlan_16 (lv_at hl 0 rfl) ?_
    refine w_if_eq (x := 1) hx hb dX7_layPlan_18 (tgt := 28) (by decide) (by decide) (fun h => absurd h (by decide)) (fun _ => ?_)
    refine lv_aload_n hx hb dX7_layPlan_21 rfl (lv_at hl 1 rfl) ?_
    refine lv_iload hx hb dX7_layPlan_22 (lv_at hl 0 rfl) ?_
    refine w_cVi (rest := []) hx hb hml hown hts (m_fails l D b cI cJ cZ A v c 1  ) 1 gX7_layPlan_X7_fails rfl hdX7_fails ⟨Nat.le_of_ble_eq_true rfl, Nat.le_of_ble_eq_true rfl⟩ hK hN hP hD hS hA 0 7 rfl rfl rfl rfl hl.1 rfl (Nat.le_of_ble_eq_true rfl) dX7_layPlan_24 ⟨Nat.le_of_ble_eq_true rfl, Nat.le_of_ble_eq_true rfl⟩ (fun r u H locs hq hP hD hS => ?_)
    obtain ⟨rfl, rfl⟩ := hq
    have hP : va_P D vwCl (mW b cI cJ cZ (va_up v 0 (va_up (v 0) 0 (1))) c) H := hP
    have hD : va_D A (mW b cI cJ cZ (va_up v 0 (va_up (v 0) 0 (1))) c) := hD
    exact hret ((-10) - (nI (1))) (va_up v 0 (va_up (v 0) 0 (1)), c) _ _ 27 _ dX7_layPlan_27 rfl (by exact Or.inl ⟨_, _, rfl, rfl, by first | exact tbo_2 (c2 := cM c 2) id hk hs3 (m_no h1_11) | exact tbo_3 (c2 := cM c 2) id hk hs3 (m_nn hI hk h1_11) (m_hn h1_11 h2_11) | exact tbo_4 (c2 := cM c 2) id hk hs3 (m_has hs3 h2_11) h3_11 | exact tbo_5 (c2 := cM c 2) id hk hs3 (m_has hs3 h2_11) h3_11 h4_11, by decide⟩) hP hD hS
  · skip
    have hP : va_P D vwCl (mW b cI cJ cZ v c) H := hP
    have hD : va_D A (mW b cI cJ cZ v c) := hD
    refine lv_istore (lv' := [(5, .int (nI (4))), (0, .ref (b 0)), (1, .int (nI (bt))), (2, .int (nI (k))), (3, .int (nI (s1))), (4, .int ii)]) hx hb dX7_layPlan_14 hl (by decide) rfl (fun ls hl => ?_)
    refine lv_iload hx hb dX7_layPlan_16 (lv_at hl 0 rfl) ?_
    refine w_if_eq (x := 4) hx hb dX7_layPlan_18 (tgt := 28) (by decide) (by decide) (fun h => absurd h (by decide)) (fun _ => ?_)
    refine lv_aload_n hx hb dX7_layPlan_21 rfl (lv_at hl 1 rfl) ?_
    refine lv_iload hx hb dX7_layPlan_22 (lv_at hl 0 rfl) ?_
    refine w_cVi (rest := []) hx hb hml hown hts (m_fails l D b cI cJ cZ A v c 4  ) 1 gX7_layPlan_X7_fails rfl hdX7_fails ⟨Nat.le_of_ble_eq_true rfl, Nat.le_of_ble_eq_true rfl⟩ hK hN hP hD hS hA 0 7 rfl rfl rfl rfl hl.1 rfl (Nat.le_of_ble_eq_true rfl) dX7_layPlan_24 ⟨Nat.le_of_ble_eq_true rfl, Nat.le_of_ble_eq_true rfl⟩ (fun r u H locs hq hP hD hS => ?_)
    obtain ⟨rfl, rfl⟩ := hq
    have hP : va_P D vwCl (mW b cI cJ cZ (va_up v 0 (va_up (v 0) 0 (4))) c) H := hP
    have hD : va_D A (mW b cI cJ cZ (va_up v 0 (va_up (v 0) 0 (4))) c) := hD
    exact hret ((-10) - (nI (4))) (va_up v 0 (va_up (v 0) 0 (4)), c) _ _ 27 _ dX7_layPlan_27 rfl (by exact Or.inl ⟨_, _, rfl, rfl, by first | exact tbo_2 (c2 := cM c 2) id hk hs3 (m_no h1_11) | exact tbo_3 (c2 := cM c 2) id hk hs3 (m_nn hI hk h1_11) (m_hn h1_11 h2_11) | exact tbo_4 (c2 := cM c 2) id hk hs3 (m_has hs3 h2_11) h3_11 | exact tbo_5 (c2 := cM c 2) id hk hs3 (m_has hs3 h2_11) h3_11 h4_11, by decide⟩) hP hD hS
  · skip
    have hP : va_P D vwCl (mW b cI cJ cZ v c) H := hP
    have hD : va_D A (mW b cI cJ cZ v c) := hD
    refine lv_istore (lv' := [(5, .int (nI (3))), (0, .ref (b 0)), (1, .int (nI (bt))), (2, .int (nI (k))), (3, .int (nI (s1))), (4, .int ii)]) hx hb dX7_layPlan_14 hl (by decide) rfl (fun ls hl => ?_)
    refine lv_iload hx hb dX7_layPlan_16 (lv_at hl 0 rfl) ?_
    refine w_if_eq (x := 3) hx hb dX7_layPlan_18 (tgt := 28) (by decide) (by decide) (fun h => absurd h (by decide)) (fun _ => ?_)
    refine lv_aload_n hx hb dX7_layPlan_21 rfl (lv_at hl 1 rfl) ?_
    refine lv_iload hx hb dX7_layPlan_22 (lv_at hl 0 rfl) ?_
    refine w_cVi (rest := []) hx hb hml hown hts (m_fails l D b cI cJ cZ A v c 3  ) 1 gX7_layPlan_X7_fails rfl hdX7_fails ⟨Nat.le_of_ble_eq_true rfl, Nat.le_of_ble_eq_true rfl⟩ hK hN hP hD hS hA 0 7 rfl rfl rfl rfl hl.1 rfl (Nat.le_of_ble_eq_true rfl) dX7_layPlan_24 ⟨Nat.le_of_ble_eq_true rfl, Nat.le_of_ble_eq_true rfl⟩ (fun r u H locs hq hP hD hS => ?_)
    obtain ⟨rfl, rfl⟩ := hq
    have hP : va_P D vwCl (mW b cI cJ cZ (va_up v 0 (va_up (v 0) 0 (3))) c) H := hP
    have hD : va_D A (mW b cI cJ cZ (va_up v 0 (va_up (v 0) 0 (3))) c) := hD
    exact hret ((-10) - (nI (3))) (va_up v 0 (va_up (v 0) 0 (3)), c) _ _ 27 _ dX7_layPlan_27 rfl (by exact Or.inl ⟨_, _, rfl, rfl, by first | exact tbo_2 (c2 := cM c 2) id hk hs3 (m_no h1_11) | exact tbo_3 (c2 := cM c 2) id hk hs3 (m_nn hI hk h1_11) (m_hn h1_11 h2_11) | exact tbo_4 (c2 := cM c 2) id hk hs3 (m_has hs3 h2_11) h3_11 | exact tbo_5 (c2 := cM c 2) id hk hs3 (m_has hs3 h2_11) h3_11 h4_11, by decide⟩) hP hD hS
  · skip
    have hP : va_P D vwCl (mW b cI cJ cZ v c) H := hP
    have hD : va_D A (mW b cI cJ cZ v c) := hD
    refine lv_istore (lv' := [(5, .int (nI (0))), (0, .ref (b 0)), (1, .int (nI (bt))), (2, .int (nI (k))), (3, .int (nI (s1))), (4, .int ii)]) hx hb dX7_layPlan_14 hl (by decide) rfl (fun ls hl => ?_)
    refine lv_iload hx hb dX7_layPlan_16 (lv_at hl 0 rfl) ?_
    refine w_if_eq (x := 0) hx hb dX7_layPlan_18 (tgt := 28) (by decide) (by decide) (fun _ => ?_) (fun h => absurd h (by decide))
    obtain ⟨ia, iaB, rfl⟩ := r_nat h3_11
    have iaT := n_tI iaB
    have hY : tkY (xHas (cM c)) (v 3) (nI k) (nI s1) False (nI ia) (nI (bt * v 16 0)) k s1 ia (bt * v 16 0) := tky_o (c2 := cM c 2) id hk hs3 (m_has hs3 h2_11) (by omega) rfl
    refine lv_aload_n hx hb dX7_layPlan_28 rfl (lv_at hl 1 rfl) ?_
    refine va_get (D := D) (ci := 7) (v := .int (nI (v 6 0))) (C := RX7) (T := TX7) (N := 24) hx hb hts hinX7 hown hK hP 0 rfl rfl 6 (by decide) (hts (.fieldLink RX7 66 "DancedLockModel" "doors" "I") (List.mem_of_getElem? (i := 2) rfl)) (fun _ h9 => h9) rfl dX7_layPlan_29 ?_
    refine w_if_ne (x := v 6 0) hx hb dX7_layPlan_32 (tgt := 38) (by decide) (by omega) (fun c32 => ?_) (fun c32 => ?_)
    · skip
      refine lv_iconst (v := nI (0)) hx hb dX7_layPlan_38 (by decide) ?_
      refine lv_istore (lv' := [(6, .int (nI (0))), (5, .int (nI (0))), (0, .ref (b 0)), (1, .int (nI (bt))), (2, .int (nI (k))), (3, .int (nI (s1))), (4, .int (nI (ia)))]) hx hb dX7_layPlan_39 hl (by decide) rfl (fun ls hl => ?_)
      have L41 : ∀ (n : Nat) (kk : Nat) (g19 : Nat → Nat) (H : Heap) (locs : List Loc) (ls : Array Slot), bt - kk < n → (kk ≤ bt) → (∀ b e, b < kk → e < v 16 0 → c 4 (k * 80 + (ia + (b * v 16 0 + e))) = nI (g19 (b * 4 + e)) ∧ g19 (b * 4 + e) < v 5 0) → (∀ q, q < 24 → g19 q < 8) → va_P D vwCl (mW b cI cJ cZ (va_up v 19 (g19)) c) H → va_D A (mW b cI cJ cZ (va_up v 19 (g19)) c) → va_S A s.heap H locs → lv_has ls 9 [(6, .int (nI (kk))), (0, .ref (b 0)), (1, .int (nI (bt))), (2, .int (nI (k))), (3, .int (nI (s1))), (4, .int (nI (ia))), (5, .int (nI (0)))] → W p l e { frames := 1, cells := 0, slots := 0, locals := 24 } s m args below meth c0 H locs 0 0 Q (F0 m 41 ls []) := by
        intro n
        induction n with
        | zero => intro kk g19 H locs ls hm; exact absurd hm (Nat.not_lt_zero _)
        | succ n ih41 =>
          intro kk g19 H locs ls hm41 h1 h3 h4 hP hD hS hl
          refine lv_iload hx hb dX7_layPlan_41 (lv_at hl 0 rfl) ?_
          refine lv_iload_n hx hb dX7_layPlan_43 rfl (lv_at hl 2 rfl) ?_
          refine w_icmp_ge (x := kk) (y := bt) hx hb dX7_layPlan_44 (tgt := 121) (by decide) (by omega) (by omega) (fun c44 => ?_) (fun c44 => ?_)
          · skip
            refine lv_iconst (v := nI (0)) hx hb dX7_layPlan_121 (by decide) ?_
            exact hret (nI (0)) (va_up v 19 (g19), c) _ _ 122 _ dX7_layPlan_122 rfl (by have e0 : kk = bt := (by omega); subst e0; exact Or.inr (Or.inr (Or.inr ⟨ia, g19, rfl, rfl, hY, Nat.pos_of_ne_zero c32, fun b e hb he => h3 b e hb he, h4⟩))) hP hD hS
          · skip
            refine lv_iconst (v := nI (0)) hx hb dX7_layPlan_47 (by decide) ?_
            refine lv_istore (lv' := [(7, .int (nI (0))), (6, .int (nI (kk))), (0, .ref (b 0)), (1, .int (nI (bt))), (2, .int (nI (k))), (3, .int (nI (s1))), (4, .int (nI (ia))), (5, .int (nI (0)))]) hx hb dX7_layPlan_48 hl (by decide) rfl (fun ls hl => ?_)
            have L50 : ∀ (n : Nat) (ee : Nat) (gg : Nat → Nat) (H : Heap) (locs : List Loc) (ls : Array Slot), v 16 0 - ee < n → (ee ≤ v 16 0) → (∀ e1, e1 < ee → c 4 (k * 80 + (ia + (kk * v 16 0 + e1))) = nI (gg (kk * 4 + e1)) ∧ gg (kk * 4 + e1) < v 5 0) → (∀ q, q < 24 → gg q < 8) → (∀ q, q < kk * 4 → gg q = g19 q) → va_P D vwCl (mW b cI cJ cZ (va_up v 19 (gg)) c) H → va_D A (mW b cI cJ cZ (va_up v 19 (gg)) c) → va_S A s.heap H locs → lv_has ls 9 [(7, .int (nI (ee))), (0, .ref (b 0)), (1, .int (nI (bt))), (2, .int (nI (k))), (3, .int (nI (s1))), (4, .int (nI (ia))), (5, .int (nI (0))), (6, .int (nI (kk)))] → W p l e { frames := 1, cells := 0, slots := 0, locals := 24 } s m args below meth c0 H locs 0 0 Q (F0 m 50 ls []) := by
              intro n
              induction n with
              | zero => intro ee gg H locs ls hm; exact absurd hm (Nat.not_lt_zero _)
              | succ n ih50 =>
                intro ee gg H locs ls hm50 k1 k3 k4 k5 hP hD hS hl
                refine lv_iload hx hb dX7_layPlan_50 (lv_at hl 0 rfl) ?_
                refine lv_aload_n hx hb dX7_layPlan_52 rfl (lv_at hl 1 rfl) ?_
                refine va_get (D := D) (ci := 7) (v := .int (nI (v 16 0))) (C := RX7) (T := TX7) (N := 24) hx hb hts hinX7 hown hK hP 0 rfl rfl 16 (by decide) (hts (.fieldLink RX7 103 "DancedLockModel" "dancers" "I") (List.mem_of_getElem? (i := 1) rfl)) (fun _ h9 => h9) rfl dX7_layPlan_53 ?_
                refine w_icmp_ge (x := ee) (y := v 16 0) hx hb dX7_layPlan_56 (tgt := 115) (by decide) (by omega) (by omega) (fun c56 => ?_) (fun c56 => ?_)
                · skip
                  have ei : ee = v 16 0 := (by omega)
                  rw [ei] at k3
                  refine lv_iinc (v := nI (kk + 1)) (lv' := [(6, .int (nI (kk + 1))), (7, .int (nI (ee))), (0, .ref (b 0)), (1, .int (nI (bt))), (2, .int (nI (k))), (3, .int (nI (s1))), (4, .int (nI (ia))), (5, .int (nI (0)))]) hx hb dX7_layPlan_115 hl (k := 7) rfl (nI_add kk 1) (by decide) rfl (fun ls hl => ?_)
                  refine lv_goto (tgt := 41) hx hb dX7_layPlan_118 (by decide) ?_
                  exact ih41 (kk + 1) gg _ _ _ (by omega) (by omega) (by exact rd_s (c := fun q => c 4 (k * 80 + (ia + q))) h3 k3 k5 hnc) (by exact k4) hP hD hS (lv_sub hl [0, 2, 3, 4, 5, 6, 7] rfl)
                · skip
                  have hy : kk * v 16 0 + ee < bt * v 16 0 := lin_lt (by omega) (by omega)
                  refine lv_aload_n hx hb dX7_layPlan_59 rfl (lv_at hl 1 rfl) ?_
                  refine va_get (D := D) (ci := 7) (v := .ref (b 4)) (C := RX7) (T := TX7) (N := 24) hx hb hts hinX7 hown hK hP 0 rfl rfl 4 (by decide) (hts (.fieldLink RX7 16 "DancedLockModel" "cells" "[I") (List.mem_of_getElem? (i := 3) rfl)) (fun _ h9 => h9) rfl dX7_layPlan_60 ?_
                  refine lv_bipush (v := nI (80)) hx hb dX7_layPlan_63 (by decide) ?_
                  refine lv_iload_n hx hb dX7_layPlan_65 rfl (lv_at hl 3 rfl) ?_
                  refine w_imul (x := 80) (y := k) hx hb dX7_layPlan_66  ?_
                  refine lv_iload hx hb dX7_layPlan_67 (lv_at hl 5 rfl) ?_
                  refine w_iadd (x := 80 * k) (y := ia) hx hb dX7_layPlan_69  ?_
                  refine lv_aload_n hx hb dX7_layPlan_70 rfl (lv_at hl 1 rfl) ?_
                  refine va_get (D := D) (ci := 7) (v := .int (nI (v 16 0))) (C := RX7) (T := TX7) (N := 24) hx hb hts hinX7 hown hK hP 0 rfl rfl 16 (by decide) (hts (.fieldLink RX7 103 "DancedLockModel" "dancers" "I") (List.mem_of_getElem? (i := 1) rfl)) (fun _ h9 => h9) rfl dX7_layPlan_71 ?_
                  refine lv_iload hx hb dX7_layPlan_74 (lv_at hl 7 rfl) ?_
                  refine w_imul (x := v 16 0) (y := kk) hx hb dX7_layPlan_76  ?_
                  rw [show (nI ((v 16 0) * kk)) = (nI (kk * v 16 0)) from by rw [Nat.mul_comm]]
                  refine w_iadd (x := 80 * k + ia) (y := kk * v 16 0) hx hb dX7_layPlan_77  ?_
                  refine lv_iload hx hb dX7_layPlan_78 (lv_at hl 0 rfl) ?_
                  refine w_iadd (x := 80 * k + ia + (kk * v 16 0)) (y := ee) hx hb dX7_layPlan_80  ?_
                  rw [show (nI (80 * k + ia + (kk * v 16 0) + ee)) = (nI (k * 80 + (ia + (kk * v 16 0 + ee)))) from congrArg nI (by omega)]
                  refine r_iald (f := c 4) hx hb hK hP 3 0 rfl rfl (i := k * 80 + (ia + (kk * v 16 0 + ee))) (by omega) (by decide) dX7_layPlan_81 ?_
                  refine lv_topi (fun zz hz => ?_)
                  refine lv_istore (lv' := [(8, .int zz), (7, .int (nI (ee))), (0, .ref (b 0)), (1, .int (nI (bt))), (2, .int (nI (k))), (3, .int (nI (s1))), (4, .int (nI (ia))), (5, .int (nI (0))), (6, .int (nI (kk)))]) hx hb dX7_layPlan_82 hl (by decide) rfl (fun ls hl => ?_)
                  refine lv_aload_n hx hb dX7_layPlan_84 rfl (lv_at hl 2 rfl) ?_
                  refine lv_iload hx hb dX7_layPlan_85 (lv_at hl 0 rfl) ?_
                  refine w_cVi (rest := []) hx hb hml hown hts (m_isBoard_R l D b cI cJ cZ A (va_up v 19 (gg)) c zz  (by show (v 5 0) ≤ 7; first | assumption | omega)) 1 gX7_layPlan_X7_isBoard rfl hdX7_isBoard ⟨Nat.le_of_ble_eq_true rfl, Nat.le_of_ble_eq_true rfl⟩ hK hN hP hD hS hA 0 7 rfl rfl rfl rfl hl.1 rfl (Nat.le_of_ble_eq_true rfl) dX7_layPlan_87 ⟨Nat.le_of_ble_eq_true rfl, Nat.le_of_ble_eq_true rfl⟩ (fun r u H locs hq hP hD hS => ?_)
                  rcases hq with ⟨j_87, rfl, h_87, hs_x_87⟩ | ⟨rfl, h_87⟩
                  · skip
                    have h_87 : j_87 < (v 5 0) := h_87
                    have hP : va_P D vwCl (mW b cI cJ cZ (va_up v 19 (gg)) c) H := hP
                    have hD : va_D A (mW b cI cJ cZ (va_up v 19 (gg)) c) := hD
                    subst hs_x_87
                    have j_87T := n_tI (k := j_87) (by omega)
                    refine w_if_ne (x := 1) hx hb dX7_layPlan_90 (tgt := 95) (by decide) (by decide) (fun _ => ?_) (fun h => absurd h (by decide))
                    refine lv_aload_n hx hb dX7_layPlan_95 rfl (lv_at hl 2 rfl) ?_
                    refine va_get (D := D) (ci := 7) (v := .ref (b 19)) (C := RX7) (T := TX7) (N := 24) hx hb hts hinX7 hown hK hP 0 rfl rfl 19 (by decide) (hts (.fieldLink RX7 43 "DancedLockModel" "plan" "[I") (List.mem_of_getElem? (i := 4) rfl)) (fun _ h9 => h9) rfl dX7_layPlan_96 ?_
                    refine lv_iconst (v := nI (4)) hx hb dX7_layPlan_99 (by decide) ?_
                    refine lv_iload hx hb dX7_layPlan_100 (lv_at hl 8 rfl) ?_
                    refine w_imul (x := 4) (y := kk) hx hb dX7_layPlan_102  ?_
                    rw [show (nI (4 * kk)) = (nI (kk * 4)) from by rw [Nat.mul_comm]]
                    refine lv_iload hx hb dX7_layPlan_103 (lv_at hl 1 rfl) ?_
                    refine w_iadd (x := kk * 4) (y := ee) hx hb dX7_layPlan_105  ?_
                    refine lv_iload hx hb dX7_layPlan_106 (lv_at hl 0 rfl) ?_
                    refine w_iast (f := gg) (w := j_87) hx hb hK hP hD hS 12 0 rfl rfl (i := kk * 4 + ee) (by omega) (by decide) dX7_layPlan_108 (fun H locs hP hD hS => ?_)
                    have hP : va_P D vwCl (mW b cI cJ cZ (va_up v 19 (va_up gg (kk * 4 + ee) j_87)) c) H := hP
                    have hD : va_D A (mW b cI cJ cZ (va_up v 19 (va_up gg (kk * 4 + ee) j_87)) c) := hD
                    refine lv_iinc (v := nI (ee + 1)) (lv' := [(7, .int (nI (ee + 1))), (8, .int (nI (j_87))), (0, .ref (b 0)), (1, .int (nI (bt))), (2, .int (nI (k))), (3, .int (nI (s1))), (4, .int (nI (ia))), (5, .int (nI (0))), (6, .int (nI (kk)))]) hx hb dX7_layPlan_109 hl (k := 1) rfl (nI_add ee 1) (by decide) rfl (fun ls hl => ?_)
                    refine lv_goto (tgt := 50) hx hb dX7_layPlan_112 (by decide) ?_
                    exact ih50 (ee + 1) (va_up gg (kk * 4 + ee) j_87) _ _ _ (by omega) (by omega) (by exact rd_i (c := fun q => c 4 (k * 80 + (ia + q))) k3 hz.symm h_87) (by exact up8 k4 (by omega)) (by exact fun q hq => (up_ne (by omega)).trans (k5 q hq)) hP hD hS (lv_sub hl [0, 2, 3, 4, 5, 6, 7, 8] rfl)
                  · skip
                    have h_87 : zz.toInt < 0 ∨ ((v 5 0) : Int) ≤ zz.toInt := h_87
                    have hP : va_P D vwCl (mW b cI cJ cZ (va_up v 19 (gg)) c) H := hP
                    have hD : va_D A (mW b cI cJ cZ (va_up v 19 (gg)) c) := hD
                    refine w_if_ne (x := 0) hx hb dX7_layPlan_90 (tgt := 95) (by decide) (by decide) (fun h => absurd h (by decide)) (fun _ => ?_)
                    refine lv_iconst (v := -1) hx hb dX7_layPlan_93 (by decide) ?_
                    exact hret ((-1)) (va_up v 19 (gg), c) _ _ 94 _ dX7_layPlan_94 rfl (by exact Or.inr (Or.inr (Or.inl ⟨ia, gg, rfl, rfl, hY, Nat.pos_of_ne_zero c32, ⟨kk * v 16 0 + ee, hy, nR_of (by omega) (by show (c 4 (k * 80 + (ia + (kk * v 16 0 + ee)))).toInt < 0 ∨ _ ≤ (c 4 (k * 80 + (ia + (kk * v 16 0 + ee)))).toInt; rw [← hz]; exact h_87)⟩, k4⟩))) hP hD hS
            exact L50 ((v 16 0 - 0) + 1) 0 g19 _ _ _ (Nat.lt_succ_self _) (by omega) (by exact fun e he => absurd he (Nat.not_lt_zero _)) (by exact h4) (by exact fun q hq => rfl) hP hD hS (lv_sub hl [0, 2, 3, 4, 5, 6, 7, 1] rfl)
      exact L41 ((bt - 0) + 1) 0 (v 19) _ _ _ (Nat.lt_succ_self _) (by omega) (by exact fun b e hb => absurd hb (Nat.not_lt_zero _)) (by exact hsp) hP hD hS (lv_sub hl [0, 2, 3, 4, 5, 6, 1] rfl)
    · skip
      refine lv_bipush (v := -3) hx hb dX7_layPlan_35 (by decide) ?_
      exact hret ((-3)) (v, c) _ _ 37 _ dX7_layPlan_37 rfl (by exact Or.inr (Or.inl ⟨ia, rfl, rfl, hY, c32⟩)) hP hD hS

set_option maxHeartbeats 4000000 in
set_option maxRecDepth 100000 in
theorem s_opens (l : Launch) (D : va_G) (b : Nat → Nat) (cI cJ cZ : ClassId) (A : Nat → Prop) (v : Nat → Nat → Nat) (c : Nat → Nat → Int32) (x : Int32) (sh : Int32) (so : Int32) (ii : Int32) (hI : MI v c) :
    mI l yX7_opens wsX7_opens 4 92 [.ref (b 0), .int x, .int sh, .int so, .int ii] D (xT cI cJ cZ) A (mW b cI cJ cZ v c) (fun u : ((Nat → Nat → Nat) × (Nat → Nat → Int32)) => mW b cI cJ cZ u.1 u.2)
    (fun (r : Int32) (u : ((Nat → Nat → Nat) × (Nat → Nat → Int32))) => MI u.1 u.2 ∧ ∃ F, sp_bt (xNo (cM c)) (xHas (cM c)) (v 3) (xCell (cM c)) (v 5 0) (v 6 0) (v 16 0) x (fun _ => True) sh so ii (fun bt st r => sp_opd (v 5 0) (v 7) (v 16 0) (lA (v 17)) (pA (v 17) (v 18)) st (v 6 0) (v 8) (fun d k => v 9 (d * 6 + k)) bt r) r F ∧ XS (vM v) (cM c) (vM u.1, cM u.2) F) := by
  refine w_bI cX7_opens 6 .int (by decide) rfl (Nat.le_of_ble_eq_true rfl) (Or.inl rfl) ?_
  intro p e s m args below meth c0 ls Q hx hb hml hts hown hK hN hA hret hP hD hS hl
  have hl : lv_has ls 6 [(0, .ref (b 0)), (1, .int x), (2, .int sh), (3, .int so), (4, .int ii)] := hl
  have hinX7 : ∀ w ∈ wsX70, w ∈ wsX7_opens := fun w h => List.mem_cons_of_mem _ (List.mem_append_right _ h)
  obtain ⟨hnb, hnd, hbt, hfg, hne, hnc, hdk, hnf, hkn, hln, hst, hdc, hsp⟩ := MI_o hI
  have h20 : v 20 0 = 0 := hI.2.1
  have t1 : (nI 1).toInt = 1 := rfl
  have t6 : (nI 6).toInt = 6 := rfl
  refine lv_aload_n hx hb dX7_opens_0 rfl (lv_at hl 0 rfl) ?_
  refine lv_iconst (v := nI (0)) hx hb dX7_opens_1 (by decide) ?_
  refine va_put (D := D) (ci := 7) (v := .int (nI (0))) (ty := .int) (C := RX7) (T := TX7) (N := 24) hx hb hts hinX7 tyX7 tyX7_ok nmX7 hown hK hP hD hS 0 rfl rfl 0 (by decide) (hts (.fieldLink RX7 53 "DancedLockModel" "fault" "I") (List.mem_of_getElem? (i := 1) rfl)) (fun _ h9 => h9) rfl (by decide +kernel) rfl (rfl) (Nat.le_of_ble_eq_true rfl) dX7_opens_2 (fun H locs hP hD hS => ?_)
  have hP : va_P D vwCl (mW b cI cJ cZ (va_up v 0 (va_up (v 0) 0 (0))) c) H := hP
  have hD : va_D A (mW b cI cJ cZ (va_up v 0 (va_up (v 0) 0 (0))) c) := hD
  refine lv_iload_n hx hb dX7_opens_5 rfl (lv_at hl 2 rfl) ?_
  refine w_cSi (rest := []) hx hb hml hown hts (m_isSheet l D b cI cJ cZ A (va_up v 0 (va_up (v 0) 0 (0))) c sh  ) 1 gX7_opens_X7_isSheet rfl hdX7_isSheet ⟨Nat.le_of_ble_eq_true rfl, Nat.le_of_ble_eq_true rfl⟩ hK hN hP hD hS hA rfl hl.1 rfl (Nat.le_of_ble_eq_true rfl) dX7_opens_6 ⟨Nat.le_of_ble_eq_true rfl, Nat.le_of_ble_eq_true rfl⟩ (fun r u H locs hq hP hD hS => ?_)
  rcases hq with ⟨j_6, rfl, h_6, hs_x_6⟩ | ⟨rfl, h_6⟩
  · skip
    have hP : va_P D vwCl (mW b cI cJ cZ (va_up v 0 (va_up (v 0) 0 (0))) c) H := hP
    have hD : va_D A (mW b cI cJ cZ (va_up v 0 (va_up (v 0) 0 (0))) c) := hD
    subst hs_x_6
    have j_6T := n_tI (k := j_6) (by omega)
    refine w_if_ne (x := 1) hx hb dX7_opens_9 (tgt := 14) (by decide) (by decide) (fun _ => ?_) (fun h => absurd h (by decide))
    refine lv_iload_n hx hb dX7_opens_14 rfl (lv_at hl 3 rfl) ?_
    refine w_cSi (rest := []) hx hb hml hown hts (m_isSort l D b cI cJ cZ A (va_up v 0 (va_up (v 0) 0 (0))) c so  ) 1 gX7_opens_X7_isSort rfl hdX7_isSort ⟨Nat.le_of_ble_eq_true rfl, Nat.le_of_ble_eq_true rfl⟩ hK hN hP hD hS hA rfl hl.1 rfl (Nat.le_of_ble_eq_true rfl) dX7_opens_15 ⟨Nat.le_of_ble_eq_true rfl, Nat.le_of_ble_eq_true rfl⟩ (fun r u H locs hq hP hD hS => ?_)
    rcases hq with ⟨j_15, rfl, h_15, hs_x_15⟩ | ⟨rfl, h_15⟩
    · skip
      have hP : va_P D vwCl (mW b cI cJ cZ (va_up v 0 (va_up (v 0) 0 (0))) c) H := hP
      have hD : va_D A (mW b cI cJ cZ (va_up v 0 (va_up (v 0) 0 (0))) c) := hD
      subst hs_x_15
      have j_15T := n_tI (k := j_15) (by omega)
      refine w_if_eq (x := 1) hx hb dX7_opens_18 (tgt := 31) (by decide) (by decide) (fun h => absurd h (by decide)) (fun _ => ?_)
      refine lv_iload_n hx hb dX7_opens_21 rfl (lv_at hl 1 rfl) ?_
      refine lv_iconst (v := nI (1)) hx hb dX7_opens_22 (by decide) ?_
      refine lv_bipush (v := nI (6)) hx hb dX7_opens_23 (by decide) ?_
      refine w_cSi (rest := []) hx hb hml hown hts (m_within_N l D b cI cJ cZ A (va_up v 0 (va_up (v 0) 0 (0))) c x 1 6  (by first | assumption | omega) (by first | assumption | omega)) 3 gX7_opens_X7_within rfl hdX7_within ⟨Nat.le_of_ble_eq_true rfl, Nat.le_of_ble_eq_true rfl⟩ hK hN hP hD hS hA rfl hl.1 rfl (Nat.le_of_ble_eq_true rfl) dX7_opens_25 ⟨Nat.le_of_ble_eq_true rfl, Nat.le_of_ble_eq_true rfl⟩ (fun r u H locs hq hP hD hS => ?_)
      rcases hq with ⟨j_25, rfl, h1_25, h_25, hs_x_25⟩ | ⟨rfl, h_25⟩
      · skip
        have hP : va_P D vwCl (mW b cI cJ cZ (va_up v 0 (va_up (v 0) 0 (0))) c) H := hP
        have hD : va_D A (mW b cI cJ cZ (va_up v 0 (va_up (v 0) 0 (0))) c) := hD
        subst hs_x_25
        have j_25T := n_tI (k := j_25) (by omega)
        refine w_if_ne (x := 1) hx hb dX7_opens_28 (tgt := 34) (by decide) (by decide) (fun _ => ?_) (fun h => absurd h (by decide))
        refine lv_aload_n hx hb dX7_opens_34 rfl (lv_at hl 0 rfl) ?_
        refine lv_iload_n hx hb dX7_opens_35 rfl (lv_at hl 1 rfl) ?_
        refine lv_iload_n hx hb dX7_opens_36 rfl (lv_at hl 2 rfl) ?_
        refine lv_iload_n hx hb dX7_opens_37 rfl (lv_at hl 3 rfl) ?_
        refine lv_iload hx hb dX7_opens_38 (lv_at hl 4 rfl) ?_
        refine w_cVi (rest := []) hx hb hml hown hts (m_layPlan l D b cI cJ cZ A (va_up v 0 (va_up (v 0) 0 (0))) c j_25 j_6 j_15 ii  (by show MI (va_up v 0 (va_up (v 0) 0 (0))) c; exact MI_rd hI ⟨rfl, rfl, rfl, rfl, rfl, rfl, rfl, rfl, rfl, rfl, rfl, rfl, rfl⟩ hsp) (by exact h_25) (by exact h_6) (by exact h_15)) 4 gX7_opens_X7_layPlan rfl hdX7_layPlan ⟨Nat.le_of_ble_eq_true rfl, Nat.le_of_ble_eq_true rfl⟩ hK hN hP hD hS hA 0 7 rfl rfl rfl rfl hl.1 rfl (Nat.le_of_ble_eq_true rfl) dX7_opens_40 ⟨Nat.le_of_ble_eq_true rfl, Nat.le_of_ble_eq_true rfl⟩ (fun r u H locs hq hP hD hS => ?_)
        rcases hq with ⟨r0_40, F_40, hr_40, rfl, h_40, hne_40⟩ | ⟨ia_40, rfl, rfl, h_40, h0_40⟩ | ⟨ia_40, g19_40, rfl, rfl, h_40, h0_40, hN_40, hs_40⟩ | ⟨ia_40, g19_40, rfl, rfl, h_40, h0_40, hP_40, hs_40⟩
        · skip
          have h_40 : tkB (xNo (cM c)) (xHas (cM c)) ((v 3)) (nI j_6) (nI j_15) False ii (nI (j_25 * (v 16 0))) r0_40 F_40 := h_40
          rw [hr_40]
          have hP : va_P D vwCl (mW b cI cJ cZ (va_up v 0 (va_up (v 0) 0 (F_40))) c) H := hP
          have hD : va_D A (mW b cI cJ cZ (va_up v 0 (va_up (v 0) 0 (F_40))) c) := hD
          refine lv_istore (lv' := [(5, .int r0_40), (0, .ref (b 0)), (1, .int (nI (j_25))), (2, .int (nI (j_6))), (3, .int (nI (j_15))), (4, .int ii)]) hx hb dX7_opens_43 hl (by decide) rfl (fun ls hl => ?_)
          refine lv_iload hx hb dX7_opens_45 (lv_at hl 0 rfl) ?_
          refine lv_if_eq hx hb dX7_opens_47 (tgt := 55) (by decide) (fun c47 => absurd c47 (by first | assumption | decide)) (fun c47 => ?_)
          refine lv_iload hx hb dX7_opens_50 (lv_at hl 0 rfl) ?_
          refine lv_goto (tgt := 60) hx hb dX7_opens_52 (by decide) ?_
          exact hret (r0_40) (va_up v 0 (va_up (v 0) 0 (F_40)), c) _ _ 60 _ dX7_opens_60 rfl (by exact ⟨MI_rd hI ⟨rfl, rfl, rfl, rfl, rfl, rfl, rfl, rfl, rfl, rfl, rfl, rfl, rfl⟩ (hsp), _, Or.inl ⟨j_25, h1_25, h_25, rfl, trivial, Or.inl h_40⟩, (MI_rd hI ⟨rfl, rfl, rfl, rfl, rfl, rfl, rfl, rfl, rfl, rfl, rfl, rfl, rfl⟩ (hsp)).1, rfl, rfl, rfl, rfl, rfl, rfl, rfl, rfl, rfl, rfl, rfl, rfl, rfl, rfl⟩) hP hD hS
        · skip
          have h_40 : tkY (xHas (cM c)) ((v 3)) (nI j_6) (nI j_15) False ii (nI (j_25 * (v 16 0))) j_6 j_15 ia_40 (j_25 * (v 16 0)) := h_40
          have h0_40 : (v 6 0) = 0 := h0_40
          have hP : va_P D vwCl (mW b cI cJ cZ (va_up v 0 (va_up (v 0) 0 (0))) c) H := hP
          have hD : va_D A (mW b cI cJ cZ (va_up v 0 (va_up (v 0) 0 (0))) c) := hD
          refine lv_istore (lv' := [(5, .int (-3)), (0, .ref (b 0)), (1, .int (nI (j_25))), (2, .int (nI (j_6))), (3, .int (nI (j_15))), (4, .int ii)]) hx hb dX7_opens_43 hl (by decide) rfl (fun ls hl => ?_)
          refine lv_iload hx hb dX7_opens_45 (lv_at hl 0 rfl) ?_
          refine lv_if_eq hx hb dX7_opens_47 (tgt := 55) (by decide) (fun c47 => absurd c47 (by first | assumption | decide)) (fun c47 => ?_)
          refine lv_iload hx hb dX7_opens_50 (lv_at hl 0 rfl) ?_
          refine lv_goto (tgt := 60) hx hb dX7_opens_52 (by decide) ?_
          exact hret (-3) (va_up v 0 (va_up (v 0) 0 (0)), c) _ _ 60 _ dX7_opens_60 rfl (by exact ⟨MI_rd hI ⟨rfl, rfl, rfl, rfl, rfl, rfl, rfl, rfl, rfl, rfl, rfl, rfl, rfl⟩ (hsp), _, Or.inl ⟨j_25, h1_25, h_25, rfl, trivial, Or.inr ⟨_, _, _, _, h_40, rfl, Or.inl ⟨h0_40, rfl⟩⟩⟩, (MI_rd hI ⟨rfl, rfl, rfl, rfl, rfl, rfl, rfl, rfl, rfl, rfl, rfl, rfl, rfl⟩ (hsp)).1, rfl, rfl, rfl, rfl, rfl, rfl, rfl, rfl, rfl, rfl, rfl, rfl, rfl, rfl⟩) hP hD hS
        · skip
          have h_40 : tkY (xHas (cM c)) ((v 3)) (nI j_6) (nI j_15) False ii (nI (j_25 * (v 16 0))) j_6 j_15 ia_40 (j_25 * (v 16 0)) := h_40
          have h0_40 : 0 < (v 6 0) := h0_40
          have hN_40 : cellsN (xCell (cM c)) j_6 ia_40 ((v 5 0)) (j_25 * (v 16 0)) := hN_40
          have hP : va_P D vwCl (mW b cI cJ cZ (va_up (va_up v 0 (va_up (v 0) 0 (0))) 19 (g19_40)) c) H := hP
          have hD : va_D A (mW b cI cJ cZ (va_up (va_up v 0 (va_up (v 0) 0 (0))) 19 (g19_40)) c) := hD
          refine lv_istore (lv' := [(5, .int (-1)), (0, .ref (b 0)), (1, .int (nI (j_25))), (2, .int (nI (j_6))), (3, .int (nI (j_15))), (4, .int ii)]) hx hb dX7_opens_43 hl (by decide) rfl (fun ls hl => ?_)
          refine lv_iload hx hb dX7_opens_45 (lv_at hl 0 rfl) ?_
          refine lv_if_eq hx hb dX7_opens_47 (tgt := 55) (by decide) (fun c47 => absurd c47 (by first | assumption | decide)) (fun c47 => ?_)
          refine lv_iload hx hb dX7_opens_50 (lv_at hl 0 rfl) ?_
          refine lv_goto (tgt := 60) hx hb dX7_opens_52 (by decide) ?_
          exact hret (-1) (va_up (va_up v 0 (va_up (v 0) 0 (0))) 19 (g19_40), c) _ _ 60 _ dX7_opens_60 rfl (by exact mx_of (MI_rd hI ⟨rfl, rfl, rfl, rfl, rfl, rfl, rfl, rfl, rfl, rfl, rfl, rfl, rfl⟩ (hs_40)) (Or.inl ⟨j_25, h1_25, h_25, rfl, trivial, Or.inr ⟨_, _, _, _, h_40, rfl, Or.inr (Or.inl ⟨h0_40, hN_40, rfl⟩)⟩⟩) rfl ⟨rfl, rfl, rfl, rfl, rfl, rfl, rfl, rfl, rfl, rfl, rfl, rfl, rfl⟩) hP hD hS
        · skip
          have h_40 : tkY (xHas (cM c)) ((v 3)) (nI j_6) (nI j_15) False ii (nI (j_25 * (v 16 0))) j_6 j_15 ia_40 (j_25 * (v 16 0)) := h_40
          have h0_40 : 0 < (v 6 0) := h0_40
          have hP_40 : cellsP (xCell (cM c)) j_6 ia_40 ((v 5 0)) ((v 16 0)) j_25 g19_40 := hP_40
          have hP : va_P D vwCl (mW b cI cJ cZ (va_up (va_up v 0 (va_up (v 0) 0 (0))) 19 (g19_40)) c) H := hP
          have hD : va_D A (mW b cI cJ cZ (va_up (va_up v 0 (va_up (v 0) 0 (0))) 19 (g19_40)) c) := hD
          refine lv_istore (lv' := [(5, .int (nI (0))), (0, .ref (b 0)), (1, .int (nI (j_25))), (2, .int (nI (j_6))), (3, .int (nI (j_15))), (4, .int ii)]) hx hb dX7_opens_43 hl (by decide) rfl (fun ls hl => ?_)
          refine lv_iload hx hb dX7_opens_45 (lv_at hl 0 rfl) ?_
          refine w_if_eq (x := 0) hx hb dX7_opens_47 (tgt := 55) (by decide) (by decide) (fun _ => ?_) (fun h => absurd h (by decide))
          refine lv_aload_n hx hb dX7_opens_55 rfl (lv_at hl 1 rfl) ?_
          refine lv_iload_n hx hb dX7_opens_56 rfl (lv_at hl 2 rfl) ?_
          refine w_cVi (rest := []) hx hb hml hown hts (m_openedBy l D b cI cJ cZ A (va_up (va_up v 0 (va_up (v 0) 0 (0))) 19 (g19_40)) c j_25  (by show XI (vM (va_up (va_up v 0 (va_up (v 0) 0 (0))) 19 (g19_40))); exact MX_i ⟨hnb, hnd, hbt, hfg, hne, hnc, hdk, hnf, hkn, hln, hst, hdc, hs_40⟩) (by show (v 20 0) ≤ 1; rw [h20]; decide) (by exact h_25)) 1 gX7_opens_X7_openedBy rfl hdX7_openedBy ⟨Nat.le_of_ble_eq_true rfl, Nat.le_of_ble_eq_true rfl⟩ hK hN hP hD hS hA 0 7 rfl rfl rfl rfl hl.1 rfl (Nat.le_of_ble_eq_true rfl) dX7_opens_57 ⟨Nat.le_of_ble_eq_true rfl, Nat.le_of_ble_eq_true rfl⟩ (fun r u H locs hq hP hD hS => ?_)
          rcases hq with ⟨d_57, rfl, h1_57, h2_57, h3_57⟩ | ⟨rfl, h3_57⟩
          · skip
            have h1_57 : d_57 < (v 6 0) := h1_57
            have h2_57 : opd ((v 5 0)) ((v 7)) ((v 16 0)) (mL ((v 20 0)) ((v 17))) (mP ((v 20 0)) ((v 17)) ((v 18))) (g19_40) ((v 8)) (fun d_57 k => (v 9) (d_57 * 6 + k)) j_25 d_57 := h2_57
            have h3_57 : ∀ e, e < d_57 → ¬ opd ((v 5 0)) ((v 7)) ((v 16 0)) (mL ((v 20 0)) ((v 17))) (mP ((v 20 0)) ((v 17)) ((v 18))) (g19_40) ((v 8)) (fun d_57 k => (v 9) (d_57 * 6 + k)) j_25 e := h3_57
            have hP : va_P D vwCl (mW b cI cJ cZ (va_up (va_up v 0 (va_up (v 0) 0 (0))) 19 (g19_40)) c) H := hP
            have hD : va_D A (mW b cI cJ cZ (va_up (va_up v 0 (va_up (v 0) 0 (0))) 19 (g19_40)) c) := hD
            exact hret (nI (d_57)) (va_up (va_up v 0 (va_up (v 0) 0 (0))) 19 (g19_40), c) _ _ 60 _ dX7_opens_60 rfl (by exact mx_of (MI_rd hI ⟨rfl, rfl, rfl, rfl, rfl, rfl, rfl, rfl, rfl, rfl, rfl, rfl, rfl⟩ (hs_40)) (Or.inl ⟨j_25, h1_25, h_25, rfl, trivial, Or.inr ⟨_, _, _, _, h_40, rfl, Or.inr (Or.inr ⟨h0_40, g19_40, hP_40, by rw [h20, mL_0, mP_0] at h2_57 h3_57; exact Or.inl ⟨d_57, h1_57, rfl, h2_57, h3_57⟩⟩)⟩⟩) rfl ⟨rfl, rfl, rfl, rfl, rfl, rfl, rfl, rfl, rfl, rfl, rfl, rfl, rfl⟩) hP hD hS
          · skip
            have h3_57 : ∀ e, e < (v 6 0) → ¬ opd ((v 5 0)) ((v 7)) ((v 16 0)) (mL ((v 20 0)) ((v 17))) (mP ((v 20 0)) ((v 17)) ((v 18))) (g19_40) ((v 8)) (fun d k => (v 9) (d * 6 + k)) j_25 e := h3_57
            have hP : va_P D vwCl (mW b cI cJ cZ (va_up (va_up v 0 (va_up (v 0) 0 (0))) 19 (g19_40)) c) H := hP
            have hD : va_D A (mW b cI cJ cZ (va_up (va_up v 0 (va_up (v 0) 0 (0))) 19 (g19_40)) c) := hD
            exact hret (-9) (va_up (va_up v 0 (va_up (v 0) 0 (0))) 19 (g19_40), c) _ _ 60 _ dX7_opens_60 rfl (by exact mx_of (MI_rd hI ⟨rfl, rfl, rfl, rfl, rfl, rfl, rfl, rfl, rfl, rfl, rfl, rfl, rfl⟩ (hs_40)) (Or.inl ⟨j_25, h1_25, h_25, rfl, trivial, Or.inr ⟨_, _, _, _, h_40, rfl, Or.inr (Or.inr ⟨h0_40, g19_40, hP_40, by rw [h20, mL_0, mP_0] at h3_57; exact Or.inr ⟨rfl, h3_57⟩⟩)⟩⟩) rfl ⟨rfl, rfl, rfl, rfl, rfl, rfl, rfl, rfl, rfl, rfl, rfl, rfl, rfl⟩) hP hD hS
      · skip
        have hP : va_P D vwCl (mW b cI cJ cZ (va_up v 0 (va_up (v 0) 0 (0))) c) H := hP
        have hD : va_D A (mW b cI cJ cZ (va_up v 0 (va_up (v 0) 0 (0))) c) := hD
        refine w_if_ne (x := 0) hx hb dX7_opens_28 (tgt := 34) (by decide) (by decide) (fun h => absurd h (by decide)) (fun _ => ?_)
        refine lv_bipush (v := -2) hx hb dX7_opens_31 (by decide) ?_
        exact hret ((-2)) (va_up v 0 (va_up (v 0) 0 (0)), c) _ _ 33 _ dX7_opens_33 rfl (by exact ⟨MI_rd hI ⟨rfl, rfl, rfl, rfl, rfl, rfl, rfl, rfl, rfl, rfl, rfl, rfl, rfl⟩ (hsp), _, Or.inr ⟨bt_no (by omega), rfl, Or.inr ⟨⟨j_6, h_6, rfl⟩, rfl⟩⟩, (MI_rd hI ⟨rfl, rfl, rfl, rfl, rfl, rfl, rfl, rfl, rfl, rfl, rfl, rfl, rfl⟩ (hsp)).1, rfl, rfl, rfl, rfl, rfl, rfl, rfl, rfl, rfl, rfl, rfl, rfl, rfl, rfl⟩) hP hD hS
    · skip
      have hP : va_P D vwCl (mW b cI cJ cZ (va_up v 0 (va_up (v 0) 0 (0))) c) H := hP
      have hD : va_D A (mW b cI cJ cZ (va_up v 0 (va_up (v 0) 0 (0))) c) := hD
      refine w_if_eq (x := 0) hx hb dX7_opens_18 (tgt := 31) (by decide) (by decide) (fun _ => ?_) (fun h => absurd h (by decide))
      refine lv_bipush (v := -2) hx hb dX7_opens_31 (by decide) ?_
      exact hret ((-2)) (va_up v 0 (va_up (v 0) 0 (0)), c) _ _ 33 _ dX7_opens_33 rfl (by exact ⟨MI_rd hI ⟨rfl, rfl, rfl, rfl, rfl, rfl, rfl, rfl, rfl, rfl, rfl, rfl, rfl⟩ (hsp), _, bt_so h_6 (nR_of (by decide) (by omega)), (MI_rd hI ⟨rfl, rfl, rfl, rfl, rfl, rfl, rfl, rfl, rfl, rfl, rfl, rfl, rfl⟩ (hsp)).1, rfl, rfl, rfl, rfl, rfl, rfl, rfl, rfl, rfl, rfl, rfl, rfl, rfl, rfl⟩) hP hD hS
  · skip
    have hP : va_P D vwCl (mW b cI cJ cZ (va_up v 0 (va_up (v 0) 0 (0))) c) H := hP
    have hD : va_D A (mW b cI cJ cZ (va_up v 0 (va_up (v 0) 0 (0))) c) := hD
    refine w_if_ne (x := 0) hx hb dX7_opens_9 (tgt := 14) (by decide) (by decide) (fun h => absurd h (by decide)) (fun _ => ?_)
    refine lv_iconst (v := -1) hx hb dX7_opens_12 (by decide) ?_
    exact hret ((-1)) (va_up v 0 (va_up (v 0) 0 (0)), c) _ _ 13 _ dX7_opens_13 rfl (by exact ⟨MI_rd hI ⟨rfl, rfl, rfl, rfl, rfl, rfl, rfl, rfl, rfl, rfl, rfl, rfl, rfl⟩ (hsp), _, bt_sh (nR_of (by decide) (by omega)), (MI_rd hI ⟨rfl, rfl, rfl, rfl, rfl, rfl, rfl, rfl, rfl, rfl, rfl, rfl, rfl⟩ (hsp)).1, rfl, rfl, rfl, rfl, rfl, rfl, rfl, rfl, rfl, rfl, rfl, rfl, rfl, rfl⟩) hP hD hS

set_option maxHeartbeats 4000000 in
set_option maxRecDepth 100000 in
theorem s_felt (l : Launch) (D : va_G) (b : Nat → Nat) (cI cJ cZ : ClassId) (A : Nat → Prop) (v : Nat → Nat → Nat) (c : Nat → Nat → Int32) (x : Int32) (y : Int32) (sh : Int32) (so : Int32) (ii : Int32) (hI : MI v c) :
    mI l yX7_felt wsX7_felt 2 52 [.ref (b 0), .int x, .int y, .int sh, .int so, .int ii] D (xT cI cJ cZ) A (mW b cI cJ cZ v c) (fun u : ((Nat → Nat → Nat) × (Nat → Nat → Int32)) => mW b cI cJ cZ u.1 u.2)
    (fun (r : Int32) (u : ((Nat → Nat → Nat) × (Nat → Nat → Int32))) => MI u.1 u.2 ∧ ∃ F, sp_bt (xNo (cM c)) (xHas (cM c)) (v 3) (xCell (cM c)) (v 5 0) (v 6 0) (v 16 0) x (fun bt => ∃ j, j < bt ∧ y = nI j) sh so ii (fun bt st r => ∃ j, j < bt ∧ y = nI j ∧ r = nI (FE (v 5 0) (v 7) (v 16 0) (lA (v 17)) (pA (v 17) (v 18)) st j)) r F ∧ XS (vM v) (cM c) (vM u.1, cM u.2) F) := by
  refine w_bI cX7_felt 7 .int (by decide) rfl (Nat.le_of_ble_eq_true rfl) (Or.inl rfl) ?_
  intro p e s m args below meth c0 ls Q hx hb hml hts hown hK hN hA hret hP hD hS hl
  have hl : lv_has ls 7 [(0, .ref (b 0)), (1, .int x), (2, .int y), (3, .int sh), (4, .int so), (5, .int ii)] := hl
  have hinX7 : ∀ w ∈ wsX70, w ∈ wsX7_felt := fun w h => List.mem_cons_of_mem _ (List.mem_append_right _ h)
  obtain ⟨hnb, hnd, hbt, hfg, hne, hnc, hdk, hnf, hkn, hln, hst, hdc, hsp⟩ := MI_o hI
  have h20 : v 20 0 = 0 := hI.2.1
  have t1 : (nI 1).toInt = 1 := rfl
  have t6 : (nI 6).toInt = 6 := rfl
  refine lv_aload_n hx hb dX7_felt_0 rfl (lv_at hl 0 rfl) ?_
  refine lv_iconst (v := nI (0)) hx hb dX7_felt_1 (by decide) ?_
  refine va_put (D := D) (ci := 7) (v := .int (nI (0))) (ty := .int) (C := RX7) (T := TX7) (N := 24) hx hb hts hinX7 tyX7 tyX7_ok nmX7 hown hK hP hD hS 0 rfl rfl 0 (by decide) (hts (.fieldLink RX7 53 "DancedLockModel" "fault" "I") (List.mem_of_getElem? (i := 1) rfl)) (fun _ h9 => h9) rfl (by decide +kernel) rfl (rfl) (Nat.le_of_ble_eq_true rfl) dX7_felt_2 (fun H locs hP hD hS => ?_)
  have hP : va_P D vwCl (mW b cI cJ cZ (va_up v 0 (va_up (v 0) 0 (0))) c) H := hP
  have hD : va_D A (mW b cI cJ cZ (va_up v 0 (va_up (v 0) 0 (0))) c) := hD
  refine lv_iload_n hx hb dX7_felt_5 rfl (lv_at hl 3 rfl) ?_
  refine w_cSi (rest := []) hx hb hml hown hts (m_isSheet l D b cI cJ cZ A (va_up v 0 (va_up (v 0) 0 (0))) c sh  ) 1 gX7_felt_X7_isSheet rfl hdX7_isSheet ⟨Nat.le_of_ble_eq_true rfl, Nat.le_of_ble_eq_true rfl⟩ hK hN hP hD hS hA rfl hl.1 rfl (Nat.le_of_ble_eq_true rfl) dX7_felt_6 ⟨Nat.le_of_ble_eq_true rfl, Nat.le_of_ble_eq_true rfl⟩ (fun r u H locs hq hP hD hS => ?_)
  rcases hq with ⟨j_6, rfl, h_6, hs_x_6⟩ | ⟨rfl, h_6⟩
  · skip
    have hP : va_P D vwCl (mW b cI cJ cZ (va_up v 0 (va_up (v 0) 0 (0))) c) H := hP
    have hD : va_D A (mW b cI cJ cZ (va_up v 0 (va_up (v 0) 0 (0))) c) := hD
    subst hs_x_6
    have j_6T := n_tI (k := j_6) (by omega)
    refine w_if_ne (x := 1) hx hb dX7_felt_9 (tgt := 14) (by decide) (by decide) (fun _ => ?_) (fun h => absurd h (by decide))
    refine lv_iload hx hb dX7_felt_14 (lv_at hl 4 rfl) ?_
    refine w_cSi (rest := []) hx hb hml hown hts (m_isSort l D b cI cJ cZ A (va_up v 0 (va_up (v 0) 0 (0))) c so  ) 1 gX7_felt_X7_isSort rfl hdX7_isSort ⟨Nat.le_of_ble_eq_true rfl, Nat.le_of_ble_eq_true rfl⟩ hK hN hP hD hS hA rfl hl.1 rfl (Nat.le_of_ble_eq_true rfl) dX7_felt_16 ⟨Nat.le_of_ble_eq_true rfl, Nat.le_of_ble_eq_true rfl⟩ (fun r u H locs hq hP hD hS => ?_)
    rcases hq with ⟨j_16, rfl, h_16, hs_x_16⟩ | ⟨rfl, h_16⟩
    · skip
      have hP : va_P D vwCl (mW b cI cJ cZ (va_up v 0 (va_up (v 0) 0 (0))) c) H := hP
      have hD : va_D A (mW b cI cJ cZ (va_up v 0 (va_up (v 0) 0 (0))) c) := hD
      subst hs_x_16
      have j_16T := n_tI (k := j_16) (by omega)
      refine w_if_eq (x := 1) hx hb dX7_felt_19 (tgt := 43) (by decide) (by decide) (fun h => absurd h (by decide)) (fun _ => ?_)
      refine lv_iload_n hx hb dX7_felt_22 rfl (lv_at hl 1 rfl) ?_
      refine lv_iconst (v := nI (1)) hx hb dX7_felt_23 (by decide) ?_
      refine lv_bipush (v := nI (6)) hx hb dX7_felt_24 (by decide) ?_
      refine w_cSi (rest := []) hx hb hml hown hts (m_within_N l D b cI cJ cZ A (va_up v 0 (va_up (v 0) 0 (0))) c x 1 6  (by first | assumption | omega) (by first | assumption | omega)) 3 gX7_felt_X7_within rfl hdX7_within ⟨Nat.le_of_ble_eq_true rfl, Nat.le_of_ble_eq_true rfl⟩ hK hN hP hD hS hA rfl hl.1 rfl (Nat.le_of_ble_eq_true rfl) dX7_felt_26 ⟨Nat.le_of_ble_eq_true rfl, Nat.le_of_ble_eq_true rfl⟩ (fun r u H locs hq hP hD hS => ?_)
      rcases hq with ⟨j_26, rfl, h1_26, h_26, hs_x_26⟩ | ⟨rfl, h_26⟩
      · skip
        have hP : va_P D vwCl (mW b cI cJ cZ (va_up v 0 (va_up (v 0) 0 (0))) c) H := hP
        have hD : va_D A (mW b cI cJ cZ (va_up v 0 (va_up (v 0) 0 (0))) c) := hD
        subst hs_x_26
        have j_26T := n_tI (k := j_26) (by omega)
        refine w_if_eq (x := 1) hx hb dX7_felt_29 (tgt := 43) (by decide) (by decide) (fun h => absurd h (by decide)) (fun _ => ?_)
        refine lv_iload_n hx hb dX7_felt_32 rfl (lv_at hl 2 rfl) ?_
        refine lv_iconst (v := nI (0)) hx hb dX7_felt_33 (by decide) ?_
        refine lv_iload_n hx hb dX7_felt_34 rfl (lv_at hl 1 rfl) ?_
        refine lv_iconst (v := nI (1)) hx hb dX7_felt_35 (by decide) ?_
        refine w_isub (x := j_26) (y := 1) hx hb dX7_felt_36 (by omega) ?_
        refine w_cSi (rest := []) hx hb hml hown hts (m_within_N l D b cI cJ cZ A (va_up v 0 (va_up (v 0) 0 (0))) c y 0 (j_26 - 1)  (by first | assumption | omega) (by first | assumption | omega)) 3 gX7_felt_X7_within rfl hdX7_within ⟨Nat.le_of_ble_eq_true rfl, Nat.le_of_ble_eq_true rfl⟩ hK hN hP hD hS hA rfl hl.1 rfl (Nat.le_of_ble_eq_true rfl) dX7_felt_37 ⟨Nat.le_of_ble_eq_true rfl, Nat.le_of_ble_eq_true rfl⟩ (fun r u H locs hq hP hD hS => ?_)
        rcases hq with ⟨j_37, rfl, h1_37, h_37, hs_x_37⟩ | ⟨rfl, h_37⟩
        · skip
          have hP : va_P D vwCl (mW b cI cJ cZ (va_up v 0 (va_up (v 0) 0 (0))) c) H := hP
          have hD : va_D A (mW b cI cJ cZ (va_up v 0 (va_up (v 0) 0 (0))) c) := hD
          subst hs_x_37
          have j_37T := n_tI (k := j_37) (by omega)
          refine w_if_ne (x := 1) hx hb dX7_felt_40 (tgt := 46) (by decide) (by decide) (fun _ => ?_) (fun h => absurd h (by decide))
          refine lv_aload_n hx hb dX7_felt_46 rfl (lv_at hl 0 rfl) ?_
          refine lv_iload_n hx hb dX7_felt_47 rfl (lv_at hl 1 rfl) ?_
          refine lv_iload_n hx hb dX7_felt_48 rfl (lv_at hl 3 rfl) ?_
          refine lv_iload hx hb dX7_felt_49 (lv_at hl 4 rfl) ?_
          refine lv_iload hx hb dX7_felt_51 (lv_at hl 5 rfl) ?_
          refine w_cVi (rest := []) hx hb hml hown hts (m_layPlan l D b cI cJ cZ A (va_up v 0 (va_up (v 0) 0 (0))) c j_26 j_6 j_16 ii  (by show MI (va_up v 0 (va_up (v 0) 0 (0))) c; exact MI_rd hI ⟨rfl, rfl, rfl, rfl, rfl, rfl, rfl, rfl, rfl, rfl, rfl, rfl, rfl⟩ hsp) (by exact h_26) (by exact h_6) (by exact h_16)) 4 gX7_felt_X7_layPlan rfl hdX7_layPlan ⟨Nat.le_of_ble_eq_true rfl, Nat.le_of_ble_eq_true rfl⟩ hK hN hP hD hS hA 0 7 rfl rfl rfl rfl hl.1 rfl (Nat.le_of_ble_eq_true rfl) dX7_felt_53 ⟨Nat.le_of_ble_eq_true rfl, Nat.le_of_ble_eq_true rfl⟩ (fun r u H locs hq hP hD hS => ?_)
          rcases hq with ⟨r0_53, F_53, hr_53, rfl, h_53, hne_53⟩ | ⟨ia_53, rfl, rfl, h_53, h0_53⟩ | ⟨ia_53, g19_53, rfl, rfl, h_53, h0_53, hN_53, hs_53⟩ | ⟨ia_53, g19_53, rfl, rfl, h_53, h0_53, hP_53, hs_53⟩
          · skip
            have h_53 : tkB (xNo (cM c)) (xHas (cM c)) ((v 3)) (nI j_6) (nI j_16) False ii (nI (j_26 * (v 16 0))) r0_53 F_53 := h_53
            rw [hr_53]
            have hP : va_P D vwCl (mW b cI cJ cZ (va_up v 0 (va_up (v 0) 0 (F_53))) c) H := hP
            have hD : va_D A (mW b cI cJ cZ (va_up v 0 (va_up (v 0) 0 (F_53))) c) := hD
            refine lv_istore (lv' := [(6, .int r0_53), (0, .ref (b 0)), (1, .int (nI (j_26))), (2, .int (nI (j_37))), (3, .int (nI (j_6))), (4, .int (nI (j_16))), (5, .int ii)]) hx hb dX7_felt_56 hl (by decide) rfl (fun ls hl => ?_)
            refine lv_iload hx hb dX7_felt_58 (lv_at hl 0 rfl) ?_
            refine lv_if_eq hx hb dX7_felt_60 (tgt := 68) (by decide) (fun c60 => absurd c60 (by first | assumption | decide)) (fun c60 => ?_)
            refine lv_iload hx hb dX7_felt_63 (lv_at hl 0 rfl) ?_
            refine lv_goto (tgt := 73) hx hb dX7_felt_65 (by decide) ?_
            exact hret (r0_53) (va_up v 0 (va_up (v 0) 0 (F_53)), c) _ _ 73 _ dX7_felt_73 rfl (by exact ⟨MI_rd hI ⟨rfl, rfl, rfl, rfl, rfl, rfl, rfl, rfl, rfl, rfl, rfl, rfl, rfl⟩ (hsp), _, Or.inl ⟨j_26, h1_26, h_26, rfl, ⟨j_37, by omega, rfl⟩, Or.inl h_53⟩, (MI_rd hI ⟨rfl, rfl, rfl, rfl, rfl, rfl, rfl, rfl, rfl, rfl, rfl, rfl, rfl⟩ (hsp)).1, rfl, rfl, rfl, rfl, rfl, rfl, rfl, rfl, rfl, rfl, rfl, rfl, rfl, rfl⟩) hP hD hS
          · skip
            have h_53 : tkY (xHas (cM c)) ((v 3)) (nI j_6) (nI j_16) False ii (nI (j_26 * (v 16 0))) j_6 j_16 ia_53 (j_26 * (v 16 0)) := h_53
            have h0_53 : (v 6 0) = 0 := h0_53
            have hP : va_P D vwCl (mW b cI cJ cZ (va_up v 0 (va_up (v 0) 0 (0))) c) H := hP
            have hD : va_D A (mW b cI cJ cZ (va_up v 0 (va_up (v 0) 0 (0))) c) := hD
            refine lv_istore (lv' := [(6, .int (-3)), (0, .ref (b 0)), (1, .int (nI (j_26))), (2, .int (nI (j_37))), (3, .int (nI (j_6))), (4, .int (nI (j_16))), (5, .int ii)]) hx hb dX7_felt_56 hl (by decide) rfl (fun ls hl => ?_)
            refine lv_iload hx hb dX7_felt_58 (lv_at hl 0 rfl) ?_
            refine lv_if_eq hx hb dX7_felt_60 (tgt := 68) (by decide) (fun c60 => absurd c60 (by first | assumption | decide)) (fun c60 => ?_)
            refine lv_iload hx hb dX7_felt_63 (lv_at hl 0 rfl) ?_
            refine lv_goto (tgt := 73) hx hb dX7_felt_65 (by decide) ?_
            exact hret (-3) (va_up v 0 (va_up (v 0) 0 (0)), c) _ _ 73 _ dX7_felt_73 rfl (by exact ⟨MI_rd hI ⟨rfl, rfl, rfl, rfl, rfl, rfl, rfl, rfl, rfl, rfl, rfl, rfl, rfl⟩ (hsp), _, Or.inl ⟨j_26, h1_26, h_26, rfl, ⟨j_37, by omega, rfl⟩, Or.inr ⟨_, _, _, _, h_53, rfl, Or.inl ⟨h0_53, rfl⟩⟩⟩, (MI_rd hI ⟨rfl, rfl, rfl, rfl, rfl, rfl, rfl, rfl, rfl, rfl, rfl, rfl, rfl⟩ (hsp)).1, rfl, rfl, rfl, rfl, rfl, rfl, rfl, rfl, rfl, rfl, rfl, rfl, rfl, rfl⟩) hP hD hS
          · skip
            have h_53 : tkY (xHas (cM c)) ((v 3)) (nI j_6) (nI j_16) False ii (nI (j_26 * (v 16 0))) j_6 j_16 ia_53 (j_26 * (v 16 0)) := h_53
            have h0_53 : 0 < (v 6 0) := h0_53
            have hN_53 : cellsN (xCell (cM c)) j_6 ia_53 ((v 5 0)) (j_26 * (v 16 0)) := hN_53
            have hP : va_P D vwCl (mW b cI cJ cZ (va_up (va_up v 0 (va_up (v 0) 0 (0))) 19 (g19_53)) c) H := hP
            have hD : va_D A (mW b cI cJ cZ (va_up (va_up v 0 (va_up (v 0) 0 (0))) 19 (g19_53)) c) := hD
            refine lv_istore (lv' := [(6, .int (-1)), (0, .ref (b 0)), (1, .int (nI (j_26))), (2, .int (nI (j_37))), (3, .int (nI (j_6))), (4, .int (nI (j_16))), (5, .int ii)]) hx hb dX7_felt_56 hl (by decide) rfl (fun ls hl => ?_)
            refine lv_iload hx hb dX7_felt_58 (lv_at hl 0 rfl) ?_
            refine lv_if_eq hx hb dX7_felt_60 (tgt := 68) (by decide) (fun c60 => absurd c60 (by first | assumption | decide)) (fun c60 => ?_)
            refine lv_iload hx hb dX7_felt_63 (lv_at hl 0 rfl) ?_
            refine lv_goto (tgt := 73) hx hb dX7_felt_65 (by decide) ?_
            exact hret (-1) (va_up (va_up v 0 (va_up (v 0) 0 (0))) 19 (g19_53), c) _ _ 73 _ dX7_felt_73 rfl (by exact mx_of (MI_rd hI ⟨rfl, rfl, rfl, rfl, rfl, rfl, rfl, rfl, rfl, rfl, rfl, rfl, rfl⟩ (hs_53)) (Or.inl ⟨j_26, h1_26, h_26, rfl, ⟨j_37, by omega, rfl⟩, Or.inr ⟨_, _, _, _, h_53, rfl, Or.inr (Or.inl ⟨h0_53, hN_53, rfl⟩)⟩⟩) rfl ⟨rfl, rfl, rfl, rfl, rfl, rfl, rfl, rfl, rfl, rfl, rfl, rfl, rfl⟩) hP hD hS
          · skip
            have h_53 : tkY (xHas (cM c)) ((v 3)) (nI j_6) (nI j_16) False ii (nI (j_26 * (v 16 0))) j_6 j_16 ia_53 (j_26 * (v 16 0)) := h_53
            have h0_53 : 0 < (v 6 0) := h0_53
            have hP_53 : cellsP (xCell (cM c)) j_6 ia_53 ((v 5 0)) ((v 16 0)) j_26 g19_53 := hP_53
            have hP : va_P D vwCl (mW b cI cJ cZ (va_up (va_up v 0 (va_up (v 0) 0 (0))) 19 (g19_53)) c) H := hP
            have hD : va_D A (mW b cI cJ cZ (va_up (va_up v 0 (va_up (v 0) 0 (0))) 19 (g19_53)) c) := hD
            refine lv_istore (lv' := [(6, .int (nI (0))), (0, .ref (b 0)), (1, .int (nI (j_26))), (2, .int (nI (j_37))), (3, .int (nI (j_6))), (4, .int (nI (j_16))), (5, .int ii)]) hx hb dX7_felt_56 hl (by decide) rfl (fun ls hl => ?_)
            refine lv_iload hx hb dX7_felt_58 (lv_at hl 0 rfl) ?_
            refine w_if_eq (x := 0) hx hb dX7_felt_60 (tgt := 68) (by decide) (by decide) (fun _ => ?_) (fun h => absurd h (by decide))
            refine lv_aload_n hx hb dX7_felt_68 rfl (lv_at hl 1 rfl) ?_
            refine lv_iload_n hx hb dX7_felt_69 rfl (lv_at hl 3 rfl) ?_
            refine w_cVi (rest := []) hx hb hml hown hts (m_feltIn l D b cI cJ cZ A (va_up (va_up v 0 (va_up (v 0) 0 (0))) 19 (g19_53)) c j_37  (by show XI (vM (va_up (va_up v 0 (va_up (v 0) 0 (0))) 19 (g19_53))); exact MX_i ⟨hnb, hnd, hbt, hfg, hne, hnc, hdk, hnf, hkn, hln, hst, hdc, hs_53⟩) (by show (v 20 0) ≤ 1; rw [h20]; decide) (by omega)) 1 gX7_felt_X7_feltIn rfl hdX7_feltIn ⟨Nat.le_of_ble_eq_true rfl, Nat.le_of_ble_eq_true rfl⟩ hK hN hP hD hS hA 0 7 rfl rfl rfl rfl hl.1 rfl (Nat.le_of_ble_eq_true rfl) dX7_felt_70 ⟨Nat.le_of_ble_eq_true rfl, Nat.le_of_ble_eq_true rfl⟩ (fun r u H locs hq hP hD hS => ?_)
            have hr_70 := hq
            have hr_70 : r = nI (FE ((v 5 0)) ((v 7)) ((v 16 0)) (mL ((v 20 0)) ((v 17))) (mP ((v 20 0)) ((v 17)) ((v 18))) (g19_53) j_37) := hr_70
            subst hr_70
            have hP : va_P D vwCl (mW b cI cJ cZ (va_up (va_up v 0 (va_up (v 0) 0 (0))) 19 (g19_53)) c) H := hP
            have hD : va_D A (mW b cI cJ cZ (va_up (va_up v 0 (va_up (v 0) 0 (0))) 19 (g19_53)) c) := hD
            exact hret (nI (FE ((v 5 0)) ((v 7)) ((v 16 0)) (mL ((v 20 0)) ((v 17))) (mP ((v 20 0)) ((v 17)) ((v 18))) (g19_53) j_37)) (va_up (va_up v 0 (va_up (v 0) 0 (0))) 19 (g19_53), c) _ _ 73 _ dX7_felt_73 rfl (by exact mx_of (MI_rd hI ⟨rfl, rfl, rfl, rfl, rfl, rfl, rfl, rfl, rfl, rfl, rfl, rfl, rfl⟩ (hs_53)) (Or.inl ⟨j_26, h1_26, h_26, rfl, ⟨j_37, by omega, rfl⟩, Or.inr ⟨_, _, _, _, h_53, rfl, Or.inr (Or.inr ⟨h0_53, g19_53, hP_53, ⟨j_37, by omega, rfl, by rw [h20, mL_0, mP_0]⟩⟩)⟩⟩) rfl ⟨rfl, rfl, rfl, rfl, rfl, rfl, rfl, rfl, rfl, rfl, rfl, rfl, rfl⟩) hP hD hS
        · skip
          have hP : va_P D vwCl (mW b cI cJ cZ (va_up v 0 (va_up (v 0) 0 (0))) c) H := hP
          have hD : va_D A (mW b cI cJ cZ (va_up v 0 (va_up (v 0) 0 (0))) c) := hD
          refine w_if_ne (x := 0) hx hb dX7_felt_40 (tgt := 46) (by decide) (by decide) (fun h => absurd h (by decide)) (fun _ => ?_)
          refine lv_bipush (v := -2) hx hb dX7_felt_43 (by decide) ?_
          exact hret ((-2)) (va_up v 0 (va_up (v 0) 0 (0)), c) _ _ 45 _ dX7_felt_45 rfl (by exact ⟨MI_rd hI ⟨rfl, rfl, rfl, rfl, rfl, rfl, rfl, rfl, rfl, rfl, rfl, rfl, rfl⟩ (hsp), _, Or.inr ⟨ft_no (by omega), rfl, Or.inr ⟨⟨j_6, h_6, rfl⟩, rfl⟩⟩, (MI_rd hI ⟨rfl, rfl, rfl, rfl, rfl, rfl, rfl, rfl, rfl, rfl, rfl, rfl, rfl⟩ (hsp)).1, rfl, rfl, rfl, rfl, rfl, rfl, rfl, rfl, rfl, rfl, rfl, rfl, rfl, rfl⟩) hP hD hS
      · skip
        have hP : va_P D vwCl (mW b cI cJ cZ (va_up v 0 (va_up (v 0) 0 (0))) c) H := hP
        have hD : va_D A (mW b cI cJ cZ (va_up v 0 (va_up (v 0) 0 (0))) c) := hD
        refine w_if_eq (x := 0) hx hb dX7_felt_29 (tgt := 43) (by decide) (by decide) (fun _ => ?_) (fun h => absurd h (by decide))
        refine lv_bipush (v := -2) hx hb dX7_felt_43 (by decide) ?_
        exact hret ((-2)) (va_up v 0 (va_up (v 0) 0 (0)), c) _ _ 45 _ dX7_felt_45 rfl (by exact ⟨MI_rd hI ⟨rfl, rfl, rfl, rfl, rfl, rfl, rfl, rfl, rfl, rfl, rfl, rfl, rfl⟩ (hsp), _, Or.inr ⟨ft_no (by omega), rfl, Or.inr ⟨⟨j_6, h_6, rfl⟩, rfl⟩⟩, (MI_rd hI ⟨rfl, rfl, rfl, rfl, rfl, rfl, rfl, rfl, rfl, rfl, rfl, rfl, rfl⟩ (hsp)).1, rfl, rfl, rfl, rfl, rfl, rfl, rfl, rfl, rfl, rfl, rfl, rfl, rfl, rfl⟩) hP hD hS
    · skip
      have hP : va_P D vwCl (mW b cI cJ cZ (va_up v 0 (va_up (v 0) 0 (0))) c) H := hP
      have hD : va_D A (mW b cI cJ cZ (va_up v 0 (va_up (v 0) 0 (0))) c) := hD
      refine w_if_eq (x := 0) hx hb dX7_felt_19 (tgt := 43) (by decide) (by decide) (fun _ => ?_) (fun h => absurd h (by decide))
      refine lv_bipush (v := -2) hx hb dX7_felt_43 (by decide) ?_
      exact hret ((-2)) (va_up v 0 (va_up (v 0) 0 (0)), c) _ _ 45 _ dX7_felt_45 rfl (by exact ⟨MI_rd hI ⟨rfl, rfl, rfl, rfl, rfl, rfl, rfl, rfl, rfl, rfl, rfl, rfl, rfl⟩ (hsp), _, bt_so h_6 (nR_of (by decide) (by omega)), (MI_rd hI ⟨rfl, rfl, rfl, rfl, rfl, rfl, rfl, rfl, rfl, rfl, rfl, rfl, rfl⟩ (hsp)).1, rfl, rfl, rfl, rfl, rfl, rfl, rfl, rfl, rfl, rfl, rfl, rfl, rfl, rfl⟩) hP hD hS
  · skip
    have hP : va_P D vwCl (mW b cI cJ cZ (va_up v 0 (va_up (v 0) 0 (0))) c) H := hP
    have hD : va_D A (mW b cI cJ cZ (va_up v 0 (va_up (v 0) 0 (0))) c) := hD
    refine w_if_ne (x := 0) hx hb dX7_felt_9 (tgt := 14) (by decide) (by decide) (fun h => absurd h (by decide)) (fun _ => ?_)
    refine lv_iconst (v := -1) hx hb dX7_felt_12 (by decide) ?_
    exact hret ((-1)) (va_up v 0 (va_up (v 0) 0 (0)), c) _ _ 13 _ dX7_felt_13 rfl (by exact ⟨MI_rd hI ⟨rfl, rfl, rfl, rfl, rfl, rfl, rfl, rfl, rfl, rfl, rfl, rfl, rfl⟩ (hsp), _, bt_sh (nR_of (by decide) (by omega)), (MI_rd hI ⟨rfl, rfl, rfl, rfl, rfl, rfl, rfl, rfl, rfl, rfl, rfl, rfl, rfl⟩ (hsp)).1, rfl, rfl, rfl, rfl, rfl, rfl, rfl, rfl, rfl, rfl, rfl, rfl, rfl, rfl⟩) hP hD hS

set_option maxHeartbeats 4000000 in
set_option maxRecDepth 100000 in
theorem s_wrong (l : Launch) (D : va_G) (b : Nat → Nat) (cI cJ cZ : ClassId) (A : Nat → Prop) (v : Nat → Nat → Nat) (c : Nat → Nat → Int32) (x : Int32) (sh : Int32) (so : Int32) (ii : Int32) (hI : MI v c) :
    mI l yX7_wrong wsX7_wrong 3 70 [.ref (b 0), .int x, .int sh, .int so, .int ii] D (xT cI cJ cZ) A (mW b cI cJ cZ v c) (fun u : ((Nat → Nat → Nat) × (Nat → Nat → Int32)) => mW b cI cJ cZ u.1 u.2)
    (fun (r : Int32) (u : ((Nat → Nat → Nat) × (Nat → Nat → Int32))) => MI u.1 u.2 ∧ ∃ F, sp_wrong (xNo (cM c)) (xHas (cM c)) (v 3) (xCell (cM c)) (v 5 0) (v 6 0) (v 16 0) (v 8) x sh so ii (fun d st r => sp_wrg (v 5 0) (v 7) (v 16 0) (lA (v 17)) (pA (v 17) (v 18)) st (v 8) (fun d k => v 9 (d * 6 + k)) d r) r F ∧ XS (vM v) (cM c) (vM u.1, cM u.2) F) := by
  refine w_bI cX7_wrong 6 .int (by decide) rfl (Nat.le_of_ble_eq_true rfl) (Or.inl rfl) ?_
  intro p e s m args below meth c0 ls Q hx hb hml hts hown hK hN hA hret hP hD hS hl
  have hl : lv_has ls 6 [(0, .ref (b 0)), (1, .int x), (2, .int sh), (3, .int so), (4, .int ii)] := hl
  have hinX7 : ∀ w ∈ wsX70, w ∈ wsX7_wrong := fun w h => List.mem_cons_of_mem _ (List.mem_append_right _ h)
  obtain ⟨hnb, hnd, hbt, hfg, hne, hnc, hdk, hnf, hkn, hln, hst, hdc, hsp⟩ := MI_o hI
  have h20 : v 20 0 = 0 := hI.2.1
  have t1 : (nI 1).toInt = 1 := rfl
  have t6 : (nI 6).toInt = 6 := rfl
  refine lv_aload_n hx hb dX7_wrong_0 rfl (lv_at hl 0 rfl) ?_
  refine lv_iconst (v := nI (0)) hx hb dX7_wrong_1 (by decide) ?_
  refine va_put (D := D) (ci := 7) (v := .int (nI (0))) (ty := .int) (C := RX7) (T := TX7) (N := 24) hx hb hts hinX7 tyX7 tyX7_ok nmX7 hown hK hP hD hS 0 rfl rfl 0 (by decide) (hts (.fieldLink RX7 53 "DancedLockModel" "fault" "I") (List.mem_of_getElem? (i := 1) rfl)) (fun _ h9 => h9) rfl (by decide +kernel) rfl (rfl) (Nat.le_of_ble_eq_true rfl) dX7_wrong_2 (fun H locs hP hD hS => ?_)
  have hP : va_P D vwCl (mW b cI cJ cZ (va_up v 0 (va_up (v 0) 0 (0))) c) H := hP
  have hD : va_D A (mW b cI cJ cZ (va_up v 0 (va_up (v 0) 0 (0))) c) := hD
  refine lv_aload_n hx hb dX7_wrong_5 rfl (lv_at hl 0 rfl) ?_
  refine lv_iload_n hx hb dX7_wrong_6 rfl (lv_at hl 1 rfl) ?_
  refine w_cVi (rest := []) hx hb hml hown hts (m_isDoor_R l D b cI cJ cZ A (va_up v 0 (va_up (v 0) 0 (0))) c x  (by show (v 6 0) ≤ 7; first | assumption | omega)) 1 gX7_wrong_X7_isDoor rfl hdX7_isDoor ⟨Nat.le_of_ble_eq_true rfl, Nat.le_of_ble_eq_true rfl⟩ hK hN hP hD hS hA 0 7 rfl rfl rfl rfl hl.1 rfl (Nat.le_of_ble_eq_true rfl) dX7_wrong_7 ⟨Nat.le_of_ble_eq_true rfl, Nat.le_of_ble_eq_true rfl⟩ (fun r u H locs hq hP hD hS => ?_)
  rcases hq with ⟨j_7, rfl, h_7, hs_x_7⟩ | ⟨rfl, h_7⟩
  · skip
    have h_7 : j_7 < (v 6 0) := h_7
    have hP : va_P D vwCl (mW b cI cJ cZ (va_up v 0 (va_up (v 0) 0 (0))) c) H := hP
    have hD : va_D A (mW b cI cJ cZ (va_up v 0 (va_up (v 0) 0 (0))) c) := hD
    subst hs_x_7
    have j_7T := n_tI (k := j_7) (by omega)
    refine w_if_eq (x := 1) hx hb dX7_wrong_10 (tgt := 20) (by decide) (by decide) (fun h => absurd h (by decide)) (fun _ => ?_)
    refine lv_iload_n hx hb dX7_wrong_13 rfl (lv_at hl 2 rfl) ?_
    refine w_cSi (rest := []) hx hb hml hown hts (m_isSheet l D b cI cJ cZ A (va_up v 0 (va_up (v 0) 0 (0))) c sh  ) 1 gX7_wrong_X7_isSheet rfl hdX7_isSheet ⟨Nat.le_of_ble_eq_true rfl, Nat.le_of_ble_eq_true rfl⟩ hK hN hP hD hS hA rfl hl.1 rfl (Nat.le_of_ble_eq_true rfl) dX7_wrong_14 ⟨Nat.le_of_ble_eq_true rfl, Nat.le_of_ble_eq_true rfl⟩ (fun r u H locs hq hP hD hS => ?_)
    rcases hq with ⟨j_14, rfl, h_14, hs_x_14⟩ | ⟨rfl, h_14⟩
    · skip
      have hP : va_P D vwCl (mW b cI cJ cZ (va_up v 0 (va_up (v 0) 0 (0))) c) H := hP
      have hD : va_D A (mW b cI cJ cZ (va_up v 0 (va_up (v 0) 0 (0))) c) := hD
      subst hs_x_14
      have j_14T := n_tI (k := j_14) (by omega)
      refine w_if_ne (x := 1) hx hb dX7_wrong_17 (tgt := 22) (by decide) (by decide) (fun _ => ?_) (fun h => absurd h (by decide))
      refine lv_iload_n hx hb dX7_wrong_22 rfl (lv_at hl 3 rfl) ?_
      refine w_cSi (rest := []) hx hb hml hown hts (m_isSort l D b cI cJ cZ A (va_up v 0 (va_up (v 0) 0 (0))) c so  ) 1 gX7_wrong_X7_isSort rfl hdX7_isSort ⟨Nat.le_of_ble_eq_true rfl, Nat.le_of_ble_eq_true rfl⟩ hK hN hP hD hS hA rfl hl.1 rfl (Nat.le_of_ble_eq_true rfl) dX7_wrong_23 ⟨Nat.le_of_ble_eq_true rfl, Nat.le_of_ble_eq_true rfl⟩ (fun r u H locs hq hP hD hS => ?_)
      rcases hq with ⟨j_23, rfl, h_23, hs_x_23⟩ | ⟨rfl, h_23⟩
      · skip
        have hP : va_P D vwCl (mW b cI cJ cZ (va_up v 0 (va_up (v 0) 0 (0))) c) H := hP
        have hD : va_D A (mW b cI cJ cZ (va_up v 0 (va_up (v 0) 0 (0))) c) := hD
        subst hs_x_23
        have j_23T := n_tI (k := j_23) (by omega)
        refine w_if_ne (x := 1) hx hb dX7_wrong_26 (tgt := 32) (by decide) (by decide) (fun _ => ?_) (fun h => absurd h (by decide))
        refine lv_aload_n hx hb dX7_wrong_32 rfl (lv_at hl 0 rfl) ?_
        refine lv_aload_n hx hb dX7_wrong_33 rfl (lv_at hl 0 rfl) ?_
        refine va_get (D := D) (ci := 7) (v := .ref (b 8)) (C := RX7) (T := TX7) (N := 24) hx hb hts hinX7 hown hK hP 0 rfl rfl 8 (by decide) (hts (.fieldLink RX7 22 "DancedLockModel" "beats" "[I") (List.mem_of_getElem? (i := 2) rfl)) (fun _ h9 => h9) rfl dX7_wrong_34 ?_
        refine lv_iload_n hx hb dX7_wrong_37 rfl (lv_at hl 1 rfl) ?_
        refine w_iald (f := v 8) hx hb hK hP 5 0 rfl rfl (i := j_7) (by omega) (by decide) dX7_wrong_38 ?_
        refine lv_iload_n hx hb dX7_wrong_39 rfl (lv_at hl 2 rfl) ?_
        refine lv_iload_n hx hb dX7_wrong_40 rfl (lv_at hl 3 rfl) ?_
        refine lv_iload hx hb dX7_wrong_41 (lv_at hl 4 rfl) ?_
        refine w_cVi (rest := []) hx hb hml hown hts (m_layPlan l D b cI cJ cZ A (va_up v 0 (va_up (v 0) 0 (0))) c (v 8 j_7) j_14 j_23 ii  (by show MI (va_up v 0 (va_up (v 0) 0 (0))) c; exact MI_rd hI ⟨rfl, rfl, rfl, rfl, rfl, rfl, rfl, rfl, rfl, rfl, rfl, rfl, rfl⟩ hsp) (by exact (hbt _ h_7).2) (by exact h_14) (by exact h_23)) 4 gX7_wrong_X7_layPlan rfl hdX7_layPlan ⟨Nat.le_of_ble_eq_true rfl, Nat.le_of_ble_eq_true rfl⟩ hK hN hP hD hS hA 0 7 rfl rfl rfl rfl hl.1 rfl (Nat.le_of_ble_eq_true rfl) dX7_wrong_43 ⟨Nat.le_of_ble_eq_true rfl, Nat.le_of_ble_eq_true rfl⟩ (fun r u H locs hq hP hD hS => ?_)
        rcases hq with ⟨r0_43, F_43, hr_43, rfl, h_43, hne_43⟩ | ⟨ia_43, rfl, rfl, h_43, h0_43⟩ | ⟨ia_43, g19_43, rfl, rfl, h_43, h0_43, hN_43, hs_43⟩ | ⟨ia_43, g19_43, rfl, rfl, h_43, h0_43, hP_43, hs_43⟩
        · skip
          have h_43 : tkB (xNo (cM c)) (xHas (cM c)) ((v 3)) (nI j_14) (nI j_23) False ii (nI ((v 8 j_7) * (v 16 0))) r0_43 F_43 := h_43
          rw [hr_43]
          have hP : va_P D vwCl (mW b cI cJ cZ (va_up v 0 (va_up (v 0) 0 (F_43))) c) H := hP
          have hD : va_D A (mW b cI cJ cZ (va_up v 0 (va_up (v 0) 0 (F_43))) c) := hD
          refine lv_istore (lv' := [(5, .int r0_43), (0, .ref (b 0)), (1, .int (nI (j_7))), (2, .int (nI (j_14))), (3, .int (nI (j_23))), (4, .int ii)]) hx hb dX7_wrong_46 hl (by decide) rfl (fun ls hl => ?_)
          refine lv_iload hx hb dX7_wrong_48 (lv_at hl 0 rfl) ?_
          refine lv_if_eq hx hb dX7_wrong_50 (tgt := 58) (by decide) (fun c50 => absurd c50 (by first | assumption | decide)) (fun c50 => ?_)
          refine lv_iload hx hb dX7_wrong_53 (lv_at hl 0 rfl) ?_
          refine lv_goto (tgt := 63) hx hb dX7_wrong_55 (by decide) ?_
          exact hret (r0_43) (va_up v 0 (va_up (v 0) 0 (F_43)), c) _ _ 63 _ dX7_wrong_63 rfl (by exact ⟨MI_rd hI ⟨rfl, rfl, rfl, rfl, rfl, rfl, rfl, rfl, rfl, rfl, rfl, rfl, rfl⟩ (hsp), _, Or.inl ⟨j_7, h_7, rfl, Or.inl h_43⟩, (MI_rd hI ⟨rfl, rfl, rfl, rfl, rfl, rfl, rfl, rfl, rfl, rfl, rfl, rfl, rfl⟩ (hsp)).1, rfl, rfl, rfl, rfl, rfl, rfl, rfl, rfl, rfl, rfl, rfl, rfl, rfl, rfl⟩) hP hD hS
        · skip
          have h_43 : tkY (xHas (cM c)) ((v 3)) (nI j_14) (nI j_23) False ii (nI ((v 8 j_7) * (v 16 0))) j_14 j_23 ia_43 ((v 8 j_7) * (v 16 0)) := h_43
          have h0_43 : (v 6 0) = 0 := h0_43
          have hP : va_P D vwCl (mW b cI cJ cZ (va_up v 0 (va_up (v 0) 0 (0))) c) H := hP
          have hD : va_D A (mW b cI cJ cZ (va_up v 0 (va_up (v 0) 0 (0))) c) := hD
          refine lv_istore (lv' := [(5, .int (-3)), (0, .ref (b 0)), (1, .int (nI (j_7))), (2, .int (nI (j_14))), (3, .int (nI (j_23))), (4, .int ii)]) hx hb dX7_wrong_46 hl (by decide) rfl (fun ls hl => ?_)
          refine lv_iload hx hb dX7_wrong_48 (lv_at hl 0 rfl) ?_
          refine lv_if_eq hx hb dX7_wrong_50 (tgt := 58) (by decide) (fun c50 => absurd c50 (by first | assumption | decide)) (fun c50 => ?_)
          refine lv_iload hx hb dX7_wrong_53 (lv_at hl 0 rfl) ?_
          refine lv_goto (tgt := 63) hx hb dX7_wrong_55 (by decide) ?_
          exact hret (-3) (va_up v 0 (va_up (v 0) 0 (0)), c) _ _ 63 _ dX7_wrong_63 rfl (by exact ⟨MI_rd hI ⟨rfl, rfl, rfl, rfl, rfl, rfl, rfl, rfl, rfl, rfl, rfl, rfl, rfl⟩ (hsp), _, Or.inl ⟨j_7, h_7, rfl, Or.inr ⟨_, _, _, _, h_43, rfl, Or.inl ⟨h0_43, rfl⟩⟩⟩, (MI_rd hI ⟨rfl, rfl, rfl, rfl, rfl, rfl, rfl, rfl, rfl, rfl, rfl, rfl, rfl⟩ (hsp)).1, rfl, rfl, rfl, rfl, rfl, rfl, rfl, rfl, rfl, rfl, rfl, rfl, rfl, rfl⟩) hP hD hS
        · skip
          have h_43 : tkY (xHas (cM c)) ((v 3)) (nI j_14) (nI j_23) False ii (nI ((v 8 j_7) * (v 16 0))) j_14 j_23 ia_43 ((v 8 j_7) * (v 16 0)) := h_43
          have h0_43 : 0 < (v 6 0) := h0_43
          have hN_43 : cellsN (xCell (cM c)) j_14 ia_43 ((v 5 0)) ((v 8 j_7) * (v 16 0)) := hN_43
          have hP : va_P D vwCl (mW b cI cJ cZ (va_up (va_up v 0 (va_up (v 0) 0 (0))) 19 (g19_43)) c) H := hP
          have hD : va_D A (mW b cI cJ cZ (va_up (va_up v 0 (va_up (v 0) 0 (0))) 19 (g19_43)) c) := hD
          refine lv_istore (lv' := [(5, .int (-1)), (0, .ref (b 0)), (1, .int (nI (j_7))), (2, .int (nI (j_14))), (3, .int (nI (j_23))), (4, .int ii)]) hx hb dX7_wrong_46 hl (by decide) rfl (fun ls hl => ?_)
          refine lv_iload hx hb dX7_wrong_48 (lv_at hl 0 rfl) ?_
          refine lv_if_eq hx hb dX7_wrong_50 (tgt := 58) (by decide) (fun c50 => absurd c50 (by first | assumption | decide)) (fun c50 => ?_)
          refine lv_iload hx hb dX7_wrong_53 (lv_at hl 0 rfl) ?_
          refine lv_goto (tgt := 63) hx hb dX7_wrong_55 (by decide) ?_
          exact hret (-1) (va_up (va_up v 0 (va_up (v 0) 0 (0))) 19 (g19_43), c) _ _ 63 _ dX7_wrong_63 rfl (by exact mx_of (MI_rd hI ⟨rfl, rfl, rfl, rfl, rfl, rfl, rfl, rfl, rfl, rfl, rfl, rfl, rfl⟩ (hs_43)) (Or.inl ⟨j_7, h_7, rfl, Or.inr ⟨_, _, _, _, h_43, rfl, Or.inr (Or.inl ⟨h0_43, hN_43, rfl⟩)⟩⟩) rfl ⟨rfl, rfl, rfl, rfl, rfl, rfl, rfl, rfl, rfl, rfl, rfl, rfl, rfl⟩) hP hD hS
        · skip
          have h_43 : tkY (xHas (cM c)) ((v 3)) (nI j_14) (nI j_23) False ii (nI ((v 8 j_7) * (v 16 0))) j_14 j_23 ia_43 ((v 8 j_7) * (v 16 0)) := h_43
          have h0_43 : 0 < (v 6 0) := h0_43
          have hP_43 : cellsP (xCell (cM c)) j_14 ia_43 ((v 5 0)) ((v 16 0)) (v 8 j_7) g19_43 := hP_43
          have hP : va_P D vwCl (mW b cI cJ cZ (va_up (va_up v 0 (va_up (v 0) 0 (0))) 19 (g19_43)) c) H := hP
          have hD : va_D A (mW b cI cJ cZ (va_up (va_up v 0 (va_up (v 0) 0 (0))) 19 (g19_43)) c) := hD
          refine lv_istore (lv' := [(5, .int (nI (0))), (0, .ref (b 0)), (1, .int (nI (j_7))), (2, .int (nI (j_14))), (3, .int (nI (j_23))), (4, .int ii)]) hx hb dX7_wrong_46 hl (by decide) rfl (fun ls hl => ?_)
          refine lv_iload hx hb dX7_wrong_48 (lv_at hl 0 rfl) ?_
          refine w_if_eq (x := 0) hx hb dX7_wrong_50 (tgt := 58) (by decide) (by decide) (fun _ => ?_) (fun h => absurd h (by decide))
          refine lv_aload_n hx hb dX7_wrong_58 rfl (lv_at hl 1 rfl) ?_
          refine lv_iload_n hx hb dX7_wrong_59 rfl (lv_at hl 2 rfl) ?_
          refine w_cVi (rest := []) hx hb hml hown hts (m_wrongIn l D b cI cJ cZ A (va_up (va_up v 0 (va_up (v 0) 0 (0))) 19 (g19_43)) c j_7  (by show XI (vM (va_up (va_up v 0 (va_up (v 0) 0 (0))) 19 (g19_43))); exact MX_i ⟨hnb, hnd, hbt, hfg, hne, hnc, hdk, hnf, hkn, hln, hst, hdc, hs_43⟩) (by show (v 20 0) ≤ 1; rw [h20]; decide) (by show j_7 < (v 6 0); exact h_7)) 1 gX7_wrong_X7_wrongIn rfl hdX7_wrongIn ⟨Nat.le_of_ble_eq_true rfl, Nat.le_of_ble_eq_true rfl⟩ hK hN hP hD hS hA 0 7 rfl rfl rfl rfl hl.1 rfl (Nat.le_of_ble_eq_true rfl) dX7_wrong_60 ⟨Nat.le_of_ble_eq_true rfl, Nat.le_of_ble_eq_true rfl⟩ (fun r u H locs hq hP hD hS => ?_)
          rcases hq with ⟨k_60, rfl, h1_60, h2_60, h3_60⟩ | ⟨rfl, h3_60⟩
          · skip
            have h1_60 : k_60 < (v 8) j_7 := h1_60
            have h2_60 : FE ((v 5 0)) ((v 7)) ((v 16 0)) (mL ((v 20 0)) ((v 17))) (mP ((v 20 0)) ((v 17)) ((v 18))) (g19_43) k_60 ≠ (v 9) (j_7 * 6 + k_60) := h2_60
            have h3_60 : ∀ j, j < k_60 → FE ((v 5 0)) ((v 7)) ((v 16 0)) (mL ((v 20 0)) ((v 17))) (mP ((v 20 0)) ((v 17)) ((v 18))) (g19_43) j = (v 9) (j_7 * 6 + j) := h3_60
            have hP : va_P D vwCl (mW b cI cJ cZ (va_up (va_up v 0 (va_up (v 0) 0 (0))) 19 (g19_43)) c) H := hP
            have hD : va_D A (mW b cI cJ cZ (va_up (va_up v 0 (va_up (v 0) 0 (0))) 19 (g19_43)) c) := hD
            exact hret (nI (k_60)) (va_up (va_up v 0 (va_up (v 0) 0 (0))) 19 (g19_43), c) _ _ 63 _ dX7_wrong_63 rfl (by exact mx_of (MI_rd hI ⟨rfl, rfl, rfl, rfl, rfl, rfl, rfl, rfl, rfl, rfl, rfl, rfl, rfl⟩ (hs_43)) (Or.inl ⟨j_7, h_7, rfl, Or.inr ⟨_, _, _, _, h_43, rfl, Or.inr (Or.inr ⟨h0_43, g19_43, hP_43, by rw [h20, mL_0, mP_0] at h2_60 h3_60; exact Or.inl ⟨k_60, h1_60, rfl, h2_60, h3_60⟩⟩)⟩⟩) rfl ⟨rfl, rfl, rfl, rfl, rfl, rfl, rfl, rfl, rfl, rfl, rfl, rfl, rfl⟩) hP hD hS
          · skip
            have h3_60 : ∀ j, j < (v 8) j_7 → FE ((v 5 0)) ((v 7)) ((v 16 0)) (mL ((v 20 0)) ((v 17))) (mP ((v 20 0)) ((v 17)) ((v 18))) (g19_43) j = (v 9) (j_7 * 6 + j) := h3_60
            have hP : va_P D vwCl (mW b cI cJ cZ (va_up (va_up v 0 (va_up (v 0) 0 (0))) 19 (g19_43)) c) H := hP
            have hD : va_D A (mW b cI cJ cZ (va_up (va_up v 0 (va_up (v 0) 0 (0))) 19 (g19_43)) c) := hD
            exact hret (-9) (va_up (va_up v 0 (va_up (v 0) 0 (0))) 19 (g19_43), c) _ _ 63 _ dX7_wrong_63 rfl (by exact mx_of (MI_rd hI ⟨rfl, rfl, rfl, rfl, rfl, rfl, rfl, rfl, rfl, rfl, rfl, rfl, rfl⟩ (hs_43)) (Or.inl ⟨j_7, h_7, rfl, Or.inr ⟨_, _, _, _, h_43, rfl, Or.inr (Or.inr ⟨h0_43, g19_43, hP_43, by rw [h20, mL_0, mP_0] at h3_60; exact Or.inr ⟨rfl, h3_60⟩⟩)⟩⟩) rfl ⟨rfl, rfl, rfl, rfl, rfl, rfl, rfl, rfl, rfl, rfl, rfl, rfl, rfl⟩) hP hD hS
      · skip
        have hP : va_P D vwCl (mW b cI cJ cZ (va_up v 0 (va_up (v 0) 0 (0))) c) H := hP
        have hD : va_D A (mW b cI cJ cZ (va_up v 0 (va_up (v 0) 0 (0))) c) := hD
        refine w_if_ne (x := 0) hx hb dX7_wrong_26 (tgt := 32) (by decide) (by decide) (fun h => absurd h (by decide)) (fun _ => ?_)
        refine lv_bipush (v := -2) hx hb dX7_wrong_29 (by decide) ?_
        exact hret ((-2)) (va_up v 0 (va_up (v 0) 0 (0)), c) _ _ 31 _ dX7_wrong_31 rfl (by exact ⟨MI_rd hI ⟨rfl, rfl, rfl, rfl, rfl, rfl, rfl, rfl, rfl, rfl, rfl, rfl, rfl⟩ (hsp), _, Or.inl ⟨j_7, h_7, rfl, Or.inl (Or.inr (Or.inl ⟨j_14, h_14, rfl, Or.inl (nR_of (by decide) (by omega)), rfl, rfl⟩))⟩, (MI_rd hI ⟨rfl, rfl, rfl, rfl, rfl, rfl, rfl, rfl, rfl, rfl, rfl, rfl, rfl⟩ (hsp)).1, rfl, rfl, rfl, rfl, rfl, rfl, rfl, rfl, rfl, rfl, rfl, rfl, rfl, rfl⟩) hP hD hS
    · skip
      have hP : va_P D vwCl (mW b cI cJ cZ (va_up v 0 (va_up (v 0) 0 (0))) c) H := hP
      have hD : va_D A (mW b cI cJ cZ (va_up v 0 (va_up (v 0) 0 (0))) c) := hD
      refine w_if_ne (x := 0) hx hb dX7_wrong_17 (tgt := 22) (by decide) (by decide) (fun h => absurd h (by decide)) (fun _ => ?_)
      refine lv_iconst (v := -1) hx hb dX7_wrong_20 (by decide) ?_
      exact hret ((-1)) (va_up v 0 (va_up (v 0) 0 (0)), c) _ _ 21 _ dX7_wrong_21 rfl (by exact ⟨MI_rd hI ⟨rfl, rfl, rfl, rfl, rfl, rfl, rfl, rfl, rfl, rfl, rfl, rfl, rfl⟩ (hsp), _, Or.inl ⟨j_7, h_7, rfl, Or.inl (Or.inl ⟨nR_of (by decide) (by omega), rfl, rfl⟩)⟩, (MI_rd hI ⟨rfl, rfl, rfl, rfl, rfl, rfl, rfl, rfl, rfl, rfl, rfl, rfl, rfl⟩ (hsp)).1, rfl, rfl, rfl, rfl, rfl, rfl, rfl, rfl, rfl, rfl, rfl, rfl, rfl, rfl⟩) hP hD hS
  · skip
    have h_7 : x.toInt < 0 ∨ ((v 6 0) : Int) ≤ x.toInt := h_7
    have hP : va_P D vwCl (mW b cI cJ cZ (va_up v 0 (va_up (v 0) 0 (0))) c) H := hP
    have hD : va_D A (mW b cI cJ cZ (va_up v 0 (va_up (v 0) 0 (0))) c) := hD
    refine w_if_eq (x := 0) hx hb dX7_wrong_10 (tgt := 20) (by decide) (by decide) (fun _ => ?_) (fun h => absurd h (by decide))
    refine lv_iconst (v := -1) hx hb dX7_wrong_20 (by decide) ?_
    exact hret ((-1)) (va_up v 0 (va_up (v 0) 0 (0)), c) _ _ 21 _ dX7_wrong_21 rfl (by exact ⟨MI_rd hI ⟨rfl, rfl, rfl, rfl, rfl, rfl, rfl, rfl, rfl, rfl, rfl, rfl, rfl⟩ (hsp), _, Or.inr ⟨nR_of (by omega) h_7, rfl, rfl⟩, (MI_rd hI ⟨rfl, rfl, rfl, rfl, rfl, rfl, rfl, rfl, rfl, rfl, rfl, rfl, rfl⟩ (hsp)).1, rfl, rfl, rfl, rfl, rfl, rfl, rfl, rfl, rfl, rfl, rfl, rfl, rfl, rfl⟩) hP hD hS
