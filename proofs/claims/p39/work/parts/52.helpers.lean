/-! ===== the law's own methods ===== -/
theorem hdL_cell : yL_cell.cls ≠ "java/lang/invoke/MethodHandle" ∧ yL_cell.cls ≠ "java/lang/invoke/VarHandle" ∧ (parseMethodDescriptor yL_cell.desc).map (fun d => d.parameters.length) = some 2 := by decide +kernel
theorem hdL_some : yL_some.cls ≠ "java/lang/invoke/MethodHandle" ∧ yL_some.cls ≠ "java/lang/invoke/VarHandle" ∧ (parseMethodDescriptor yL_some.desc).map (fun d => d.parameters.length) = some 2 := by decide +kernel
theorem hdL_put : yL_put.cls ≠ "java/lang/invoke/MethodHandle" ∧ yL_put.cls ≠ "java/lang/invoke/VarHandle" ∧ (parseMethodDescriptor yL_put.desc).map (fun d => d.parameters.length) = some 5 := by decide +kernel
theorem hdL_dancer : yL_dancer.cls ≠ "java/lang/invoke/MethodHandle" ∧ yL_dancer.cls ≠ "java/lang/invoke/VarHandle" ∧ (parseMethodDescriptor yL_dancer.desc).map (fun d => d.parameters.length) = some 3 := by decide +kernel
theorem hdL_felt : yL_felt.cls ≠ "java/lang/invoke/MethodHandle" ∧ yL_felt.cls ≠ "java/lang/invoke/VarHandle" ∧ (parseMethodDescriptor yL_felt.desc).map (fun d => d.parameters.length) = some 4 := by decide +kernel
theorem hdL_opened : yL_opened.cls ≠ "java/lang/invoke/MethodHandle" ∧ yL_opened.cls ≠ "java/lang/invoke/VarHandle" ∧ (parseMethodDescriptor yL_opened.desc).map (fun d => d.parameters.length) = some 3 := by decide +kernel

theorem k_some (l : Launch) (D : va_G) (cI cJ cZ : ClassId) (A : Nat → Prop) (W0 : va_W) (x : Int32) (n : Nat) (hn : 1 ≤ n ∧ n < 100) : mI l yL_some wsL_some 0 0 [.int x, .int (nI n)] D (xT cI cJ cZ) A W0 (fun _ : Unit => W0) (fun r _ => ∃ j, j < n ∧ r = nI j) := by
  refine w_bI cL_some 2 .int (by decide) rfl (Nat.le_of_ble_eq_true rfl) (Or.inl rfl) ?_
  intro p e s m args below meth c0 ls Q hx hb hml hts hown hK hN hA hret hP hD hS hl
  have hl : lv_has ls 2 [(0, .int x), (1, .int (nI n))] := hl
  refine lv_iload_n hx hb dL_some_0 rfl (lv_at hl 0 rfl) ?_
  refine lv_ldc (own := RL) hx hb hown (hts (.constant RL 8 (2147483647)) (List.mem_of_getElem? (i := 1) rfl)) dL_some_1 ?_
  refine lv_iand hx hb dL_some_3 ?_
  obtain ⟨j, hj, ej⟩ := i_land x
  rw [ej]
  refine lv_iload_n hx hb dL_some_4 rfl (lv_at hl 1 rfl) ?_
  refine w_irem (x := j) (y := n) hx hb dL_some_5 (by omega) (by omega) (by omega) ?_
  exact hret (nI (j % n)) () _ _ 6 _ dL_some_6 rfl ⟨j % n, Nat.mod_lt _ (by omega), rfl⟩ hP hD hS
theorem k_cell (l : Launch) (D : va_G) (cI cJ cZ : ClassId) (A : Nat → Prop) (W0 : va_W) (b L : Nat) (xs : Nat → Int32) (k : Nat) (hk : k < 1000 ∧ L < 2147483648) : sI l yL_cell wsL_cell 0 0 [.ref b, .int (nI k)] D (xT cI cJ cZ) A W0 b L xs (fun _ : Unit => W0) (fun _ _ => True) := by
  refine s_bI cL_cell 2 .int (by decide) rfl (Nat.le_of_ble_eq_true rfl) (Or.inl rfl) ?_
  intro p e s m args below meth c0 ls Q hx hb hml hts hown hK hN hA hret hX hbl hbA hP hD hS hl
  have hl : lv_has ls 2 [(0, .ref b), (1, .int (nI k))] := hl
  refine lv_iload_n hx hb dL_cell_0 rfl (lv_at hl 1 rfl) ?_
  refine lv_aload_n hx hb dL_cell_1 rfl (lv_at hl 0 rfl) ?_
  refine va_slen hx hb hX hbl hbA hS dL_cell_2 ?_
  refine w_icmp_ge (x := k) (y := L) hx hb dL_cell_3 (tgt := 12) (by decide) (by omega) (by omega) (fun c3 => ?_) (fun c3 => ?_)
  · refine lv_ldc (own := RL) hx hb hown (hts (.constant RL 7 (747796405)) (List.mem_of_getElem? (i := 1) rfl)) dL_cell_12 ?_
    refine lv_iload_n hx hb dL_cell_14 rfl (lv_at hl 1 rfl) ?_
    refine lv_iconst (v := nI 1) hx hb dL_cell_15 (by decide) ?_
    refine lv_iadd hx hb dL_cell_16 ?_
    refine lv_imul hx hb dL_cell_17 ?_
    exact hret _ () _ _ 18 _ dL_cell_18 rfl trivial hP hD hS
  · refine lv_aload_n hx hb dL_cell_6 rfl (lv_at hl 0 rfl) ?_
    refine lv_iload_n hx hb dL_cell_7 rfl (lv_at hl 1 rfl) ?_
    refine va_sld hx hb hX hbl hbA hS (vp_in_nI c3 (by omega)) dL_cell_8 ?_
    refine lv_goto (tgt := 18) hx hb dL_cell_9 (by decide) ?_
    exact hret _ () _ _ 18 _ dL_cell_18 rfl trivial hP hD hS
set_option maxHeartbeats 4000000 in
set_option maxRecDepth 100000 in
theorem k_felt0 (l : Launch) (D : va_G) (a : Nat → Nat) (cI cJ cZ : ClassId) (A : Nat → Prop) (v : Nat → Nat → Nat) (c : Nat → Nat → Int32) (k : Nat) (hgl : GL (v 0)) (hgd : GD (v 0)) (hpb : ∀ q, q < 24 → v 1 q < 8) (hk : k ≤ 5) :
    mI l yL_felt wsL_felt 0 0 [.ref (a 0), .ref (a 1), .int (nI k), .int (nI 0)] D (xT cI cJ cZ) A (lfW a cI cJ cZ v c) (fun _ : Unit => lfW a cI cJ cZ v c)
    (fun (r : Int32) (u : Unit) => r = nI (fE0 (v 0) (v 1) k)) := by
  refine w_bI cL_felt 9 .int (by decide) rfl (Nat.le_of_ble_eq_true rfl) (Or.inl rfl) ?_
  intro p e s m args below meth c0 ls Q hx hb hml hts hown hK hN hA hret hP hD hS hl
  have hl : lv_has ls 9 [(0, .ref (a 0)), (1, .ref (a 1)), (2, .int (nI (k))), (3, .int (nI (0)))] := hl
  obtain ⟨⟨g1, g2⟩, ⟨g3, g4⟩, g5, g6, g7⟩ := id hgl
  obtain ⟨n1, n2⟩ := id hgd
  refine lv_iconst (v := nI (0)) hx hb dL_felt_0 (by decide) ?_
  refine lv_istore (lv' := [(4, .int (nI (0))), (0, .ref (a 0)), (1, .ref (a 1)), (2, .int (nI (k))), (3, .int (nI (0)))]) hx hb dL_felt_1 hl (by decide) rfl (fun ls hl => ?_)
  refine lv_iconst (v := nI (0)) hx hb dL_felt_3 (by decide) ?_
  refine lv_istore (lv' := [(5, .int (nI (0))), (4, .int (nI (0))), (0, .ref (a 0)), (1, .ref (a 1)), (2, .int (nI (k))), (3, .int (nI (0)))]) hx hb dL_felt_4 hl (by decide) rfl (fun ls hl => ?_)
  have L6 : ∀ (n : Nat) (i : Nat) (q : Nat) (H : Heap) (locs : List Loc) (ls : Array Slot), v 0 0 - i < n → (i ≤ v 0 0) → (q = fe (fun b => sm (fun d => if tr (lA (gKD (v 0))) (ps (v 0 37) (v 1)) k d = b then (pA (gKD (v 0)) (gWT (v 0))) d else 0) (v 0 37)) (gND (v 0)) i) → va_P D vwCl (lfW a cI cJ cZ v c) H → va_D A (lfW a cI cJ cZ v c) → va_S A s.heap H locs → lv_has ls 9 [(4, .int (nI (q))), (5, .int (nI (i))), (0, .ref (a 0)), (1, .ref (a 1)), (2, .int (nI (k))), (3, .int (nI (0)))] → W p l e { frames := 0, cells := 0, slots := 0, locals := 0 } s m args below meth c0 H locs 0 0 Q (F0 m 6 ls []) := by
    intro n
    induction n with
    | zero => intro i q H locs ls hm; exact absurd hm (Nat.not_lt_zero _)
    | succ n ih6 =>
      intro i q H locs ls hm6 hi hq hP hD hS hl
      refine lv_iload hx hb dL_felt_6 (lv_at hl 1 rfl) ?_
      refine lv_aload_n hx hb dL_felt_8 rfl (lv_at hl 2 rfl) ?_
      refine lv_iconst (v := nI (0)) hx hb dL_felt_9 (by decide) ?_
      refine w_iald (f := v 0) hx hb hK hP 0 0 rfl rfl (i := 0) (by first | omega | (have h9 := Nat.mul_le_mul n1 (show k ≤ 5 by omega); omega) | (have h9 := Nat.mul_le_mul n1 (show k - 1 ≤ 5 by omega); omega)) (by decide) dL_felt_10 ?_
      refine w_icmp_ge (x := i) (y := v 0 0) hx hb dL_felt_11 (tgt := 150) (by decide) (by omega) (by omega) (fun c11 => ?_) (fun c11 => ?_)
      · skip
        refine lv_iload hx hb dL_felt_150 (lv_at hl 0 rfl) ?_
        exact hret (nI (q)) () _ _ 152 _ dL_felt_152 rfl (by have e : i = v 0 0 := (by omega); rw [hq, e]; rfl) hP hD hS
      · skip
        have L20 : ∀ (n : Nat) (dd : Nat) (x : Nat) (H : Heap) (locs : List Loc) (ls : Array Slot), v 0 37 - dd < n → (dd ≤ v 0 37) → (x = sm (fun d => if tr (lA (gKD (v 0))) (ps (v 0 37) (v 1)) k d = i then (pA (gKD (v 0)) (gWT (v 0))) d else 0) dd) → va_P D vwCl (lfW a cI cJ cZ v c) H → va_D A (lfW a cI cJ cZ v c) → va_S A s.heap H locs → lv_has ls 9 [(6, .int (nI (x))), (7, .int (nI (dd))), (0, .ref (a 0)), (1, .ref (a 1)), (2, .int (nI (k))), (3, .int (nI (0))), (4, .int (nI (q))), (5, .int (nI (i)))] → W p l e { frames := 0, cells := 0, slots := 0, locals := 0 } s m args below meth c0 H locs 0 0 Q (F0 m 20 ls []) := by
          intro n
          induction n with
          | zero => intro dd x H locs ls hm; exact absurd hm (Nat.not_lt_zero _)
          | succ n ih20 =>
            intro dd x H locs ls hm20 h1 h2 hP hD hS hl
            refine lv_iload hx hb dL_felt_20 (lv_at hl 1 rfl) ?_
            refine lv_aload_n hx hb dL_felt_22 rfl (lv_at hl 2 rfl) ?_
            refine lv_bipush (v := nI (37)) hx hb dL_felt_23 (by decide) ?_
            refine w_iald (f := v 0) hx hb hK hP 0 0 rfl rfl (i := 37) (by first | omega | (have h9 := Nat.mul_le_mul n1 (show k ≤ 5 by omega); omega) | (have h9 := Nat.mul_le_mul n1 (show k - 1 ≤ 5 by omega); omega)) (by decide) dL_felt_25 ?_
            refine w_icmp_ge (x := dd) (y := v 0 37) hx hb dL_felt_26 (tgt := 124) (by decide) (by omega) (by omega) (fun c26 => ?_) (fun c26 => ?_)
            · skip
              have ed : dd = v 0 37 := by omega
              have hxd := h2
              rw [ed] at hxd
              have hxl : x ≤ 27 := by rw [hxd]; have h9 := fsm_le (li := (lA (gKD (v 0)))) (st := ps (v 0 37) (v 1)) (p := (pA (gKD (v 0)) (gWT (v 0)))) (k := k) (i := i) (n := v 0 37) (fun d hd => pA_le9 (n2 d hd).2.2); omega
              have hni := g5 i (by omega)
              refine lv_iload hx hb dL_felt_124 (lv_at hl 0 rfl) ?_
              refine lv_aload_n hx hb dL_felt_126 rfl (lv_at hl 2 rfl) ?_
              refine lv_iconst (v := nI (2)) hx hb dL_felt_127 (by decide) ?_
              refine lv_iload hx hb dL_felt_128 (lv_at hl 7 rfl) ?_
              refine w_iadd (x := 2) (y := i) hx hb dL_felt_130  ?_
              refine w_iald (f := v 0) hx hb hK hP 0 0 rfl rfl (i := 2 + i) (by first | omega | (have h9 := Nat.mul_le_mul n1 (show k ≤ 5 by omega); omega) | (have h9 := Nat.mul_le_mul n1 (show k - 1 ≤ 5 by omega); omega)) (by decide) dL_felt_131 ?_
              refine w_icmp_lt (x := x) (y := v 0 (2 + i)) hx hb dL_felt_132 (tgt := 144) (by decide) (by omega) (by have h9 := hni.2; omega) (fun c132 => ?_) (fun c132 => ?_)
              · skip
                refine lv_iinc (v := nI (i + 1)) (lv' := [(5, .int (nI (i + 1))), (6, .int (nI (x))), (7, .int (nI (dd))), (0, .ref (a 0)), (1, .ref (a 1)), (2, .int (nI (k))), (3, .int (nI (0))), (4, .int (nI (q)))]) hx hb dL_felt_144 hl (k := 7) rfl (nI_add i 1) (by decide) rfl (fun ls hl => ?_)
                refine lv_goto (tgt := 6) hx hb dL_felt_147 (by decide) ?_
                exact ih6 (i + 1) q _ _ _ (by omega) (by omega) (by first | (rw [hq, fe_y (L := fun b => sm (fun d => if tr (lA (gKD (v 0))) (ps (v 0 37) (v 1)) k d = b then (pA (gKD (v 0)) (gWT (v 0))) d else 0) (v 0 37)) (show gND (v 0) i ≤ sm _ _ by rw [← hxd]; exact c132), Nat.one_mul]) | (rw [hq, fe_n (L := fun b => sm (fun d => if tr (lA (gKD (v 0))) (ps (v 0 37) (v 1)) k d = b then (pA (gKD (v 0)) (gWT (v 0))) d else 0) (v 0 37)) (show sm _ _ < gND (v 0) i by rw [← hxd]; exact c132)])) hP hD hS (lv_sub hl [7, 0, 3, 4, 5, 6] rfl)
              · skip
                refine lv_iload hx hb dL_felt_135 (lv_at hl 6 rfl) ?_
                refine lv_iconst (v := nI (1)) hx hb dL_felt_137 (by decide) ?_
                refine lv_iload hx hb dL_felt_138 (lv_at hl 7 rfl) ?_
                refine w_ishl (x := 1) (y := i) hx hb dL_felt_140 (by omega) (by have h9 := p2_16 (show i ≤ 4 by omega); omega) ?_
                refine w_ior (x := q) (y := 1 * 2 ^ i) hx hb dL_felt_141  ?_
                refine lv_istore (lv' := [(4, .int (nI (q ||| (1 * 2 ^ i)))), (6, .int (nI (x))), (7, .int (nI (dd))), (0, .ref (a 0)), (1, .ref (a 1)), (2, .int (nI (k))), (3, .int (nI (0))), (5, .int (nI (i)))]) hx hb dL_felt_142 hl (by decide) rfl (fun ls hl => ?_)
                refine lv_iinc (v := nI (i + 1)) (lv' := [(5, .int (nI (i + 1))), (4, .int (nI (q ||| (1 * 2 ^ i)))), (6, .int (nI (x))), (7, .int (nI (dd))), (0, .ref (a 0)), (1, .ref (a 1)), (2, .int (nI (k))), (3, .int (nI (0)))]) hx hb dL_felt_144 hl (k := 7) rfl (nI_add i 1) (by decide) rfl (fun ls hl => ?_)
                refine lv_goto (tgt := 6) hx hb dL_felt_147 (by decide) ?_
                exact ih6 (i + 1) (q ||| (1 * 2 ^ i)) _ _ _ (by omega) (by omega) (by first | (rw [hq, fe_y (L := fun b => sm (fun d => if tr (lA (gKD (v 0))) (ps (v 0 37) (v 1)) k d = b then (pA (gKD (v 0)) (gWT (v 0))) d else 0) (v 0 37)) (show gND (v 0) i ≤ sm _ _ by rw [← hxd]; exact c132), Nat.one_mul]) | (rw [hq, fe_n (L := fun b => sm (fun d => if tr (lA (gKD (v 0))) (ps (v 0 37) (v 1)) k d = b then (pA (gKD (v 0)) (gWT (v 0))) d else 0) (v 0 37)) (show sm _ _ < gND (v 0) i by rw [← hxd]; exact c132)])) hP hD hS (lv_sub hl [1, 0, 4, 5, 6, 7] rfl)
            · skip
              have hd4 : dd < 4 := by omega
              have hnd := n2 dd c26
              refine lv_iload_n hx hb dL_felt_29 rfl (lv_at hl 5 rfl) ?_
              refine w_if_ne (x := 0) hx hb dL_felt_30 (tgt := 56) (by decide) (by decide) (fun h => absurd h (by decide)) (fun _ => ?_)
              refine lv_aload_n hx hb dL_felt_33 rfl (lv_at hl 2 rfl) ?_
              refine lv_bipush (v := nI (38)) hx hb dL_felt_34 (by decide) ?_
              refine lv_iload hx hb dL_felt_36 (lv_at hl 1 rfl) ?_
              refine w_iadd (x := 38) (y := dd) hx hb dL_felt_38  ?_
              refine w_iald (f := v 0) hx hb hK hP 0 0 rfl rfl (i := 38 + dd) (by first | omega | (have h9 := Nat.mul_le_mul n1 (show k ≤ 5 by omega); omega) | (have h9 := Nat.mul_le_mul n1 (show k - 1 ≤ 5 by omega); omega)) (by decide) dL_felt_39 ?_
              refine w_if_le (x := v 0 (38 + dd)) hx hb dL_felt_40 (tgt := 56) (by decide) (by have h9 := hnd.1; omega) (fun c40 => ?_) (fun c40 => ?_)
              · skip
                refine lv_iload_n hx hb dL_felt_56 rfl (lv_at hl 4 rfl) ?_
                refine lv_istore (lv' := [(8, .int (nI (k))), (6, .int (nI (x))), (7, .int (nI (dd))), (0, .ref (a 0)), (1, .ref (a 1)), (2, .int (nI (k))), (3, .int (nI (0))), (4, .int (nI (q))), (5, .int (nI (i)))]) hx hb dL_felt_57 hl (by decide) rfl (fun ls hl => ?_)
                refine lv_aload_n hx hb dL_felt_59 rfl (lv_at hl 4 rfl) ?_
                refine lv_aload_n hx hb dL_felt_60 rfl (lv_at hl 3 rfl) ?_
                refine lv_bipush (v := nI (37)) hx hb dL_felt_61 (by decide) ?_
                refine w_iald (f := v 0) hx hb hK hP 0 0 rfl rfl (i := 37) (by first | omega | (have h9 := Nat.mul_le_mul n1 (show k ≤ 5 by omega); omega) | (have h9 := Nat.mul_le_mul n1 (show k - 1 ≤ 5 by omega); omega)) (by decide) dL_felt_63 ?_
                refine lv_iload hx hb dL_felt_64 (lv_at hl 0 rfl) ?_
                refine w_imul (x := v 0 37) (y := k) hx hb dL_felt_66  ?_
                refine lv_iload hx hb dL_felt_67 (lv_at hl 2 rfl) ?_
                refine w_iadd (x := (v 0 37) * k) (y := dd) hx hb dL_felt_69  ?_
                refine w_iald (f := v 1) hx hb hK hP 1 0 rfl rfl (i := (v 0 37) * k + dd) (by first | omega | (have h9 := Nat.mul_le_mul n1 (show k ≤ 5 by omega); omega) | (have h9 := Nat.mul_le_mul n1 (show k - 1 ≤ 5 by omega); omega)) (by decide) dL_felt_70 ?_
                have hpv : v 1 ((v 0 37) * k + dd) < 8 := hpb _ (by first | omega | (have h9 := Nat.mul_le_mul n1 (show k ≤ 5 by omega); omega) | (have h9 := Nat.mul_le_mul n1 (show k - 1 ≤ 5 by omega); omega))
                refine lv_iload hx hb dL_felt_71 (lv_at hl 8 rfl) ?_
                refine w_icmp_eq (x := v 1 ((v 0 37) * k + dd)) (y := i) hx hb dL_felt_73 (tgt := 79) (by decide) (by omega) (by omega) (fun c73 => ?_) (fun c73 => ?_)
                · skip
                  refine lv_iload hx hb dL_felt_79 (lv_at hl 1 rfl) ?_
                  refine lv_iload_n hx hb dL_felt_81 rfl (lv_at hl 6 rfl) ?_
                  refine w_if_ne (x := 0) hx hb dL_felt_82 (tgt := 108) (by decide) (by decide) (fun h => absurd h (by decide)) (fun _ => ?_)
                  refine lv_aload_n hx hb dL_felt_85 rfl (lv_at hl 3 rfl) ?_
                  refine lv_bipush (v := nI (38)) hx hb dL_felt_86 (by decide) ?_
                  refine lv_iload hx hb dL_felt_88 (lv_at hl 2 rfl) ?_
                  refine w_iadd (x := 38) (y := dd) hx hb dL_felt_90  ?_
                  refine w_iald (f := v 0) hx hb hK hP 0 0 rfl rfl (i := 38 + dd) (by first | omega | (have h9 := Nat.mul_le_mul n1 (show k ≤ 5 by omega); omega) | (have h9 := Nat.mul_le_mul n1 (show k - 1 ≤ 5 by omega); omega)) (by decide) dL_felt_91 ?_
                  refine lv_iconst (v := nI (2)) hx hb dL_felt_92 (by decide) ?_
                  refine w_icmp_ne (x := v 0 (38 + dd)) (y := 2) hx hb dL_felt_93 (tgt := 108) (by decide) (by have h9 := hnd.1; omega) (by decide) (fun c93 => ?_) (fun c93 => ?_)
                  · skip
                    refine lv_aload_n hx hb dL_felt_108 rfl (lv_at hl 3 rfl) ?_
                    refine lv_bipush (v := nI (42)) hx hb dL_felt_109 (by decide) ?_
                    refine lv_iload hx hb dL_felt_111 (lv_at hl 2 rfl) ?_
                    refine w_iadd (x := 42) (y := dd) hx hb dL_felt_113  ?_
                    refine w_iald (f := v 0) hx hb hK hP 0 0 rfl rfl (i := 42 + dd) (by first | omega | (have h9 := Nat.mul_le_mul n1 (show k ≤ 5 by omega); omega) | (have h9 := Nat.mul_le_mul n1 (show k - 1 ≤ 5 by omega); omega)) (by decide) dL_felt_114 ?_
                    refine w_iadd (x := x) (y := v 0 (42 + dd)) hx hb dL_felt_115  ?_
                    refine lv_istore (lv' := [(6, .int (nI (x + (v 0 (42 + dd))))), (8, .int (nI (k))), (7, .int (nI (dd))), (0, .ref (a 0)), (1, .ref (a 1)), (2, .int (nI (k))), (3, .int (nI (0))), (4, .int (nI (q))), (5, .int (nI (i)))]) hx hb dL_felt_116 hl (by decide) rfl (fun ls hl => ?_)
                    refine lv_iinc (v := nI (dd + 1)) (lv' := [(7, .int (nI (dd + 1))), (6, .int (nI (x + (v 0 (42 + dd))))), (8, .int (nI (k))), (0, .ref (a 0)), (1, .ref (a 1)), (2, .int (nI (k))), (3, .int (nI (0))), (4, .int (nI (q))), (5, .int (nI (i)))]) hx hb dL_felt_118 hl (k := 2) rfl (nI_add dd 1) (by decide) rfl (fun ls hl => ?_)
                    refine lv_goto (tgt := 20) hx hb dL_felt_121 (by decide) ?_
                    exact ih20 (dd + 1) (x + (v 0 (42 + dd))) _ _ _ (by omega) (by omega) (by first | exact fm_n h2 (by first | exact trb hd4 c40 c47 | exact trf0 hd4 c40 | exact trf1 hd4 c47) c73 | exact fm_y h2 (by first | exact trb hd4 c40 c47 | exact trf0 hd4 c40 | exact trf1 hd4 c47) c73 (by first | exact pA2 c93 | exact pA1 c93)) hP hD hS (lv_sub hl [1, 0, 3, 4, 5, 6, 7, 8] rfl)
                  · skip
                    refine lv_aload_n hx hb dL_felt_96 rfl (lv_at hl 3 rfl) ?_
                    refine lv_bipush (v := nI (42)) hx hb dL_felt_97 (by decide) ?_
                    refine lv_iload hx hb dL_felt_99 (lv_at hl 2 rfl) ?_
                    refine w_iadd (x := 42) (y := dd) hx hb dL_felt_101  ?_
                    refine w_iald (f := v 0) hx hb hK hP 0 0 rfl rfl (i := 42 + dd) (by first | omega | (have h9 := Nat.mul_le_mul n1 (show k ≤ 5 by omega); omega) | (have h9 := Nat.mul_le_mul n1 (show k - 1 ≤ 5 by omega); omega)) (by decide) dL_felt_102 ?_
                    refine lv_iconst (v := nI (2)) hx hb dL_felt_103 (by decide) ?_
                    refine w_idiv (x := v 0 (42 + dd)) (y := 2) hx hb dL_felt_104 (by omega) (by omega) (by omega) ?_
                    refine lv_goto (tgt := 115) hx hb dL_felt_105 (by decide) ?_
                    refine w_iadd (x := x) (y := (v 0 (42 + dd)) / 2) hx hb dL_felt_115  ?_
                    refine lv_istore (lv' := [(6, .int (nI (x + ((v 0 (42 + dd)) / 2)))), (8, .int (nI (k))), (7, .int (nI (dd))), (0, .ref (a 0)), (1, .ref (a 1)), (2, .int (nI (k))), (3, .int (nI (0))), (4, .int (nI (q))), (5, .int (nI (i)))]) hx hb dL_felt_116 hl (by decide) rfl (fun ls hl => ?_)
                    refine lv_iinc (v := nI (dd + 1)) (lv' := [(7, .int (nI (dd + 1))), (6, .int (nI (x + ((v 0 (42 + dd)) / 2)))), (8, .int (nI (k))), (0, .ref (a 0)), (1, .ref (a 1)), (2, .int (nI (k))), (3, .int (nI (0))), (4, .int (nI (q))), (5, .int (nI (i)))]) hx hb dL_felt_118 hl (k := 2) rfl (nI_add dd 1) (by decide) rfl (fun ls hl => ?_)
                    refine lv_goto (tgt := 20) hx hb dL_felt_121 (by decide) ?_
                    exact ih20 (dd + 1) (x + ((v 0 (42 + dd)) / 2)) _ _ _ (by omega) (by omega) (by first | exact fm_n h2 (by first | exact trb hd4 c40 c47 | exact trf0 hd4 c40 | exact trf1 hd4 c47) c73 | exact fm_y h2 (by first | exact trb hd4 c40 c47 | exact trf0 hd4 c40 | exact trf1 hd4 c47) c73 (by first | exact pA2 c93 | exact pA1 c93)) hP hD hS (lv_sub hl [1, 0, 3, 4, 5, 6, 7, 8] rfl)
                · skip
                  refine lv_goto (tgt := 118) hx hb dL_felt_76 (by decide) ?_
                  refine lv_iinc (v := nI (dd + 1)) (lv' := [(7, .int (nI (dd + 1))), (8, .int (nI (k))), (6, .int (nI (x))), (0, .ref (a 0)), (1, .ref (a 1)), (2, .int (nI (k))), (3, .int (nI (0))), (4, .int (nI (q))), (5, .int (nI (i)))]) hx hb dL_felt_118 hl (k := 2) rfl (nI_add dd 1) (by decide) rfl (fun ls hl => ?_)
                  refine lv_goto (tgt := 20) hx hb dL_felt_121 (by decide) ?_
                  exact ih20 (dd + 1) x _ _ _ (by omega) (by omega) (by first | exact fm_n h2 (by first | exact trb hd4 c40 c47 | exact trf0 hd4 c40 | exact trf1 hd4 c47) c73 | exact fm_y h2 (by first | exact trb hd4 c40 c47 | exact trf0 hd4 c40 | exact trf1 hd4 c47) c73 (by first | exact pA2 c93 | exact pA1 c93)) hP hD hS (lv_sub hl [2, 0, 3, 4, 5, 6, 7, 8] rfl)
              · skip
                refine lv_iload_n hx hb dL_felt_43 rfl (lv_at hl 4 rfl) ?_
                refine lv_iconst (v := nI (2)) hx hb dL_felt_44 (by decide) ?_
                refine w_irem (x := k) (y := 2) hx hb dL_felt_45 (by omega) (by omega) (by omega) ?_
                refine lv_iconst (v := nI (1)) hx hb dL_felt_46 (by decide) ?_
                refine w_icmp_ne (x := k % 2) (y := 1) hx hb dL_felt_47 (tgt := 56) (by decide) (by omega) (by omega) (fun c47 => ?_) (fun c47 => ?_)
                · skip
                  refine lv_iload_n hx hb dL_felt_56 rfl (lv_at hl 4 rfl) ?_
                  refine lv_istore (lv' := [(8, .int (nI (k))), (6, .int (nI (x))), (7, .int (nI (dd))), (0, .ref (a 0)), (1, .ref (a 1)), (2, .int (nI (k))), (3, .int (nI (0))), (4, .int (nI (q))), (5, .int (nI (i)))]) hx hb dL_felt_57 hl (by decide) rfl (fun ls hl => ?_)
                  refine lv_aload_n hx hb dL_felt_59 rfl (lv_at hl 4 rfl) ?_
                  refine lv_aload_n hx hb dL_felt_60 rfl (lv_at hl 3 rfl) ?_
                  refine lv_bipush (v := nI (37)) hx hb dL_felt_61 (by decide) ?_
                  refine w_iald (f := v 0) hx hb hK hP 0 0 rfl rfl (i := 37) (by first | omega | (have h9 := Nat.mul_le_mul n1 (show k ≤ 5 by omega); omega) | (have h9 := Nat.mul_le_mul n1 (show k - 1 ≤ 5 by omega); omega)) (by decide) dL_felt_63 ?_
                  refine lv_iload hx hb dL_felt_64 (lv_at hl 0 rfl) ?_
                  refine w_imul (x := v 0 37) (y := k) hx hb dL_felt_66  ?_
                  refine lv_iload hx hb dL_felt_67 (lv_at hl 2 rfl) ?_
                  refine w_iadd (x := (v 0 37) * k) (y := dd) hx hb dL_felt_69  ?_
                  refine w_iald (f := v 1) hx hb hK hP 1 0 rfl rfl (i := (v 0 37) * k + dd) (by first | omega | (have h9 := Nat.mul_le_mul n1 (show k ≤ 5 by omega); omega) | (have h9 := Nat.mul_le_mul n1 (show k - 1 ≤ 5 by omega); omega)) (by decide) dL_felt_70 ?_
                  have hpv : v 1 ((v 0 37) * k + dd) < 8 := hpb _ (by first | omega | (have h9 := Nat.mul_le_mul n1 (show k ≤ 5 by omega); omega) | (have h9 := Nat.mul_le_mul n1 (show k - 1 ≤ 5 by omega); omega))
                  refine lv_iload hx hb dL_felt_71 (lv_at hl 8 rfl) ?_
                  refine w_icmp_eq (x := v 1 ((v 0 37) * k + dd)) (y := i) hx hb dL_felt_73 (tgt := 79) (by decide) (by omega) (by omega) (fun c73 => ?_) (fun c73 => ?_)
                  · skip
                    refine lv_iload hx hb dL_felt_79 (lv_at hl 1 rfl) ?_
                    refine lv_iload_n hx hb dL_felt_81 rfl (lv_at hl 6 rfl) ?_
                    refine w_if_ne (x := 0) hx hb dL_felt_82 (tgt := 108) (by decide) (by decide) (fun h => absurd h (by decide)) (fun _ => ?_)
                    refine lv_aload_n hx hb dL_felt_85 rfl (lv_at hl 3 rfl) ?_
                    refine lv_bipush (v := nI (38)) hx hb dL_felt_86 (by decide) ?_
                    refine lv_iload hx hb dL_felt_88 (lv_at hl 2 rfl) ?_
                    refine w_iadd (x := 38) (y := dd) hx hb dL_felt_90  ?_
                    refine w_iald (f := v 0) hx hb hK hP 0 0 rfl rfl (i := 38 + dd) (by first | omega | (have h9 := Nat.mul_le_mul n1 (show k ≤ 5 by omega); omega) | (have h9 := Nat.mul_le_mul n1 (show k - 1 ≤ 5 by omega); omega)) (by decide) dL_felt_91 ?_
                    refine lv_iconst (v := nI (2)) hx hb dL_felt_92 (by decide) ?_
                    refine w_icmp_ne (x := v 0 (38 + dd)) (y := 2) hx hb dL_felt_93 (tgt := 108) (by decide) (by have h9 := hnd.1; omega) (by decide) (fun c93 => ?_) (fun c93 => ?_)
                    · skip
                      refine lv_aload_n hx hb dL_felt_108 rfl (lv_at hl 3 rfl) ?_
                      refine lv_bipush (v := nI (42)) hx hb dL_felt_109 (by decide) ?_
                      refine lv_iload hx hb dL_felt_111 (lv_at hl 2 rfl) ?_
                      refine w_iadd (x := 42) (y := dd) hx hb dL_felt_113  ?_
                      refine w_iald (f := v 0) hx hb hK hP 0 0 rfl rfl (i := 42 + dd) (by first | omega | (have h9 := Nat.mul_le_mul n1 (show k ≤ 5 by omega); omega) | (have h9 := Nat.mul_le_mul n1 (show k - 1 ≤ 5 by omega); omega)) (by decide) dL_felt_114 ?_
                      refine w_iadd (x := x) (y := v 0 (42 + dd)) hx hb dL_felt_115  ?_
                      refine lv_istore (lv' := [(6, .int (nI (x + (v 0 (42 + dd))))), (8, .int (nI (k))), (7, .int (nI (dd))), (0, .ref (a 0)), (1, .ref (a 1)), (2, .int (nI (k))), (3, .int (nI (0))), (4, .int (nI (q))), (5, .int (nI (i)))]) hx hb dL_felt_116 hl (by decide) rfl (fun ls hl => ?_)
                      refine lv_iinc (v := nI (dd + 1)) (lv' := [(7, .int (nI (dd + 1))), (6, .int (nI (x + (v 0 (42 + dd))))), (8, .int (nI (k))), (0, .ref (a 0)), (1, .ref (a 1)), (2, .int (nI (k))), (3, .int (nI (0))), (4, .int (nI (q))), (5, .int (nI (i)))]) hx hb dL_felt_118 hl (k := 2) rfl (nI_add dd 1) (by decide) rfl (fun ls hl => ?_)
                      refine lv_goto (tgt := 20) hx hb dL_felt_121 (by decide) ?_
                      exact ih20 (dd + 1) (x + (v 0 (42 + dd))) _ _ _ (by omega) (by omega) (by first | exact fm_n h2 (by first | exact trb hd4 c40 c47 | exact trf0 hd4 c40 | exact trf1 hd4 c47) c73 | exact fm_y h2 (by first | exact trb hd4 c40 c47 | exact trf0 hd4 c40 | exact trf1 hd4 c47) c73 (by first | exact pA2 c93 | exact pA1 c93)) hP hD hS (lv_sub hl [1, 0, 3, 4, 5, 6, 7, 8] rfl)
                    · skip
                      refine lv_aload_n hx hb dL_felt_96 rfl (lv_at hl 3 rfl) ?_
                      refine lv_bipush (v := nI (42)) hx hb dL_felt_97 (by decide) ?_
                      refine lv_iload hx hb dL_felt_99 (lv_at hl 2 rfl) ?_
                      refine w_iadd (x := 42) (y := dd) hx hb dL_felt_101  ?_
                      refine w_iald (f := v 0) hx hb hK hP 0 0 rfl rfl (i := 42 + dd) (by first | omega | (have h9 := Nat.mul_le_mul n1 (show k ≤ 5 by omega); omega) | (have h9 := Nat.mul_le_mul n1 (show k - 1 ≤ 5 by omega); omega)) (by decide) dL_felt_102 ?_
                      refine lv_iconst (v := nI (2)) hx hb dL_felt_103 (by decide) ?_
                      refine w_idiv (x := v 0 (42 + dd)) (y := 2) hx hb dL_felt_104 (by omega) (by omega) (by omega) ?_
                      refine lv_goto (tgt := 115) hx hb dL_felt_105 (by decide) ?_
                      refine w_iadd (x := x) (y := (v 0 (42 + dd)) / 2) hx hb dL_felt_115  ?_
                      refine lv_istore (lv' := [(6, .int (nI (x + ((v 0 (42 + dd)) / 2)))), (8, .int (nI (k))), (7, .int (nI (dd))), (0, .ref (a 0)), (1, .ref (a 1)), (2, .int (nI (k))), (3, .int (nI (0))), (4, .int (nI (q))), (5, .int (nI (i)))]) hx hb dL_felt_116 hl (by decide) rfl (fun ls hl => ?_)
                      refine lv_iinc (v := nI (dd + 1)) (lv' := [(7, .int (nI (dd + 1))), (6, .int (nI (x + ((v 0 (42 + dd)) / 2)))), (8, .int (nI (k))), (0, .ref (a 0)), (1, .ref (a 1)), (2, .int (nI (k))), (3, .int (nI (0))), (4, .int (nI (q))), (5, .int (nI (i)))]) hx hb dL_felt_118 hl (k := 2) rfl (nI_add dd 1) (by decide) rfl (fun ls hl => ?_)
                      refine lv_goto (tgt := 20) hx hb dL_felt_121 (by decide) ?_
                      exact ih20 (dd + 1) (x + ((v 0 (42 + dd)) / 2)) _ _ _ (by omega) (by omega) (by first | exact fm_n h2 (by first | exact trb hd4 c40 c47 | exact trf0 hd4 c40 | exact trf1 hd4 c47) c73 | exact fm_y h2 (by first | exact trb hd4 c40 c47 | exact trf0 hd4 c40 | exact trf1 hd4 c47) c73 (by first | exact pA2 c93 | exact pA1 c93)) hP hD hS (lv_sub hl [1, 0, 3, 4, 5, 6, 7, 8] rfl)
                  · skip
                    refine lv_goto (tgt := 118) hx hb dL_felt_76 (by decide) ?_
                    refine lv_iinc (v := nI (dd + 1)) (lv' := [(7, .int (nI (dd + 1))), (8, .int (nI (k))), (6, .int (nI (x))), (0, .ref (a 0)), (1, .ref (a 1)), (2, .int (nI (k))), (3, .int (nI (0))), (4, .int (nI (q))), (5, .int (nI (i)))]) hx hb dL_felt_118 hl (k := 2) rfl (nI_add dd 1) (by decide) rfl (fun ls hl => ?_)
                    refine lv_goto (tgt := 20) hx hb dL_felt_121 (by decide) ?_
                    exact ih20 (dd + 1) x _ _ _ (by omega) (by omega) (by first | exact fm_n h2 (by first | exact trb hd4 c40 c47 | exact trf0 hd4 c40 | exact trf1 hd4 c47) c73 | exact fm_y h2 (by first | exact trb hd4 c40 c47 | exact trf0 hd4 c40 | exact trf1 hd4 c47) c73 (by first | exact pA2 c93 | exact pA1 c93)) hP hD hS (lv_sub hl [2, 0, 3, 4, 5, 6, 7, 8] rfl)
                · skip
                  refine lv_iload_n hx hb dL_felt_50 rfl (lv_at hl 4 rfl) ?_
                  refine lv_iconst (v := nI (1)) hx hb dL_felt_51 (by decide) ?_
                  refine w_isub (x := k) (y := 1) hx hb dL_felt_52 (by omega) ?_
                  refine lv_goto (tgt := 57) hx hb dL_felt_53 (by decide) ?_
                  refine lv_istore (lv' := [(8, .int (nI (k - 1))), (6, .int (nI (x))), (7, .int (nI (dd))), (0, .ref (a 0)), (1, .ref (a 1)), (2, .int (nI (k))), (3, .int (nI (0))), (4, .int (nI (q))), (5, .int (nI (i)))]) hx hb dL_felt_57 hl (by decide) rfl (fun ls hl => ?_)
                  refine lv_aload_n hx hb dL_felt_59 rfl (lv_at hl 4 rfl) ?_
                  refine lv_aload_n hx hb dL_felt_60 rfl (lv_at hl 3 rfl) ?_
                  refine lv_bipush (v := nI (37)) hx hb dL_felt_61 (by decide) ?_
                  refine w_iald (f := v 0) hx hb hK hP 0 0 rfl rfl (i := 37) (by first | omega | (have h9 := Nat.mul_le_mul n1 (show k ≤ 5 by omega); omega) | (have h9 := Nat.mul_le_mul n1 (show k - 1 ≤ 5 by omega); omega)) (by decide) dL_felt_63 ?_
                  refine lv_iload hx hb dL_felt_64 (lv_at hl 0 rfl) ?_
                  refine w_imul (x := v 0 37) (y := k - 1) hx hb dL_felt_66  ?_
                  refine lv_iload hx hb dL_felt_67 (lv_at hl 2 rfl) ?_
                  refine w_iadd (x := (v 0 37) * (k - 1)) (y := dd) hx hb dL_felt_69  ?_
                  refine w_iald (f := v 1) hx hb hK hP 1 0 rfl rfl (i := ((v 0 37) * (k - 1)) + dd) (by first | omega | (have h9 := Nat.mul_le_mul n1 (show k ≤ 5 by omega); omega) | (have h9 := Nat.mul_le_mul n1 (show k - 1 ≤ 5 by omega); omega)) (by decide) dL_felt_70 ?_
                  have hpv : v 1 (((v 0 37) * (k - 1)) + dd) < 8 := hpb _ (by first | omega | (have h9 := Nat.mul_le_mul n1 (show k ≤ 5 by omega); omega) | (have h9 := Nat.mul_le_mul n1 (show k - 1 ≤ 5 by omega); omega))
                  refine lv_iload hx hb dL_felt_71 (lv_at hl 8 rfl) ?_
                  refine w_icmp_eq (x := v 1 (((v 0 37) * (k - 1)) + dd)) (y := i) hx hb dL_felt_73 (tgt := 79) (by decide) (by omega) (by omega) (fun c73 => ?_) (fun c73 => ?_)
                  · skip
                    refine lv_iload hx hb dL_felt_79 (lv_at hl 1 rfl) ?_
                    refine lv_iload_n hx hb dL_felt_81 rfl (lv_at hl 6 rfl) ?_
                    refine w_if_ne (x := 0) hx hb dL_felt_82 (tgt := 108) (by decide) (by decide) (fun h => absurd h (by decide)) (fun _ => ?_)
                    refine lv_aload_n hx hb dL_felt_85 rfl (lv_at hl 3 rfl) ?_
                    refine lv_bipush (v := nI (38)) hx hb dL_felt_86 (by decide) ?_
                    refine lv_iload hx hb dL_felt_88 (lv_at hl 2 rfl) ?_
                    refine w_iadd (x := 38) (y := dd) hx hb dL_felt_90  ?_
                    refine w_iald (f := v 0) hx hb hK hP 0 0 rfl rfl (i := 38 + dd) (by first | omega | (have h9 := Nat.mul_le_mul n1 (show k ≤ 5 by omega); omega) | (have h9 := Nat.mul_le_mul n1 (show k - 1 ≤ 5 by omega); omega)) (by decide) dL_felt_91 ?_
                    refine lv_iconst (v := nI (2)) hx hb dL_felt_92 (by decide) ?_
                    refine w_icmp_ne (x := v 0 (38 + dd)) (y := 2) hx hb dL_felt_93 (tgt := 108) (by decide) (by have h9 := hnd.1; omega) (by decide) (fun c93 => ?_) (fun c93 => ?_)
                    · skip
                      refine lv_aload_n hx hb dL_felt_108 rfl (lv_at hl 3 rfl) ?_
                      refine lv_bipush (v := nI (42)) hx hb dL_felt_109 (by decide) ?_
                      refine lv_iload hx hb dL_felt_111 (lv_at hl 2 rfl) ?_
                      refine w_iadd (x := 42) (y := dd) hx hb dL_felt_113  ?_
                      refine w_iald (f := v 0) hx hb hK hP 0 0 rfl rfl (i := 42 + dd) (by first | omega | (have h9 := Nat.mul_le_mul n1 (show k ≤ 5 by omega); omega) | (have h9 := Nat.mul_le_mul n1 (show k - 1 ≤ 5 by omega); omega)) (by decide) dL_felt_114 ?_
                      refine w_iadd (x := x) (y := v 0 (42 + dd)) hx hb dL_felt_115  ?_
                      refine lv_istore (lv' := [(6, .int (nI (x + (v 0 (42 + dd))))), (8, .int (nI (k - 1))), (7, .int (nI (dd))), (0, .ref (a 0)), (1, .ref (a 1)), (2, .int (nI (k))), (3, .int (nI (0))), (4, .int (nI (q))), (5, .int (nI (i)))]) hx hb dL_felt_116 hl (by decide) rfl (fun ls hl => ?_)
                      refine lv_iinc (v := nI (dd + 1)) (lv' := [(7, .int (nI (dd + 1))), (6, .int (nI (x + (v 0 (42 + dd))))), (8, .int (nI (k - 1))), (0, .ref (a 0)), (1, .ref (a 1)), (2, .int (nI (k))), (3, .int (nI (0))), (4, .int (nI (q))), (5, .int (nI (i)))]) hx hb dL_felt_118 hl (k := 2) rfl (nI_add dd 1) (by decide) rfl (fun ls hl => ?_)
                      refine lv_goto (tgt := 20) hx hb dL_felt_121 (by decide) ?_
                      exact ih20 (dd + 1) (x + (v 0 (42 + dd))) _ _ _ (by omega) (by omega) (by first | exact fm_n h2 (by first | exact trb hd4 c40 c47 | exact trf0 hd4 c40 | exact trf1 hd4 c47) c73 | exact fm_y h2 (by first | exact trb hd4 c40 c47 | exact trf0 hd4 c40 | exact trf1 hd4 c47) c73 (by first | exact pA2 c93 | exact pA1 c93)) hP hD hS (lv_sub hl [1, 0, 3, 4, 5, 6, 7, 8] rfl)
                    · skip
                      refine lv_aload_n hx hb dL_felt_96 rfl (lv_at hl 3 rfl) ?_
                      refine lv_bipush (v := nI (42)) hx hb dL_felt_97 (by decide) ?_
                      refine lv_iload hx hb dL_felt_99 (lv_at hl 2 rfl) ?_
                      refine w_iadd (x := 42) (y := dd) hx hb dL_felt_101  ?_
                      refine w_iald (f := v 0) hx hb hK hP 0 0 rfl rfl (i := 42 + dd) (by first | omega | (have h9 := Nat.mul_le_mul n1 (show k ≤ 5 by omega); omega) | (have h9 := Nat.mul_le_mul n1 (show k - 1 ≤ 5 by omega); omega)) (by decide) dL_felt_102 ?_
                      refine lv_iconst (v := nI (2)) hx hb dL_felt_103 (by decide) ?_
                      refine w_idiv (x := v 0 (42 + dd)) (y := 2) hx hb dL_felt_104 (by omega) (by omega) (by omega) ?_
                      refine lv_goto (tgt := 115) hx hb dL_felt_105 (by decide) ?_
                      refine w_iadd (x := x) (y := (v 0 (42 + dd)) / 2) hx hb dL_felt_115  ?_
                      refine lv_istore (lv' := [(6, .int (nI (x + ((v 0 (42 + dd)) / 2)))), (8, .int (nI (k - 1))), (7, .int (nI (dd))), (0, .ref (a 0)), (1, .ref (a 1)), (2, .int (nI (k))), (3, .int (nI (0))), (4, .int (nI (q))), (5, .int (nI (i)))]) hx hb dL_felt_116 hl (by decide) rfl (fun ls hl => ?_)
                      refine lv_iinc (v := nI (dd + 1)) (lv' := [(7, .int (nI (dd + 1))), (6, .int (nI (x + ((v 0 (42 + dd)) / 2)))), (8, .int (nI (k - 1))), (0, .ref (a 0)), (1, .ref (a 1)), (2, .int (nI (k))), (3, .int (nI (0))), (4, .int (nI (q))), (5, .int (nI (i)))]) hx hb dL_felt_118 hl (k := 2) rfl (nI_add dd 1) (by decide) rfl (fun ls hl => ?_)
                      refine lv_goto (tgt := 20) hx hb dL_felt_121 (by decide) ?_
                      exact ih20 (dd + 1) (x + ((v 0 (42 + dd)) / 2)) _ _ _ (by omega) (by omega) (by first | exact fm_n h2 (by first | exact trb hd4 c40 c47 | exact trf0 hd4 c40 | exact trf1 hd4 c47) c73 | exact fm_y h2 (by first | exact trb hd4 c40 c47 | exact trf0 hd4 c40 | exact trf1 hd4 c47) c73 (by first | exact pA2 c93 | exact pA1 c93)) hP hD hS (lv_sub hl [1, 0, 3, 4, 5, 6, 7, 8] rfl)
                  · skip
                    refine lv_goto (tgt := 118) hx hb dL_felt_76 (by decide) ?_
                    refine lv_iinc (v := nI (dd + 1)) (lv' := [(7, .int (nI (dd + 1))), (8, .int (nI (k - 1))), (6, .int (nI (x))), (0, .ref (a 0)), (1, .ref (a 1)), (2, .int (nI (k))), (3, .int (nI (0))), (4, .int (nI (q))), (5, .int (nI (i)))]) hx hb dL_felt_118 hl (k := 2) rfl (nI_add dd 1) (by decide) rfl (fun ls hl => ?_)
                    refine lv_goto (tgt := 20) hx hb dL_felt_121 (by decide) ?_
                    exact ih20 (dd + 1) x _ _ _ (by omega) (by omega) (by first | exact fm_n h2 (by first | exact trb hd4 c40 c47 | exact trf0 hd4 c40 | exact trf1 hd4 c47) c73 | exact fm_y h2 (by first | exact trb hd4 c40 c47 | exact trf0 hd4 c40 | exact trf1 hd4 c47) c73 (by first | exact pA2 c93 | exact pA1 c93)) hP hD hS (lv_sub hl [2, 0, 3, 4, 5, 6, 7, 8] rfl)
        refine lv_iconst (v := nI (0)) hx hb dL_felt_14 (by decide) ?_
        refine lv_istore (lv' := [(6, .int (nI (0))), (4, .int (nI (q))), (5, .int (nI (i))), (0, .ref (a 0)), (1, .ref (a 1)), (2, .int (nI (k))), (3, .int (nI (0)))]) hx hb dL_felt_15 hl (by decide) rfl (fun ls hl => ?_)
        refine lv_iconst (v := nI (0)) hx hb dL_felt_17 (by decide) ?_
        refine lv_istore (lv' := [(7, .int (nI (0))), (6, .int (nI (0))), (4, .int (nI (q))), (5, .int (nI (i))), (0, .ref (a 0)), (1, .ref (a 1)), (2, .int (nI (k))), (3, .int (nI (0)))]) hx hb dL_felt_18 hl (by decide) rfl (fun ls hl => ?_)
        exact L20 ((v 0 37 - 0) + 1) 0 0 _ _ _ (Nat.lt_succ_self _) (by omega) (by rfl) hP hD hS (lv_sub hl [1, 0, 4, 5, 6, 7, 2, 3] rfl)
  exact L6 ((v 0 0 - 0) + 1) 0 0 _ _ _ (Nat.lt_succ_self _) (by omega) (by rfl) hP hD hS (lv_sub hl [1, 0, 2, 3, 4, 5] rfl)

set_option maxHeartbeats 4000000 in
set_option maxRecDepth 100000 in
theorem k_felt1 (l : Launch) (D : va_G) (a : Nat → Nat) (cI cJ cZ : ClassId) (A : Nat → Prop) (v : Nat → Nat → Nat) (c : Nat → Nat → Int32) (k : Nat) (hgl : GL (v 0)) (hgd : GD (v 0)) (hpb : ∀ q, q < 24 → v 1 q < 8) (hk : k ≤ 5) :
    mI l yL_felt wsL_felt 0 0 [.ref (a 0), .ref (a 1), .int (nI k), .int (nI 1)] D (xT cI cJ cZ) A (lfW a cI cJ cZ v c) (fun _ : Unit => lfW a cI cJ cZ v c)
    (fun (r : Int32) (u : Unit) => r = nI (fE1 (v 0) (v 1) k)) := by
  refine w_bI cL_felt 9 .int (by decide) rfl (Nat.le_of_ble_eq_true rfl) (Or.inl rfl) ?_
  intro p e s m args below meth c0 ls Q hx hb hml hts hown hK hN hA hret hP hD hS hl
  have hl : lv_has ls 9 [(0, .ref (a 0)), (1, .ref (a 1)), (2, .int (nI (k))), (3, .int (nI (1)))] := hl
  obtain ⟨⟨g1, g2⟩, ⟨g3, g4⟩, g5, g6, g7⟩ := id hgl
  obtain ⟨n1, n2⟩ := id hgd
  refine lv_iconst (v := nI (0)) hx hb dL_felt_0 (by decide) ?_
  refine lv_istore (lv' := [(4, .int (nI (0))), (0, .ref (a 0)), (1, .ref (a 1)), (2, .int (nI (k))), (3, .int (nI (1)))]) hx hb dL_felt_1 hl (by decide) rfl (fun ls hl => ?_)
  refine lv_iconst (v := nI (0)) hx hb dL_felt_3 (by decide) ?_
  refine lv_istore (lv' := [(5, .int (nI (0))), (4, .int (nI (0))), (0, .ref (a 0)), (1, .ref (a 1)), (2, .int (nI (k))), (3, .int (nI (1)))]) hx hb dL_felt_4 hl (by decide) rfl (fun ls hl => ?_)
  have L6 : ∀ (n : Nat) (i : Nat) (q : Nat) (H : Heap) (locs : List Loc) (ls : Array Slot), v 0 0 - i < n → (i ≤ v 0 0) → (q = fe (fun b => sm (fun d => if tr (fun _ => 0) (ps (v 0 37) (v 1)) k d = b then (gWT (v 0)) d else 0) (v 0 37)) (gND (v 0)) i) → va_P D vwCl (lfW a cI cJ cZ v c) H → va_D A (lfW a cI cJ cZ v c) → va_S A s.heap H locs → lv_has ls 9 [(4, .int (nI (q))), (5, .int (nI (i))), (0, .ref (a 0)), (1, .ref (a 1)), (2, .int (nI (k))), (3, .int (nI (1)))] → W p l e { frames := 0, cells := 0, slots := 0, locals := 0 } s m args below meth c0 H locs 0 0 Q (F0 m 6 ls []) := by
    intro n
    induction n with
    | zero => intro i q H locs ls hm; exact absurd hm (Nat.not_lt_zero _)
    | succ n ih6 =>
      intro i q H locs ls hm6 hi hq hP hD hS hl
      refine lv_iload hx hb dL_felt_6 (lv_at hl 1 rfl) ?_
      refine lv_aload_n hx hb dL_felt_8 rfl (lv_at hl 2 rfl) ?_
      refine lv_iconst (v := nI (0)) hx hb dL_felt_9 (by decide) ?_
      refine w_iald (f := v 0) hx hb hK hP 0 0 rfl rfl (i := 0) (by first | omega | (have h9 := Nat.mul_le_mul n1 (show k ≤ 5 by omega); omega) | (have h9 := Nat.mul_le_mul n1 (show k - 1 ≤ 5 by omega); omega)) (by decide) dL_felt_10 ?_
      refine w_icmp_ge (x := i) (y := v 0 0) hx hb dL_felt_11 (tgt := 150) (by decide) (by omega) (by omega) (fun c11 => ?_) (fun c11 => ?_)
      · skip
        refine lv_iload hx hb dL_felt_150 (lv_at hl 0 rfl) ?_
        exact hret (nI (q)) () _ _ 152 _ dL_felt_152 rfl (by have e : i = v 0 0 := (by omega); rw [hq, e]; rfl) hP hD hS
      · skip
        have L20 : ∀ (n : Nat) (dd : Nat) (x : Nat) (H : Heap) (locs : List Loc) (ls : Array Slot), v 0 37 - dd < n → (dd ≤ v 0 37) → (x = sm (fun d => if tr (fun _ => 0) (ps (v 0 37) (v 1)) k d = i then (gWT (v 0)) d else 0) dd) → va_P D vwCl (lfW a cI cJ cZ v c) H → va_D A (lfW a cI cJ cZ v c) → va_S A s.heap H locs → lv_has ls 9 [(6, .int (nI (x))), (7, .int (nI (dd))), (0, .ref (a 0)), (1, .ref (a 1)), (2, .int (nI (k))), (3, .int (nI (1))), (4, .int (nI (q))), (5, .int (nI (i)))] → W p l e { frames := 0, cells := 0, slots := 0, locals := 0 } s m args below meth c0 H locs 0 0 Q (F0 m 20 ls []) := by
          intro n
          induction n with
          | zero => intro dd x H locs ls hm; exact absurd hm (Nat.not_lt_zero _)
          | succ n ih20 =>
            intro dd x H locs ls hm20 h1 h2 hP hD hS hl
            refine lv_iload hx hb dL_felt_20 (lv_at hl 1 rfl) ?_
            refine lv_aload_n hx hb dL_felt_22 rfl (lv_at hl 2 rfl) ?_
            refine lv_bipush (v := nI (37)) hx hb dL_felt_23 (by decide) ?_
            refine w_iald (f := v 0) hx hb hK hP 0 0 rfl rfl (i := 37) (by first | omega | (have h9 := Nat.mul_le_mul n1 (show k ≤ 5 by omega); omega) | (have h9 := Nat.mul_le_mul n1 (show k - 1 ≤ 5 by omega); omega)) (by decide) dL_felt_25 ?_
            refine w_icmp_ge (x := dd) (y := v 0 37) hx hb dL_felt_26 (tgt := 124) (by decide) (by omega) (by omega) (fun c26 => ?_) (fun c26 => ?_)
            · skip
              have ed : dd = v 0 37 := by omega
              have hxd := h2
              rw [ed] at hxd
              have hxl : x ≤ 27 := by rw [hxd]; have h9 := fsm_le (li := (fun _ => 0)) (st := ps (v 0 37) (v 1)) (p := (gWT (v 0))) (k := k) (i := i) (n := v 0 37) (fun d hd => (n2 d hd).2.2); omega
              have hni := g5 i (by omega)
              refine lv_iload hx hb dL_felt_124 (lv_at hl 0 rfl) ?_
              refine lv_aload_n hx hb dL_felt_126 rfl (lv_at hl 2 rfl) ?_
              refine lv_iconst (v := nI (2)) hx hb dL_felt_127 (by decide) ?_
              refine lv_iload hx hb dL_felt_128 (lv_at hl 7 rfl) ?_
              refine w_iadd (x := 2) (y := i) hx hb dL_felt_130  ?_
              refine w_iald (f := v 0) hx hb hK hP 0 0 rfl rfl (i := 2 + i) (by first | omega | (have h9 := Nat.mul_le_mul n1 (show k ≤ 5 by omega); omega) | (have h9 := Nat.mul_le_mul n1 (show k - 1 ≤ 5 by omega); omega)) (by decide) dL_felt_131 ?_
              refine w_icmp_lt (x := x) (y := v 0 (2 + i)) hx hb dL_felt_132 (tgt := 144) (by decide) (by omega) (by have h9 := hni.2; omega) (fun c132 => ?_) (fun c132 => ?_)
              · skip
                refine lv_iinc (v := nI (i + 1)) (lv' := [(5, .int (nI (i + 1))), (6, .int (nI (x))), (7, .int (nI (dd))), (0, .ref (a 0)), (1, .ref (a 1)), (2, .int (nI (k))), (3, .int (nI (1))), (4, .int (nI (q)))]) hx hb dL_felt_144 hl (k := 7) rfl (nI_add i 1) (by decide) rfl (fun ls hl => ?_)
                refine lv_goto (tgt := 6) hx hb dL_felt_147 (by decide) ?_
                exact ih6 (i + 1) q _ _ _ (by omega) (by omega) (by first | (rw [hq, fe_y (L := fun b => sm (fun d => if tr (fun _ => 0) (ps (v 0 37) (v 1)) k d = b then (gWT (v 0)) d else 0) (v 0 37)) (show gND (v 0) i ≤ sm _ _ by rw [← hxd]; exact c132), Nat.one_mul]) | (rw [hq, fe_n (L := fun b => sm (fun d => if tr (fun _ => 0) (ps (v 0 37) (v 1)) k d = b then (gWT (v 0)) d else 0) (v 0 37)) (show sm _ _ < gND (v 0) i by rw [← hxd]; exact c132)])) hP hD hS (lv_sub hl [7, 0, 3, 4, 5, 6] rfl)
              · skip
                refine lv_iload hx hb dL_felt_135 (lv_at hl 6 rfl) ?_
                refine lv_iconst (v := nI (1)) hx hb dL_felt_137 (by decide) ?_
                refine lv_iload hx hb dL_felt_138 (lv_at hl 7 rfl) ?_
                refine w_ishl (x := 1) (y := i) hx hb dL_felt_140 (by omega) (by have h9 := p2_16 (show i ≤ 4 by omega); omega) ?_
                refine w_ior (x := q) (y := 1 * 2 ^ i) hx hb dL_felt_141  ?_
                refine lv_istore (lv' := [(4, .int (nI (q ||| (1 * 2 ^ i)))), (6, .int (nI (x))), (7, .int (nI (dd))), (0, .ref (a 0)), (1, .ref (a 1)), (2, .int (nI (k))), (3, .int (nI (1))), (5, .int (nI (i)))]) hx hb dL_felt_142 hl (by decide) rfl (fun ls hl => ?_)
                refine lv_iinc (v := nI (i + 1)) (lv' := [(5, .int (nI (i + 1))), (4, .int (nI (q ||| (1 * 2 ^ i)))), (6, .int (nI (x))), (7, .int (nI (dd))), (0, .ref (a 0)), (1, .ref (a 1)), (2, .int (nI (k))), (3, .int (nI (1)))]) hx hb dL_felt_144 hl (k := 7) rfl (nI_add i 1) (by decide) rfl (fun ls hl => ?_)
                refine lv_goto (tgt := 6) hx hb dL_felt_147 (by decide) ?_
                exact ih6 (i + 1) (q ||| (1 * 2 ^ i)) _ _ _ (by omega) (by omega) (by first | (rw [hq, fe_y (L := fun b => sm (fun d => if tr (fun _ => 0) (ps (v 0 37) (v 1)) k d = b then (gWT (v 0)) d else 0) (v 0 37)) (show gND (v 0) i ≤ sm _ _ by rw [← hxd]; exact c132), Nat.one_mul]) | (rw [hq, fe_n (L := fun b => sm (fun d => if tr (fun _ => 0) (ps (v 0 37) (v 1)) k d = b then (gWT (v 0)) d else 0) (v 0 37)) (show sm _ _ < gND (v 0) i by rw [← hxd]; exact c132)])) hP hD hS (lv_sub hl [1, 0, 4, 5, 6, 7] rfl)
            · skip
              have hd4 : dd < 4 := by omega
              have hnd := n2 dd c26
              refine lv_iload_n hx hb dL_felt_29 rfl (lv_at hl 5 rfl) ?_
              refine w_if_ne (x := 1) hx hb dL_felt_30 (tgt := 56) (by decide) (by decide) (fun _ => ?_) (fun h => absurd h (by decide))
              refine lv_iload_n hx hb dL_felt_56 rfl (lv_at hl 4 rfl) ?_
              refine lv_istore (lv' := [(8, .int (nI (k))), (6, .int (nI (x))), (7, .int (nI (dd))), (0, .ref (a 0)), (1, .ref (a 1)), (2, .int (nI (k))), (3, .int (nI (1))), (4, .int (nI (q))), (5, .int (nI (i)))]) hx hb dL_felt_57 hl (by decide) rfl (fun ls hl => ?_)
              refine lv_aload_n hx hb dL_felt_59 rfl (lv_at hl 4 rfl) ?_
              refine lv_aload_n hx hb dL_felt_60 rfl (lv_at hl 3 rfl) ?_
              refine lv_bipush (v := nI (37)) hx hb dL_felt_61 (by decide) ?_
              refine w_iald (f := v 0) hx hb hK hP 0 0 rfl rfl (i := 37) (by first | omega | (have h9 := Nat.mul_le_mul n1 (show k ≤ 5 by omega); omega) | (have h9 := Nat.mul_le_mul n1 (show k - 1 ≤ 5 by omega); omega)) (by decide) dL_felt_63 ?_
              refine lv_iload hx hb dL_felt_64 (lv_at hl 0 rfl) ?_
              refine w_imul (x := v 0 37) (y := k) hx hb dL_felt_66  ?_
              refine lv_iload hx hb dL_felt_67 (lv_at hl 2 rfl) ?_
              refine w_iadd (x := (v 0 37) * k) (y := dd) hx hb dL_felt_69  ?_
              refine w_iald (f := v 1) hx hb hK hP 1 0 rfl rfl (i := (v 0 37) * k + dd) (by first | omega | (have h9 := Nat.mul_le_mul n1 (show k ≤ 5 by omega); omega) | (have h9 := Nat.mul_le_mul n1 (show k - 1 ≤ 5 by omega); omega)) (by decide) dL_felt_70 ?_
              have hpv : v 1 ((v 0 37) * k + dd) < 8 := hpb _ (by first | omega | (have h9 := Nat.mul_le_mul n1 (show k ≤ 5 by omega); omega) | (have h9 := Nat.mul_le_mul n1 (show k - 1 ≤ 5 by omega); omega))
              refine lv_iload hx hb dL_felt_71 (lv_at hl 8 rfl) ?_
              refine w_icmp_eq (x := v 1 ((v 0 37) * k + dd)) (y := i) hx hb dL_felt_73 (tgt := 79) (by decide) (by omega) (by omega) (fun c73 => ?_) (fun c73 => ?_)
              · skip
                refine lv_iload hx hb dL_felt_79 (lv_at hl 1 rfl) ?_
                refine lv_iload_n hx hb dL_felt_81 rfl (lv_at hl 6 rfl) ?_
                refine w_if_ne (x := 1) hx hb dL_felt_82 (tgt := 108) (by decide) (by decide) (fun _ => ?_) (fun h => absurd h (by decide))
                refine lv_aload_n hx hb dL_felt_108 rfl (lv_at hl 3 rfl) ?_
                refine lv_bipush (v := nI (42)) hx hb dL_felt_109 (by decide) ?_
                refine lv_iload hx hb dL_felt_111 (lv_at hl 2 rfl) ?_
                refine w_iadd (x := 42) (y := dd) hx hb dL_felt_113  ?_
                refine w_iald (f := v 0) hx hb hK hP 0 0 rfl rfl (i := 42 + dd) (by first | omega | (have h9 := Nat.mul_le_mul n1 (show k ≤ 5 by omega); omega) | (have h9 := Nat.mul_le_mul n1 (show k - 1 ≤ 5 by omega); omega)) (by decide) dL_felt_114 ?_
                refine w_iadd (x := x) (y := v 0 (42 + dd)) hx hb dL_felt_115  ?_
                refine lv_istore (lv' := [(6, .int (nI (x + (v 0 (42 + dd))))), (8, .int (nI (k))), (7, .int (nI (dd))), (0, .ref (a 0)), (1, .ref (a 1)), (2, .int (nI (k))), (3, .int (nI (1))), (4, .int (nI (q))), (5, .int (nI (i)))]) hx hb dL_felt_116 hl (by decide) rfl (fun ls hl => ?_)
                refine lv_iinc (v := nI (dd + 1)) (lv' := [(7, .int (nI (dd + 1))), (6, .int (nI (x + (v 0 (42 + dd))))), (8, .int (nI (k))), (0, .ref (a 0)), (1, .ref (a 1)), (2, .int (nI (k))), (3, .int (nI (1))), (4, .int (nI (q))), (5, .int (nI (i)))]) hx hb dL_felt_118 hl (k := 2) rfl (nI_add dd 1) (by decide) rfl (fun ls hl => ?_)
                refine lv_goto (tgt := 20) hx hb dL_felt_121 (by decide) ?_
                exact ih20 (dd + 1) (x + (v 0 (42 + dd))) _ _ _ (by omega) (by omega) (by first | exact fm_n h2 (trw hd4) c73 | exact fm_y h2 (trw hd4) c73 rfl) hP hD hS (lv_sub hl [1, 0, 3, 4, 5, 6, 7, 8] rfl)
              · skip
                refine lv_goto (tgt := 118) hx hb dL_felt_76 (by decide) ?_
                refine lv_iinc (v := nI (dd + 1)) (lv' := [(7, .int (nI (dd + 1))), (8, .int (nI (k))), (6, .int (nI (x))), (0, .ref (a 0)), (1, .ref (a 1)), (2, .int (nI (k))), (3, .int (nI (1))), (4, .int (nI (q))), (5, .int (nI (i)))]) hx hb dL_felt_118 hl (k := 2) rfl (nI_add dd 1) (by decide) rfl (fun ls hl => ?_)
                refine lv_goto (tgt := 20) hx hb dL_felt_121 (by decide) ?_
                exact ih20 (dd + 1) x _ _ _ (by omega) (by omega) (by first | exact fm_n h2 (trw hd4) c73 | exact fm_y h2 (trw hd4) c73 rfl) hP hD hS (lv_sub hl [2, 0, 3, 4, 5, 6, 7, 8] rfl)
        refine lv_iconst (v := nI (0)) hx hb dL_felt_14 (by decide) ?_
        refine lv_istore (lv' := [(6, .int (nI (0))), (4, .int (nI (q))), (5, .int (nI (i))), (0, .ref (a 0)), (1, .ref (a 1)), (2, .int (nI (k))), (3, .int (nI (1)))]) hx hb dL_felt_15 hl (by decide) rfl (fun ls hl => ?_)
        refine lv_iconst (v := nI (0)) hx hb dL_felt_17 (by decide) ?_
        refine lv_istore (lv' := [(7, .int (nI (0))), (6, .int (nI (0))), (4, .int (nI (q))), (5, .int (nI (i))), (0, .ref (a 0)), (1, .ref (a 1)), (2, .int (nI (k))), (3, .int (nI (1)))]) hx hb dL_felt_18 hl (by decide) rfl (fun ls hl => ?_)
        exact L20 ((v 0 37 - 0) + 1) 0 0 _ _ _ (Nat.lt_succ_self _) (by omega) (by rfl) hP hD hS (lv_sub hl [1, 0, 4, 5, 6, 7, 2, 3] rfl)
  exact L6 ((v 0 0 - 0) + 1) 0 0 _ _ _ (Nat.lt_succ_self _) (by omega) (by rfl) hP hD hS (lv_sub hl [1, 0, 2, 3, 4, 5] rfl)

set_option maxHeartbeats 4000000 in
set_option maxRecDepth 100000 in
theorem k_opened (l : Launch) (D : va_G) (a : Nat → Nat) (cI cJ cZ : ClassId) (A : Nat → Prop) (v : Nat → Nat → Nat) (c : Nat → Nat → Int32) (bt : Nat) (hgl : GL (v 0)) (hgd : GD (v 0)) (hpb : ∀ q, q < 24 → v 1 q < 8) (hbt6 : bt ≤ 6) :
    mI l yL_opened wsL_opened 1 28 [.ref (a 0), .ref (a 1), .int (nI bt)] D (xT cI cJ cZ) A (lfW a cI cJ cZ v c) (fun _ : Unit => lfW a cI cJ cZ v c)
    (fun (r : Int32) (u : Unit) => ∃ rr : Int32, r = rr ∧ OPD (v 0) (v 1) bt rr) := by
  refine w_bI cL_opened 7 .int (by decide) rfl (Nat.le_of_ble_eq_true rfl) (Or.inl rfl) ?_
  intro p e s m args below meth c0 ls Q hx hb hml hts hown hK hN hA hret hP hD hS hl
  have hl : lv_has ls 7 [(0, .ref (a 0)), (1, .ref (a 1)), (2, .int (nI (bt)))] := hl
  obtain ⟨⟨g1, g2⟩, ⟨g3, g4⟩, g5, g6, g7⟩ := id hgl
  obtain ⟨n1, n2⟩ := id hgd
  refine lv_bipush (v := -9) hx hb dL_opened_0 (by decide) ?_
  refine lv_istore_n (lv' := [(3, .int (-9)), (0, .ref (a 0)), (1, .ref (a 1)), (2, .int (nI (bt)))]) hx hb dL_opened_2 rfl hl (by decide) rfl (fun ls hl => ?_)
  refine lv_aload_n hx hb dL_opened_3 rfl (lv_at hl 1 rfl) ?_
  refine lv_iconst (v := nI (1)) hx hb dL_opened_4 (by decide) ?_
  refine w_iald (f := v 0) hx hb hK hP 0 0 rfl rfl (i := 1) (by omega) (by decide) dL_opened_5 ?_
  refine lv_iconst (v := nI (1)) hx hb dL_opened_6 (by decide) ?_
  refine lv_isub hx hb dL_opened_7 ?_
  refine lv_istore (lv' := [(4, .int ((nI (v 0 1)) - (nI (1)))), (3, .int (-9)), (0, .ref (a 0)), (1, .ref (a 1)), (2, .int (nI (bt)))]) hx hb dL_opened_8 hl (by decide) rfl (fun ls hl => ?_)
  have L10 : ∀ (n : Nat) (z : Int32) (i : Nat) (y : Int32) (H : Heap) (locs : List Loc) (ls : Array Slot), i < n → (i ≤ v 0 1) → (z.toInt = (i : Int) - 1) → (OPi (v 0) (v 1) bt i y) → va_P D vwCl (lfW a cI cJ cZ v c) H → va_D A (lfW a cI cJ cZ v c) → va_S A s.heap H locs → lv_has ls 7 [(3, .int y), (4, .int z), (0, .ref (a 0)), (1, .ref (a 1)), (2, .int (nI (bt)))] → W p l e { frames := 1, cells := 0, slots := 0, locals := 28 } s m args below meth c0 H locs 0 0 Q (F0 m 10 ls []) := by
    intro n
    induction n with
    | zero => intro z i y H locs ls hm; exact absurd hm (Nat.not_lt_zero _)
    | succ n ih10 =>
      intro z i y H locs ls hm10 hi hz hop hP hD hS hl
      refine lv_iload hx hb dL_opened_10 (lv_at hl 1 rfl) ?_
      refine r_if_lt hx hb dL_opened_12 (tgt := 98) (by decide) (fun c12 => ?_) (fun c12 => ?_)
      · skip
        refine lv_iload_n hx hb dL_opened_98 rfl (lv_at hl 0 rfl) ?_
        exact hret (y) () _ _ 99 _ dL_opened_99 rfl (by have e : i = 0 := (by omega); subst e; exact ⟨_, rfl, OP_end hop⟩) hP hD hS
      · skip
        obtain ⟨z', z'B, rfl⟩ := r_nat c12
        have z'T := n_tI z'B
        have hj2 : i = z' + 1 := (by omega)
        subst hj2
        have hi2 : z' < v 0 1 := by omega
        have hb9 := g6 z' hi2
        refine lv_aload_n hx hb dL_opened_15 rfl (lv_at hl 2 rfl) ?_
        refine lv_bipush (v := nI (9)) hx hb dL_opened_16 (by decide) ?_
        refine lv_iload hx hb dL_opened_18 (lv_at hl 1 rfl) ?_
        refine w_iadd (x := 9) (y := z') hx hb dL_opened_20  ?_
        refine w_iald (f := v 0) hx hb hK hP 0 0 rfl rfl (i := 9 + z') (by omega) (by decide) dL_opened_21 ?_
        refine lv_iload_n hx hb dL_opened_22 rfl (lv_at hl 4 rfl) ?_
        refine w_icmp_ne (x := v 0 (9 + z')) (y := bt) hx hb dL_opened_23 (tgt := 30) (by decide) (by omega) (by omega) (fun c23 => ?_) (fun c23 => ?_)
        · skip
          refine lv_iconst (v := nI (0)) hx hb dL_opened_30 (by decide) ?_
          have L36 : ∀ (n : Nat) (al : Nat) (kk : Nat) (H : Heap) (locs : List Loc) (ls : Array Slot), bt - kk < n → (kk ≤ bt) → ((al = 1 ∧ gBT (v 0) z' = bt ∧ ∀ j, j < kk → fE0 (v 0) (v 1) j = gFG (v 0) z' j) ∨ (al = 0 ∧ ¬ opd (v 0 0) (gND (v 0)) (v 0 37) (lA (gKD (v 0))) (pA (gKD (v 0)) (gWT (v 0))) (ps (v 0 37) (v 1)) (gBT (v 0)) (gFG (v 0)) bt z')) → va_P D vwCl (lfW a cI cJ cZ v c) H → va_D A (lfW a cI cJ cZ v c) → va_S A s.heap H locs → lv_has ls 7 [(5, .int (nI (al))), (6, .int (nI (kk))), (0, .ref (a 0)), (1, .ref (a 1)), (2, .int (nI (bt))), (3, .int y), (4, .int (nI (z')))] → W p l e { frames := 1, cells := 0, slots := 0, locals := 28 } s m args below meth c0 H locs 0 0 Q (F0 m 36 ls []) := by
            intro n
            induction n with
            | zero => intro al kk H locs ls hm; exact absurd hm (Nat.not_lt_zero _)
            | succ n ih36 =>
              intro al kk H locs ls hm36 hk hall hP hD hS hl
              refine lv_iload hx hb dL_opened_36 (lv_at hl 1 rfl) ?_
              refine lv_iload_n hx hb dL_opened_38 rfl (lv_at hl 4 rfl) ?_
              refine w_icmp_ge (x := kk) (y := bt) hx hb dL_opened_39 (tgt := 84) (by decide) (by omega) (by omega) (fun c39 => ?_) (fun c39 => ?_)
              · skip
                have hal : (al = 1 ∧ opd (v 0 0) (gND (v 0)) (v 0 37) (lA (gKD (v 0))) (pA (gKD (v 0)) (gWT (v 0))) (ps (v 0 37) (v 1)) (gBT (v 0)) (gFG (v 0)) bt z') ∨ (al = 0 ∧ ¬ opd (v 0 0) (gND (v 0)) (v 0 37) (lA (gKD (v 0))) (pA (gKD (v 0)) (gWT (v 0))) (ps (v 0 37) (v 1)) (gBT (v 0)) (gFG (v 0)) bt z') := by
                  rcases hall with w | w
                  · exact Or.inl ⟨w.1, w.2.1, fun j hj => w.2.2 j (by first | (have := w.2.1; omega) | (have := w.1; omega))⟩
                  · exact Or.inr w
                refine lv_iload hx hb dL_opened_84 (lv_at hl 0 rfl) ?_
                refine w_if_eq (x := al) hx hb dL_opened_86 (tgt := 92) (by decide) (by rcases hall with w | w <;> omega) (fun c86 => ?_) (fun c86 => ?_)
                · skip
                  refine lv_iinc (v := (nI (z')) + -1) (lv' := [(4, .int ((nI (z')) + -1)), (5, .int (nI (al))), (6, .int (nI (kk))), (0, .ref (a 0)), (1, .ref (a 1)), (2, .int (nI (bt))), (3, .int y)]) hx hb dL_opened_92 hl (k := 6) rfl (rfl) (by decide) rfl (fun ls hl => ?_)
                  refine lv_goto (tgt := 10) hx hb dL_opened_95 (by decide) ?_
                  exact ih10 ((nI (z')) + -1) z' y _ _ _ (by omega) (by omega) (by have h9 := dec_I (x := z') (by omega); exact h9) (by first | exact OP_y hi2 (hal.elim (fun w => w.2) (fun w => absurd w.1 c86)) | exact OP_n hop (hal.elim (fun w => by have := w.1; omega) (fun w => w.2))) hP hD hS (lv_sub hl [6, 0, 3, 4, 5] rfl)
                · skip
                  refine lv_iload hx hb dL_opened_89 (lv_at hl 6 rfl) ?_
                  refine lv_istore_n (lv' := [(3, .int (nI (z'))), (5, .int (nI (al))), (6, .int (nI (kk))), (0, .ref (a 0)), (1, .ref (a 1)), (2, .int (nI (bt))), (4, .int (nI (z')))]) hx hb dL_opened_91 rfl hl (by decide) rfl (fun ls hl => ?_)
                  refine lv_iinc (v := (nI (z')) + -1) (lv' := [(4, .int ((nI (z')) + -1)), (3, .int (nI (z'))), (5, .int (nI (al))), (6, .int (nI (kk))), (0, .ref (a 0)), (1, .ref (a 1)), (2, .int (nI (bt)))]) hx hb dL_opened_92 hl (k := 6) rfl (rfl) (by decide) rfl (fun ls hl => ?_)
                  refine lv_goto (tgt := 10) hx hb dL_opened_95 (by decide) ?_
                  exact ih10 ((nI (z')) + -1) z' (nI (z')) _ _ _ (by omega) (by omega) (by have h9 := dec_I (x := z') (by omega); exact h9) (by first | exact OP_y hi2 (hal.elim (fun w => w.2) (fun w => absurd w.1 c86)) | exact OP_n hop (hal.elim (fun w => by have := w.1; omega) (fun w => w.2))) hP hD hS (lv_sub hl [1, 0, 4, 5, 6] rfl)
              · skip
                refine lv_iload hx hb dL_opened_42 (lv_at hl 0 rfl) ?_
                refine w_if_eq (x := al) hx hb dL_opened_44 (tgt := 84) (by decide) (by rcases hall with w | w <;> omega) (fun c44 => ?_) (fun c44 => ?_)
                · skip
                  have hal : (al = 1 ∧ opd (v 0 0) (gND (v 0)) (v 0 37) (lA (gKD (v 0))) (pA (gKD (v 0)) (gWT (v 0))) (ps (v 0 37) (v 1)) (gBT (v 0)) (gFG (v 0)) bt z') ∨ (al = 0 ∧ ¬ opd (v 0 0) (gND (v 0)) (v 0 37) (lA (gKD (v 0))) (pA (gKD (v 0)) (gWT (v 0))) (ps (v 0 37) (v 1)) (gBT (v 0)) (gFG (v 0)) bt z') := by
                    rcases hall with w | w
                    · exact Or.inl ⟨w.1, w.2.1, fun j hj => w.2.2 j (by first | (have := w.2.1; omega) | (have := w.1; omega))⟩
                    · exact Or.inr w
                  refine lv_iload hx hb dL_opened_84 (lv_at hl 0 rfl) ?_
                  refine w_if_eq (x := al) hx hb dL_opened_86 (tgt := 92) (by decide) (by rcases hall with w | w <;> omega) (fun c86 => ?_) (fun c86 => ?_)
                  · skip
                    refine lv_iinc (v := (nI (z')) + -1) (lv' := [(4, .int ((nI (z')) + -1)), (5, .int (nI (al))), (6, .int (nI (kk))), (0, .ref (a 0)), (1, .ref (a 1)), (2, .int (nI (bt))), (3, .int y)]) hx hb dL_opened_92 hl (k := 6) rfl (rfl) (by decide) rfl (fun ls hl => ?_)
                    refine lv_goto (tgt := 10) hx hb dL_opened_95 (by decide) ?_
                    exact ih10 ((nI (z')) + -1) z' y _ _ _ (by omega) (by omega) (by have h9 := dec_I (x := z') (by omega); exact h9) (by first | exact OP_y hi2 (hal.elim (fun w => w.2) (fun w => absurd w.1 c86)) | exact OP_n hop (hal.elim (fun w => by have := w.1; omega) (fun w => w.2))) hP hD hS (lv_sub hl [6, 0, 3, 4, 5] rfl)
                  · skip
                    refine lv_iload hx hb dL_opened_89 (lv_at hl 6 rfl) ?_
                    refine lv_istore_n (lv' := [(3, .int (nI (z'))), (5, .int (nI (al))), (6, .int (nI (kk))), (0, .ref (a 0)), (1, .ref (a 1)), (2, .int (nI (bt))), (4, .int (nI (z')))]) hx hb dL_opened_91 rfl hl (by decide) rfl (fun ls hl => ?_)
                    refine lv_iinc (v := (nI (z')) + -1) (lv' := [(4, .int ((nI (z')) + -1)), (3, .int (nI (z'))), (5, .int (nI (al))), (6, .int (nI (kk))), (0, .ref (a 0)), (1, .ref (a 1)), (2, .int (nI (bt)))]) hx hb dL_opened_92 hl (k := 6) rfl (rfl) (by decide) rfl (fun ls hl => ?_)
                    refine lv_goto (tgt := 10) hx hb dL_opened_95 (by decide) ?_
                    exact ih10 ((nI (z')) + -1) z' (nI (z')) _ _ _ (by omega) (by omega) (by have h9 := dec_I (x := z') (by omega); exact h9) (by first | exact OP_y hi2 (hal.elim (fun w => w.2) (fun w => absurd w.1 c86)) | exact OP_n hop (hal.elim (fun w => by have := w.1; omega) (fun w => w.2))) hP hD hS (lv_sub hl [1, 0, 4, 5, 6] rfl)
                · skip
                  have hal1 := hall.resolve_right (fun w => c44 w.1)
                  refine lv_aload_n hx hb dL_opened_47 rfl (lv_at hl 2 rfl) ?_
                  refine lv_aload_n hx hb dL_opened_48 rfl (lv_at hl 3 rfl) ?_
                  refine lv_iload hx hb dL_opened_49 (lv_at hl 1 rfl) ?_
                  refine lv_iconst (v := nI (0)) hx hb dL_opened_51 (by decide) ?_
                  have hk5 : kk ≤ 5 := by omega
                  refine w_cSi (rest := []) hx hb hml hown hts (k_felt0 l D a cI cJ cZ A v c kk  (by first | assumption | omega) (by first | assumption | omega) (by first | assumption | omega) (by exact hk5)) 4 gL_opened_L_felt rfl hdL_felt ⟨Nat.le_of_ble_eq_true rfl, Nat.le_of_ble_eq_true rfl⟩ hK hN hP hD hS hA rfl hl.1 rfl (Nat.le_of_ble_eq_true rfl) dL_opened_52 ⟨Nat.le_of_ble_eq_true rfl, Nat.le_of_ble_eq_true rfl⟩ (fun r u H locs hq hP hD hS => ?_)
                  obtain rfl := hq
                  have hP : va_P D vwCl (lfW a cI cJ cZ v c) H := hP
                  have hD : va_D A (lfW a cI cJ cZ v c) := hD
                  refine lv_aload_n hx hb dL_opened_55 rfl (lv_at hl 2 rfl) ?_
                  refine lv_bipush (v := nI (13)) hx hb dL_opened_56 (by decide) ?_
                  refine lv_bipush (v := nI (6)) hx hb dL_opened_58 (by decide) ?_
                  refine lv_iload hx hb dL_opened_60 (lv_at hl 6 rfl) ?_
                  refine w_imul (x := 6) (y := z') hx hb dL_opened_62  ?_
                  refine w_iadd (x := 13) (y := 6 * z') hx hb dL_opened_63  ?_
                  refine lv_iload hx hb dL_opened_64 (lv_at hl 1 rfl) ?_
                  refine w_iadd (x := 13 + (6 * z')) (y := kk) hx hb dL_opened_66  ?_
                  refine w_iald (f := v 0) hx hb hK hP 0 0 rfl rfl (i := 13 + (6 * z') + kk) (by omega) (by decide) dL_opened_67 ?_
                  have h16 := fE0_lt (p := v 1) (k := kk) g2
                  have hf9 := g7 z' kk hi2 (by have h9 := hal1.2.1; unfold gBT at h9; omega)
                  have hf8 := p2_16 g2
                  refine w_icmp_ne (x := fE0 ((v 0)) ((v 1)) kk) (y := v 0 (13 + (6 * z') + kk)) hx hb dL_opened_68 (tgt := 75) (by decide) (by omega) (by omega) (fun c68 => ?_) (fun c68 => ?_)
                  · skip
                    refine lv_iconst (v := nI (0)) hx hb dL_opened_75 (by decide) ?_
                    refine lv_istore (lv' := [(5, .int (nI (0))), (6, .int (nI (kk))), (0, .ref (a 0)), (1, .ref (a 1)), (2, .int (nI (bt))), (3, .int y), (4, .int (nI (z')))]) hx hb dL_opened_76 hl (by decide) rfl (fun ls hl => ?_)
                    refine lv_iinc (v := nI (kk + 1)) (lv' := [(6, .int (nI (kk + 1))), (5, .int (nI (0))), (0, .ref (a 0)), (1, .ref (a 1)), (2, .int (nI (bt))), (3, .int y), (4, .int (nI (z')))]) hx hb dL_opened_78 hl (k := 1) rfl (nI_add kk 1) (by decide) rfl (fun ls hl => ?_)
                    refine lv_goto (tgt := 36) hx hb dL_opened_81 (by decide) ?_
                    exact ih36 0 (kk + 1) _ _ _ (by omega) (by omega) (by first | exact Or.inl ⟨rfl, hal1.2.1, lt_s hal1.2.2 c68⟩ | exact Or.inr ⟨rfl, fun w => c68 (w.2 kk (by rw [hal1.2.1]; exact c39))⟩) hP hD hS (lv_sub hl [1, 0, 2, 3, 4, 5, 6] rfl)
                  · skip
                    refine lv_iconst (v := nI (1)) hx hb dL_opened_71 (by decide) ?_
                    refine lv_goto (tgt := 76) hx hb dL_opened_72 (by decide) ?_
                    refine lv_istore (lv' := [(5, .int (nI (1))), (6, .int (nI (kk))), (0, .ref (a 0)), (1, .ref (a 1)), (2, .int (nI (bt))), (3, .int y), (4, .int (nI (z')))]) hx hb dL_opened_76 hl (by decide) rfl (fun ls hl => ?_)
                    refine lv_iinc (v := nI (kk + 1)) (lv' := [(6, .int (nI (kk + 1))), (5, .int (nI (1))), (0, .ref (a 0)), (1, .ref (a 1)), (2, .int (nI (bt))), (3, .int y), (4, .int (nI (z')))]) hx hb dL_opened_78 hl (k := 1) rfl (nI_add kk 1) (by decide) rfl (fun ls hl => ?_)
                    refine lv_goto (tgt := 36) hx hb dL_opened_81 (by decide) ?_
                    exact ih36 1 (kk + 1) _ _ _ (by omega) (by omega) (by first | exact Or.inl ⟨rfl, hal1.2.1, lt_s hal1.2.2 c68⟩ | exact Or.inr ⟨rfl, fun w => c68 (w.2 kk (by rw [hal1.2.1]; exact c39))⟩) hP hD hS (lv_sub hl [1, 0, 2, 3, 4, 5, 6] rfl)
          refine lv_istore (lv' := [(5, .int (nI (0))), (3, .int y), (4, .int (nI (z'))), (0, .ref (a 0)), (1, .ref (a 1)), (2, .int (nI (bt)))]) hx hb dL_opened_31 hl (by decide) rfl (fun ls hl => ?_)
          refine lv_iconst (v := nI (0)) hx hb dL_opened_33 (by decide) ?_
          refine lv_istore (lv' := [(6, .int (nI (0))), (5, .int (nI (0))), (3, .int y), (4, .int (nI (z'))), (0, .ref (a 0)), (1, .ref (a 1)), (2, .int (nI (bt)))]) hx hb dL_opened_34 hl (by decide) rfl (fun ls hl => ?_)
          exact L36 ((bt - 0) + 1) 0 0 _ _ _ (Nat.lt_succ_self _) (by omega) (by first | exact Or.inl ⟨rfl, c23, fun j hj => absurd hj (Nat.not_lt_zero _)⟩ | exact Or.inr ⟨rfl, fun w => c23 w.1⟩) hP hD hS (lv_sub hl [1, 0, 4, 5, 6, 2, 3] rfl)
        · skip
          refine lv_iconst (v := nI (1)) hx hb dL_opened_26 (by decide) ?_
          refine lv_goto (tgt := 31) hx hb dL_opened_27 (by decide) ?_
          have L36 : ∀ (n : Nat) (al : Nat) (kk : Nat) (H : Heap) (locs : List Loc) (ls : Array Slot), bt - kk < n → (kk ≤ bt) → ((al = 1 ∧ gBT (v 0) z' = bt ∧ ∀ j, j < kk → fE0 (v 0) (v 1) j = gFG (v 0) z' j) ∨ (al = 0 ∧ ¬ opd (v 0 0) (gND (v 0)) (v 0 37) (lA (gKD (v 0))) (pA (gKD (v 0)) (gWT (v 0))) (ps (v 0 37) (v 1)) (gBT (v 0)) (gFG (v 0)) bt z')) → va_P D vwCl (lfW a cI cJ cZ v c) H → va_D A (lfW a cI cJ cZ v c) → va_S A s.heap H locs → lv_has ls 7 [(5, .int (nI (al))), (6, .int (nI (kk))), (0, .ref (a 0)), (1, .ref (a 1)), (2, .int (nI (bt))), (3, .int y), (4, .int (nI (z')))] → W p l e { frames := 1, cells := 0, slots := 0, locals := 28 } s m args below meth c0 H locs 0 0 Q (F0 m 36 ls []) := by
            intro n
            induction n with
            | zero => intro al kk H locs ls hm; exact absurd hm (Nat.not_lt_zero _)
            | succ n ih36 =>
              intro al kk H locs ls hm36 hk hall hP hD hS hl
              refine lv_iload hx hb dL_opened_36 (lv_at hl 1 rfl) ?_
              refine lv_iload_n hx hb dL_opened_38 rfl (lv_at hl 4 rfl) ?_
              refine w_icmp_ge (x := kk) (y := bt) hx hb dL_opened_39 (tgt := 84) (by decide) (by omega) (by omega) (fun c39 => ?_) (fun c39 => ?_)
              · skip
                have hal : (al = 1 ∧ opd (v 0 0) (gND (v 0)) (v 0 37) (lA (gKD (v 0))) (pA (gKD (v 0)) (gWT (v 0))) (ps (v 0 37) (v 1)) (gBT (v 0)) (gFG (v 0)) bt z') ∨ (al = 0 ∧ ¬ opd (v 0 0) (gND (v 0)) (v 0 37) (lA (gKD (v 0))) (pA (gKD (v 0)) (gWT (v 0))) (ps (v 0 37) (v 1)) (gBT (v 0)) (gFG (v 0)) bt z') := by
                  rcases hall with w | w
                  · exact Or.inl ⟨w.1, w.2.1, fun j hj => w.2.2 j (by first | (have := w.2.1; omega) | (have := w.1; omega))⟩
                  · exact Or.inr w
                refine lv_iload hx hb dL_opened_84 (lv_at hl 0 rfl) ?_
                refine w_if_eq (x := al) hx hb dL_opened_86 (tgt := 92) (by decide) (by rcases hall with w | w <;> omega) (fun c86 => ?_) (fun c86 => ?_)
                · skip
                  refine lv_iinc (v := (nI (z')) + -1) (lv' := [(4, .int ((nI (z')) + -1)), (5, .int (nI (al))), (6, .int (nI (kk))), (0, .ref (a 0)), (1, .ref (a 1)), (2, .int (nI (bt))), (3, .int y)]) hx hb dL_opened_92 hl (k := 6) rfl (rfl) (by decide) rfl (fun ls hl => ?_)
                  refine lv_goto (tgt := 10) hx hb dL_opened_95 (by decide) ?_
                  exact ih10 ((nI (z')) + -1) z' y _ _ _ (by omega) (by omega) (by have h9 := dec_I (x := z') (by omega); exact h9) (by first | exact OP_y hi2 (hal.elim (fun w => w.2) (fun w => absurd w.1 c86)) | exact OP_n hop (hal.elim (fun w => by have := w.1; omega) (fun w => w.2))) hP hD hS (lv_sub hl [6, 0, 3, 4, 5] rfl)
                · skip
                  refine lv_iload hx hb dL_opened_89 (lv_at hl 6 rfl) ?_
                  refine lv_istore_n (lv' := [(3, .int (nI (z'))), (5, .int (nI (al))), (6, .int (nI (kk))), (0, .ref (a 0)), (1, .ref (a 1)), (2, .int (nI (bt))), (4, .int (nI (z')))]) hx hb dL_opened_91 rfl hl (by decide) rfl (fun ls hl => ?_)
                  refine lv_iinc (v := (nI (z')) + -1) (lv' := [(4, .int ((nI (z')) + -1)), (3, .int (nI (z'))), (5, .int (nI (al))), (6, .int (nI (kk))), (0, .ref (a 0)), (1, .ref (a 1)), (2, .int (nI (bt)))]) hx hb dL_opened_92 hl (k := 6) rfl (rfl) (by decide) rfl (fun ls hl => ?_)
                  refine lv_goto (tgt := 10) hx hb dL_opened_95 (by decide) ?_
                  exact ih10 ((nI (z')) + -1) z' (nI (z')) _ _ _ (by omega) (by omega) (by have h9 := dec_I (x := z') (by omega); exact h9) (by first | exact OP_y hi2 (hal.elim (fun w => w.2) (fun w => absurd w.1 c86)) | exact OP_n hop (hal.elim (fun w => by have := w.1; omega) (fun w => w.2))) hP hD hS (lv_sub hl [1, 0, 4, 5, 6] rfl)
              · skip
                refine lv_iload hx hb dL_opened_42 (lv_at hl 0 rfl) ?_
                refine w_if_eq (x := al) hx hb dL_opened_44 (tgt := 84) (by decide) (by rcases hall with w | w <;> omega) (fun c44 => ?_) (fun c44 => ?_)
                · skip
                  have hal : (al = 1 ∧ opd (v 0 0) (gND (v 0)) (v 0 37) (lA (gKD (v 0))) (pA (gKD (v 0)) (gWT (v 0))) (ps (v 0 37) (v 1)) (gBT (v 0)) (gFG (v 0)) bt z') ∨ (al = 0 ∧ ¬ opd (v 0 0) (gND (v 0)) (v 0 37) (lA (gKD (v 0))) (pA (gKD (v 0)) (gWT (v 0))) (ps (v 0 37) (v 1)) (gBT (v 0)) (gFG (v 0)) bt z') := by
                    rcases hall with w | w
                    · exact Or.inl ⟨w.1, w.2.1, fun j hj => w.2.2 j (by first | (have := w.2.1; omega) | (have := w.1; omega))⟩
                    · exact Or.inr w
                  refine lv_iload hx hb dL_opened_84 (lv_at hl 0 rfl) ?_
                  refine w_if_eq (x := al) hx hb dL_opened_86 (tgt := 92) (by decide) (by rcases hall with w | w <;> omega) (fun c86 => ?_) (fun c86 => ?_)
                  · skip
                    refine lv_iinc (v := (nI (z')) + -1) (lv' := [(4, .int ((nI (z')) + -1)), (5, .int (nI (al))), (6, .int (nI (kk))), (0, .ref (a 0)), (1, .ref (a 1)), (2, .int (nI (bt))), (3, .int y)]) hx hb dL_opened_92 hl (k := 6) rfl (rfl) (by decide) rfl (fun ls hl => ?_)
                    refine lv_goto (tgt := 10) hx hb dL_opened_95 (by decide) ?_
                    exact ih10 ((nI (z')) + -1) z' y _ _ _ (by omega) (by omega) (by have h9 := dec_I (x := z') (by omega); exact h9) (by first | exact OP_y hi2 (hal.elim (fun w => w.2) (fun w => absurd w.1 c86)) | exact OP_n hop (hal.elim (fun w => by have := w.1; omega) (fun w => w.2))) hP hD hS (lv_sub hl [6, 0, 3, 4, 5] rfl)
                  · skip
                    refine lv_iload hx hb dL_opened_89 (lv_at hl 6 rfl) ?_
                    refine lv_istore_n (lv' := [(3, .int (nI (z'))), (5, .int (nI (al))), (6, .int (nI (kk))), (0, .ref (a 0)), (1, .ref (a 1)), (2, .int (nI (bt))), (4, .int (nI (z')))]) hx hb dL_opened_91 rfl hl (by decide) rfl (fun ls hl => ?_)
                    refine lv_iinc (v := (nI (z')) + -1) (lv' := [(4, .int ((nI (z')) + -1)), (3, .int (nI (z'))), (5, .int (nI (al))), (6, .int (nI (kk))), (0, .ref (a 0)), (1, .ref (a 1)), (2, .int (nI (bt)))]) hx hb dL_opened_92 hl (k := 6) rfl (rfl) (by decide) rfl (fun ls hl => ?_)
                    refine lv_goto (tgt := 10) hx hb dL_opened_95 (by decide) ?_
                    exact ih10 ((nI (z')) + -1) z' (nI (z')) _ _ _ (by omega) (by omega) (by have h9 := dec_I (x := z') (by omega); exact h9) (by first | exact OP_y hi2 (hal.elim (fun w => w.2) (fun w => absurd w.1 c86)) | exact OP_n hop (hal.elim (fun w => by have := w.1; omega) (fun w => w.2))) hP hD hS (lv_sub hl [1, 0, 4, 5, 6] rfl)
                · skip
                  have hal1 := hall.resolve_right (fun w => c44 w.1)
                  refine lv_aload_n hx hb dL_opened_47 rfl (lv_at hl 2 rfl) ?_
                  refine lv_aload_n hx hb dL_opened_48 rfl (lv_at hl 3 rfl) ?_
                  refine lv_iload hx hb dL_opened_49 (lv_at hl 1 rfl) ?_
                  refine lv_iconst (v := nI (0)) hx hb dL_opened_51 (by decide) ?_
                  have hk5 : kk ≤ 5 := by omega
                  refine w_cSi (rest := []) hx hb hml hown hts (k_felt0 l D a cI cJ cZ A v c kk  (by first | assumption | omega) (by first | assumption | omega) (by first | assumption | omega) (by exact hk5)) 4 gL_opened_L_felt rfl hdL_felt ⟨Nat.le_of_ble_eq_true rfl, Nat.le_of_ble_eq_true rfl⟩ hK hN hP hD hS hA rfl hl.1 rfl (Nat.le_of_ble_eq_true rfl) dL_opened_52 ⟨Nat.le_of_ble_eq_true rfl, Nat.le_of_ble_eq_true rfl⟩ (fun r u H locs hq hP hD hS => ?_)
                  obtain rfl := hq
                  have hP : va_P D vwCl (lfW a cI cJ cZ v c) H := hP
                  have hD : va_D A (lfW a cI cJ cZ v c) := hD
                  refine lv_aload_n hx hb dL_opened_55 rfl (lv_at hl 2 rfl) ?_
                  refine lv_bipush (v := nI (13)) hx hb dL_opened_56 (by decide) ?_
                  refine lv_bipush (v := nI (6)) hx hb dL_opened_58 (by decide) ?_
                  refine lv_iload hx hb dL_opened_60 (lv_at hl 6 rfl) ?_
                  refine w_imul (x := 6) (y := z') hx hb dL_opened_62  ?_
                  refine w_iadd (x := 13) (y := 6 * z') hx hb dL_opened_63  ?_
                  refine lv_iload hx hb dL_opened_64 (lv_at hl 1 rfl) ?_
                  refine w_iadd (x := 13 + (6 * z')) (y := kk) hx hb dL_opened_66  ?_
                  refine w_iald (f := v 0) hx hb hK hP 0 0 rfl rfl (i := 13 + (6 * z') + kk) (by omega) (by decide) dL_opened_67 ?_
                  have h16 := fE0_lt (p := v 1) (k := kk) g2
                  have hf9 := g7 z' kk hi2 (by have h9 := hal1.2.1; unfold gBT at h9; omega)
                  have hf8 := p2_16 g2
                  refine w_icmp_ne (x := fE0 ((v 0)) ((v 1)) kk) (y := v 0 (13 + (6 * z') + kk)) hx hb dL_opened_68 (tgt := 75) (by decide) (by omega) (by omega) (fun c68 => ?_) (fun c68 => ?_)
                  · skip
                    refine lv_iconst (v := nI (0)) hx hb dL_opened_75 (by decide) ?_
                    refine lv_istore (lv' := [(5, .int (nI (0))), (6, .int (nI (kk))), (0, .ref (a 0)), (1, .ref (a 1)), (2, .int (nI (bt))), (3, .int y), (4, .int (nI (z')))]) hx hb dL_opened_76 hl (by decide) rfl (fun ls hl => ?_)
                    refine lv_iinc (v := nI (kk + 1)) (lv' := [(6, .int (nI (kk + 1))), (5, .int (nI (0))), (0, .ref (a 0)), (1, .ref (a 1)), (2, .int (nI (bt))), (3, .int y), (4, .int (nI (z')))]) hx hb dL_opened_78 hl (k := 1) rfl (nI_add kk 1) (by decide) rfl (fun ls hl => ?_)
                    refine lv_goto (tgt := 36) hx hb dL_opened_81 (by decide) ?_
                    exact ih36 0 (kk + 1) _ _ _ (by omega) (by omega) (by first | exact Or.inl ⟨rfl, hal1.2.1, lt_s hal1.2.2 c68⟩ | exact Or.inr ⟨rfl, fun w => c68 (w.2 kk (by rw [hal1.2.1]; exact c39))⟩) hP hD hS (lv_sub hl [1, 0, 2, 3, 4, 5, 6] rfl)
                  · skip
                    refine lv_iconst (v := nI (1)) hx hb dL_opened_71 (by decide) ?_
                    refine lv_goto (tgt := 76) hx hb dL_opened_72 (by decide) ?_
                    refine lv_istore (lv' := [(5, .int (nI (1))), (6, .int (nI (kk))), (0, .ref (a 0)), (1, .ref (a 1)), (2, .int (nI (bt))), (3, .int y), (4, .int (nI (z')))]) hx hb dL_opened_76 hl (by decide) rfl (fun ls hl => ?_)
                    refine lv_iinc (v := nI (kk + 1)) (lv' := [(6, .int (nI (kk + 1))), (5, .int (nI (1))), (0, .ref (a 0)), (1, .ref (a 1)), (2, .int (nI (bt))), (3, .int y), (4, .int (nI (z')))]) hx hb dL_opened_78 hl (k := 1) rfl (nI_add kk 1) (by decide) rfl (fun ls hl => ?_)
                    refine lv_goto (tgt := 36) hx hb dL_opened_81 (by decide) ?_
                    exact ih36 1 (kk + 1) _ _ _ (by omega) (by omega) (by first | exact Or.inl ⟨rfl, hal1.2.1, lt_s hal1.2.2 c68⟩ | exact Or.inr ⟨rfl, fun w => c68 (w.2 kk (by rw [hal1.2.1]; exact c39))⟩) hP hD hS (lv_sub hl [1, 0, 2, 3, 4, 5, 6] rfl)
          refine lv_istore (lv' := [(5, .int (nI (1))), (3, .int y), (4, .int (nI (z'))), (0, .ref (a 0)), (1, .ref (a 1)), (2, .int (nI (bt)))]) hx hb dL_opened_31 hl (by decide) rfl (fun ls hl => ?_)
          refine lv_iconst (v := nI (0)) hx hb dL_opened_33 (by decide) ?_
          refine lv_istore (lv' := [(6, .int (nI (0))), (5, .int (nI (1))), (3, .int y), (4, .int (nI (z'))), (0, .ref (a 0)), (1, .ref (a 1)), (2, .int (nI (bt)))]) hx hb dL_opened_34 hl (by decide) rfl (fun ls hl => ?_)
          exact L36 ((bt - 0) + 1) 1 0 _ _ _ (Nat.lt_succ_self _) (by omega) (by first | exact Or.inl ⟨rfl, c23, fun j hj => absurd hj (Nat.not_lt_zero _)⟩ | exact Or.inr ⟨rfl, fun w => c23 w.1⟩) hP hD hS (lv_sub hl [1, 0, 4, 5, 6, 2, 3] rfl)
  exact L10 ((v 0 1) + 1) ((nI (v 0 1)) - (nI (1))) (v 0 1) (-9) _ _ _ (Nat.lt_succ_self _) (by omega) (by have h9 := pk_sub_toInt (a := v 0 1) (b := 1) (by omega) (by decide); omega) (by exact OP_0) hP hD hS (lv_sub hl [1, 0, 2, 3, 4] rfl)

