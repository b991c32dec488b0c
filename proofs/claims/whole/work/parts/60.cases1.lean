/-! ===== the law's calls ===== -/
set_option maxHeartbeats 4000000 in
set_option maxRecDepth 100000 in
theorem lc_9 {p : Program} {l : Launch} {e : Env} {s : State} {m : MethodId} {below : List Frame} {meth : Method} {c0 : Code} {H : Heap} {locs : List Loc} {Q : State → Prop} {ls : Array Slot} {D : va_G} {a bb : Nat → Nat} {cI cJ cZ : ClassId} {b L i : Nat} {xs : Nat → Int32} {v w : Nat → Nat → Nat} {c d : Nat → Nat → Int32}
    (hx : p.tables.exec = Jvm.exec) (hb : c0.code = cL_law) (hml : c0.maxLocals = 4) (hown : s.vm.findClass RL = some m.cls) (htl : ∀ w ∈ wsL_law, w.before #[Value.ref b] s = true) (hX : va_X b L xs s s.heap) (hbl : b < s.heap.size) (hK : va_K D vwCl (xT cI cJ cZ) s) (hN : gN s) (hiL : i + 6 ≤ L) (hL : L ≤ 3072)
    (hI : XI v) (hM : MI w d) (hR : ALK v c (vM w) (cM d)) (hP1 : va_P D vwCl (xW a cI cJ cZ v c) H) (hP2 : va_P D vwCl (mW bb cI cJ cZ w d) H) (hD : va_D (fun q : Nat => s.heap.size ≤ q) (xW a cI cJ cZ v c ++ mW bb cI cJ cZ w d)) (hS : va_S (fun q : Nat => s.heap.size ≤ q) s.heap H locs)
    (hl : lv_has ls 4 [(3, .int (nI (i))), (2, .ref (bb 0)), (1, .ref (a 0)), (0, .ref b)])
    (K : ∀ (v1 w1 : Nat → Nat → Nat) (c1 d1 : Nat → Nat → Int32) (H1 : Heap) (locs1 : List Loc), XI v1 → MI w1 d1 → ALK v1 c1 (vM w1) (cM d1) → va_P D vwCl (xW a cI cJ cZ v1 c1) H1 → va_P D vwCl (mW bb cI cJ cZ w1 d1) H1 → va_D (fun q : Nat => s.heap.size ≤ q) (xW a cI cJ cZ v1 c1 ++ mW bb cI cJ cZ w1 d1) → va_S (fun q : Nat => s.heap.size ≤ q) s.heap H1 locs1 → W p l e room_1 s m #[Value.ref b] below meth c0 H1 locs1 41 3466 Q (F0 m 1402 ls [])) : W p l e room_1 s m #[Value.ref b] below meth c0 H locs 41 3466 Q (F0 m 549 ls []) := by
  have hbA : ¬ (fun q : Nat => s.heap.size ≤ q) b := Nat.not_le.mpr hbl
  refine lv_aload_n hx hb dL_law_549 rfl (lv_at hl 2 rfl) ?_
  refine lv_aload_n hx hb dL_law_550 rfl (lv_at hl 3 rfl) ?_
  refine lv_iload_n hx hb dL_law_551 rfl (lv_at hl 0 rfl) ?_
  refine lv_iconst (v := nI 1) hx hb dL_law_552 (by decide) ?_
  refine w_iadd (x := i) (y := 1) hx hb dL_law_553 ?_
  refine l_sld (i := i) (k := 1) hx hb hX hbl hbA hS (by omega) hL dL_law_554 ?_
  refine lv_aload_n hx hb dL_law_555 rfl (lv_at hl 3 rfl) ?_
  refine lv_iload_n hx hb dL_law_556 rfl (lv_at hl 0 rfl) ?_
  refine lv_iconst (v := nI 2) hx hb dL_law_557 (by decide) ?_
  refine w_iadd (x := i) (y := 2) hx hb dL_law_558 ?_
  refine l_sld (i := i) (k := 2) hx hb hX hbl hbA hS (by omega) hL dL_law_559 ?_
  refine lv_aload_n hx hb dL_law_560 rfl (lv_at hl 3 rfl) ?_
  refine lv_iload_n hx hb dL_law_561 rfl (lv_at hl 0 rfl) ?_
  refine lv_iconst (v := nI 3) hx hb dL_law_562 (by decide) ?_
  refine w_iadd (x := i) (y := 3) hx hb dL_law_563 ?_
  refine l_sld (i := i) (k := 3) hx hb hX hbl hbA hS (by omega) hL dL_law_564 ?_
  refine lv_aload_n hx hb dL_law_565 rfl (lv_at hl 3 rfl) ?_
  refine lv_iload_n hx hb dL_law_566 rfl (lv_at hl 0 rfl) ?_
  refine lv_iconst (v := nI 4) hx hb dL_law_567 (by decide) ?_
  refine w_iadd (x := i) (y := 4) hx hb dL_law_568 ?_
  refine l_sld (i := i) (k := 4) hx hb hX hbl hbA hS (by omega) hL dL_law_569 ?_
  refine l_ci (rest := []) hx hb hml hown htl (t_wrong l D a cI cJ cZ (va_A (xW a cI cJ cZ v c) H.size) v c (xs (i + 1)) (xs (i + 2)) (xs (i + 3)) (xs (i + 4)) hI) 4 gL_law_X6_wrong rfl hdX6_wrong ⟨Nat.le_of_ble_eq_true rfl, Nat.le_of_ble_eq_true rfl⟩ hK hN hP1 hP2 hD hS (fun _ h => h) 0 6 rfl rfl rfl rfl hl.1 rfl (Nat.le_of_ble_eq_true rfl) dL_law_570 ⟨Nat.le_of_ble_eq_true rfl, Nat.le_of_ble_eq_true rfl⟩ (fun r1 u1 H locs hq1 hP1 hP2 hD hS => ?_)
  refine lv_aload_n hx hb dL_law_573 rfl (lv_at hl 1 rfl) ?_
  refine lv_aload_n hx hb dL_law_574 rfl (lv_at hl 3 rfl) ?_
  refine lv_iload_n hx hb dL_law_575 rfl (lv_at hl 0 rfl) ?_
  refine lv_iconst (v := nI 1) hx hb dL_law_576 (by decide) ?_
  refine w_iadd (x := i) (y := 1) hx hb dL_law_577 ?_
  refine l_sld (i := i) (k := 1) hx hb hX hbl hbA hS (by omega) hL dL_law_578 ?_
  refine lv_aload_n hx hb dL_law_579 rfl (lv_at hl 3 rfl) ?_
  refine lv_iload_n hx hb dL_law_580 rfl (lv_at hl 0 rfl) ?_
  refine lv_iconst (v := nI 2) hx hb dL_law_581 (by decide) ?_
  refine w_iadd (x := i) (y := 2) hx hb dL_law_582 ?_
  refine l_sld (i := i) (k := 2) hx hb hX hbl hbA hS (by omega) hL dL_law_583 ?_
  refine lv_aload_n hx hb dL_law_584 rfl (lv_at hl 3 rfl) ?_
  refine lv_iload_n hx hb dL_law_585 rfl (lv_at hl 0 rfl) ?_
  refine lv_iconst (v := nI 3) hx hb dL_law_586 (by decide) ?_
  refine w_iadd (x := i) (y := 3) hx hb dL_law_587 ?_
  refine l_sld (i := i) (k := 3) hx hb hX hbl hbA hS (by omega) hL dL_law_588 ?_
  refine lv_aload_n hx hb dL_law_589 rfl (lv_at hl 3 rfl) ?_
  refine lv_iload_n hx hb dL_law_590 rfl (lv_at hl 0 rfl) ?_
  refine lv_iconst (v := nI 4) hx hb dL_law_591 (by decide) ?_
  refine w_iadd (x := i) (y := 4) hx hb dL_law_592 ?_
  refine l_sld (i := i) (k := 4) hx hb hX hbl hbA hS (by omega) hL dL_law_593 ?_
  refine l_ci (rest := [.int r1]) hx hb hml hown htl (s_wrong l D bb cI cJ cZ (va_A (mW bb cI cJ cZ w d) H.size) w d (xs (i + 1)) (xs (i + 2)) (xs (i + 3)) (xs (i + 4)) hM) 4 gL_law_X7_wrong rfl hdX7_wrong ⟨Nat.le_of_ble_eq_true rfl, Nat.le_of_ble_eq_true rfl⟩ hK hN hP2 hP1 (j_sw hD) hS (fun _ h => h) 0 7 rfl rfl rfl rfl hl.1 rfl (Nat.le_of_ble_eq_true rfl) dL_law_594 ⟨Nat.le_of_ble_eq_true rfl, Nat.le_of_ble_eq_true rfl⟩ (fun r2 u2 H locs hq2 hP2 hP1 hD hS => ?_)
  have hD := j_sw hD
  refine lv_icmp_eq hx hb dL_law_597 (tgt := 1402) (by decide) (fun _ => ?_) (fun h9 => absurd (pr_wrong hI hM.1 hR hq1 hq2.2).1 h9)
  exact K u1.1 u2.1 u1.2 u2.2 H locs hq1.choose_spec.2.1 hq2.1 (pr_wrong hI hM.1 hR hq1 hq2.2).2 hP1 hP2 hD hS

set_option maxHeartbeats 4000000 in
set_option maxRecDepth 100000 in
theorem lc_10 {p : Program} {l : Launch} {e : Env} {s : State} {m : MethodId} {below : List Frame} {meth : Method} {c0 : Code} {H : Heap} {locs : List Loc} {Q : State → Prop} {ls : Array Slot} {D : va_G} {a bb : Nat → Nat} {cI cJ cZ : ClassId} {b L i : Nat} {xs : Nat → Int32} {v w : Nat → Nat → Nat} {c d : Nat → Nat → Int32}
    (hx : p.tables.exec = Jvm.exec) (hb : c0.code = cL_law) (hml : c0.maxLocals = 4) (hown : s.vm.findClass RL = some m.cls) (htl : ∀ w ∈ wsL_law, w.before #[Value.ref b] s = true) (hX : va_X b L xs s s.heap) (hbl : b < s.heap.size) (hK : va_K D vwCl (xT cI cJ cZ) s) (hN : gN s) (hiL : i + 6 ≤ L) (hL : L ≤ 3072)
    (hI : XI v) (hM : MI w d) (hR : ALK v c (vM w) (cM d)) (hP1 : va_P D vwCl (xW a cI cJ cZ v c) H) (hP2 : va_P D vwCl (mW bb cI cJ cZ w d) H) (hD : va_D (fun q : Nat => s.heap.size ≤ q) (xW a cI cJ cZ v c ++ mW bb cI cJ cZ w d)) (hS : va_S (fun q : Nat => s.heap.size ≤ q) s.heap H locs)
    (hl : lv_has ls 4 [(3, .int (nI (i))), (2, .ref (bb 0)), (1, .ref (a 0)), (0, .ref b)])
    (K : ∀ (v1 w1 : Nat → Nat → Nat) (c1 d1 : Nat → Nat → Int32) (H1 : Heap) (locs1 : List Loc), XI v1 → MI w1 d1 → ALK v1 c1 (vM w1) (cM d1) → va_P D vwCl (xW a cI cJ cZ v1 c1) H1 → va_P D vwCl (mW bb cI cJ cZ w1 d1) H1 → va_D (fun q : Nat => s.heap.size ≤ q) (xW a cI cJ cZ v1 c1 ++ mW bb cI cJ cZ w1 d1) → va_S (fun q : Nat => s.heap.size ≤ q) s.heap H1 locs1 → W p l e room_1 s m #[Value.ref b] below meth c0 H1 locs1 41 3466 Q (F0 m 1402 ls [])) : W p l e room_1 s m #[Value.ref b] below meth c0 H locs 41 3466 Q (F0 m 602 ls []) := by
  have hbA : ¬ (fun q : Nat => s.heap.size ≤ q) b := Nat.not_le.mpr hbl
  refine lv_aload_n hx hb dL_law_602 rfl (lv_at hl 2 rfl) ?_
  refine lv_aload_n hx hb dL_law_603 rfl (lv_at hl 3 rfl) ?_
  refine lv_iload_n hx hb dL_law_604 rfl (lv_at hl 0 rfl) ?_
  refine lv_iconst (v := nI 1) hx hb dL_law_605 (by decide) ?_
  refine w_iadd (x := i) (y := 1) hx hb dL_law_606 ?_
  refine l_sld (i := i) (k := 1) hx hb hX hbl hbA hS (by omega) hL dL_law_607 ?_
  refine l_ci (rest := []) hx hb hml hown htl (t_can l D a cI cJ cZ (va_A (xW a cI cJ cZ v c) H.size) v c (xs (i + 1)) hI) 1 gL_law_X6_can rfl hdX6_can ⟨Nat.le_of_ble_eq_true rfl, Nat.le_of_ble_eq_true rfl⟩ hK hN hP1 hP2 hD hS (fun _ h => h) 0 6 rfl rfl rfl rfl hl.1 rfl (Nat.le_of_ble_eq_true rfl) dL_law_608 ⟨Nat.le_of_ble_eq_true rfl, Nat.le_of_ble_eq_true rfl⟩ (fun r1 u1 H locs hq1 hP1 hP2 hD hS => ?_)
  refine lv_aload_n hx hb dL_law_611 rfl (lv_at hl 1 rfl) ?_
  refine lv_aload_n hx hb dL_law_612 rfl (lv_at hl 3 rfl) ?_
  refine lv_iload_n hx hb dL_law_613 rfl (lv_at hl 0 rfl) ?_
  refine lv_iconst (v := nI 1) hx hb dL_law_614 (by decide) ?_
  refine w_iadd (x := i) (y := 1) hx hb dL_law_615 ?_
  refine l_sld (i := i) (k := 1) hx hb hX hbl hbA hS (by omega) hL dL_law_616 ?_
  refine l_ci (rest := [.int r1]) hx hb hml hown htl (s_can l D bb cI cJ cZ (va_A (mW bb cI cJ cZ w d) H.size) w d (xs (i + 1)) hM) 1 gL_law_X7_can rfl hdX7_can ⟨Nat.le_of_ble_eq_true rfl, Nat.le_of_ble_eq_true rfl⟩ hK hN hP2 hP1 (j_sw hD) hS (fun _ h => h) 0 7 rfl rfl rfl rfl hl.1 rfl (Nat.le_of_ble_eq_true rfl) dL_law_617 ⟨Nat.le_of_ble_eq_true rfl, Nat.le_of_ble_eq_true rfl⟩ (fun r2 u2 H locs hq2 hP2 hP1 hD hS => ?_)
  have hD := j_sw hD
  refine lv_icmp_eq hx hb dL_law_620 (tgt := 1402) (by decide) (fun _ => ?_) (fun h9 => absurd (pr_can hI hM.1 hR hq1 hq2.2).1 h9)
  exact K u1.1 u2.1 u1.2 u2.2 H locs hq1.2.1 hq2.1 (pr_can hI hM.1 hR hq1 hq2.2).2 hP1 hP2 hD hS

set_option maxHeartbeats 4000000 in
set_option maxRecDepth 100000 in
theorem lc_11 {p : Program} {l : Launch} {e : Env} {s : State} {m : MethodId} {below : List Frame} {meth : Method} {c0 : Code} {H : Heap} {locs : List Loc} {Q : State → Prop} {ls : Array Slot} {D : va_G} {a bb : Nat → Nat} {cI cJ cZ : ClassId} {b L i : Nat} {xs : Nat → Int32} {v w : Nat → Nat → Nat} {c d : Nat → Nat → Int32}
    (hx : p.tables.exec = Jvm.exec) (hb : c0.code = cL_law) (hml : c0.maxLocals = 4) (hown : s.vm.findClass RL = some m.cls) (htl : ∀ w ∈ wsL_law, w.before #[Value.ref b] s = true) (hX : va_X b L xs s s.heap) (hbl : b < s.heap.size) (hK : va_K D vwCl (xT cI cJ cZ) s) (hN : gN s) (hiL : i + 6 ≤ L) (hL : L ≤ 3072)
    (hI : XI v) (hM : MI w d) (hR : ALK v c (vM w) (cM d)) (hP1 : va_P D vwCl (xW a cI cJ cZ v c) H) (hP2 : va_P D vwCl (mW bb cI cJ cZ w d) H) (hD : va_D (fun q : Nat => s.heap.size ≤ q) (xW a cI cJ cZ v c ++ mW bb cI cJ cZ w d)) (hS : va_S (fun q : Nat => s.heap.size ≤ q) s.heap H locs)
    (hl : lv_has ls 4 [(3, .int (nI (i))), (2, .ref (bb 0)), (1, .ref (a 0)), (0, .ref b)])
    (K : ∀ (v1 w1 : Nat → Nat → Nat) (c1 d1 : Nat → Nat → Int32) (H1 : Heap) (locs1 : List Loc), XI v1 → MI w1 d1 → ALK v1 c1 (vM w1) (cM d1) → va_P D vwCl (xW a cI cJ cZ v1 c1) H1 → va_P D vwCl (mW bb cI cJ cZ w1 d1) H1 → va_D (fun q : Nat => s.heap.size ≤ q) (xW a cI cJ cZ v1 c1 ++ mW bb cI cJ cZ w1 d1) → va_S (fun q : Nat => s.heap.size ≤ q) s.heap H1 locs1 → W p l e room_1 s m #[Value.ref b] below meth c0 H1 locs1 41 3466 Q (F0 m 1402 ls [])) : W p l e room_1 s m #[Value.ref b] below meth c0 H locs 41 3466 Q (F0 m 625 ls []) := by
  have hbA : ¬ (fun q : Nat => s.heap.size ≤ q) b := Nat.not_le.mpr hbl
  refine lv_aload_n hx hb dL_law_625 rfl (lv_at hl 2 rfl) ?_
  refine lv_aload_n hx hb dL_law_626 rfl (lv_at hl 3 rfl) ?_
  refine lv_iload_n hx hb dL_law_627 rfl (lv_at hl 0 rfl) ?_
  refine lv_iconst (v := nI 1) hx hb dL_law_628 (by decide) ?_
  refine w_iadd (x := i) (y := 1) hx hb dL_law_629 ?_
  refine l_sld (i := i) (k := 1) hx hb hX hbl hbA hS (by omega) hL dL_law_630 ?_
  refine lv_aload_n hx hb dL_law_631 rfl (lv_at hl 3 rfl) ?_
  refine lv_iload_n hx hb dL_law_632 rfl (lv_at hl 0 rfl) ?_
  refine lv_iconst (v := nI 2) hx hb dL_law_633 (by decide) ?_
  refine w_iadd (x := i) (y := 2) hx hb dL_law_634 ?_
  refine l_sld (i := i) (k := 2) hx hb hX hbl hbA hS (by omega) hL dL_law_635 ?_
  refine lv_aload_n hx hb dL_law_636 rfl (lv_at hl 3 rfl) ?_
  refine lv_iload_n hx hb dL_law_637 rfl (lv_at hl 0 rfl) ?_
  refine lv_iconst (v := nI 3) hx hb dL_law_638 (by decide) ?_
  refine w_iadd (x := i) (y := 3) hx hb dL_law_639 ?_
  refine l_sld (i := i) (k := 3) hx hb hX hbl hbA hS (by omega) hL dL_law_640 ?_
  refine l_ci (rest := []) hx hb hml hown htl (t_plan l D a cI cJ cZ (va_A (xW a cI cJ cZ v c) H.size) v c (xs (i + 1)) (xs (i + 2)) (xs (i + 3)) hI) 3 gL_law_X6_plan rfl hdX6_plan ⟨Nat.le_of_ble_eq_true rfl, Nat.le_of_ble_eq_true rfl⟩ hK hN hP1 hP2 hD hS (fun _ h => h) 0 6 rfl rfl rfl rfl hl.1 rfl (Nat.le_of_ble_eq_true rfl) dL_law_641 ⟨Nat.le_of_ble_eq_true rfl, Nat.le_of_ble_eq_true rfl⟩ (fun r1 u1 H locs hq1 hP1 hP2 hD hS => ?_)
  refine lv_aload_n hx hb dL_law_644 rfl (lv_at hl 1 rfl) ?_
  refine lv_aload_n hx hb dL_law_645 rfl (lv_at hl 3 rfl) ?_
  refine lv_iload_n hx hb dL_law_646 rfl (lv_at hl 0 rfl) ?_
  refine lv_iconst (v := nI 1) hx hb dL_law_647 (by decide) ?_
  refine w_iadd (x := i) (y := 1) hx hb dL_law_648 ?_
  refine l_sld (i := i) (k := 1) hx hb hX hbl hbA hS (by omega) hL dL_law_649 ?_
  refine lv_aload_n hx hb dL_law_650 rfl (lv_at hl 3 rfl) ?_
  refine lv_iload_n hx hb dL_law_651 rfl (lv_at hl 0 rfl) ?_
  refine lv_iconst (v := nI 2) hx hb dL_law_652 (by decide) ?_
  refine w_iadd (x := i) (y := 2) hx hb dL_law_653 ?_
  refine l_sld (i := i) (k := 2) hx hb hX hbl hbA hS (by omega) hL dL_law_654 ?_
  refine lv_aload_n hx hb dL_law_655 rfl (lv_at hl 3 rfl) ?_
  refine lv_iload_n hx hb dL_law_656 rfl (lv_at hl 0 rfl) ?_
  refine lv_iconst (v := nI 3) hx hb dL_law_657 (by decide) ?_
  refine w_iadd (x := i) (y := 3) hx hb dL_law_658 ?_
  refine l_sld (i := i) (k := 3) hx hb hX hbl hbA hS (by omega) hL dL_law_659 ?_
  refine l_ci (rest := [.int r1]) hx hb hml hown htl (s_plan l D bb cI cJ cZ (va_A (mW bb cI cJ cZ w d) H.size) w d (xs (i + 1)) (xs (i + 2)) (xs (i + 3)) hM) 3 gL_law_X7_plan rfl hdX7_plan ⟨Nat.le_of_ble_eq_true rfl, Nat.le_of_ble_eq_true rfl⟩ hK hN hP2 hP1 (j_sw hD) hS (fun _ h => h) 0 7 rfl rfl rfl rfl hl.1 rfl (Nat.le_of_ble_eq_true rfl) dL_law_660 ⟨Nat.le_of_ble_eq_true rfl, Nat.le_of_ble_eq_true rfl⟩ (fun r2 u2 H locs hq2 hP2 hP1 hD hS => ?_)
  have hD := j_sw hD
  refine lv_icmp_eq hx hb dL_law_663 (tgt := 1402) (by decide) (fun _ => ?_) (fun h9 => absurd (pr_plan hI hM.1 hR hq1 hq2.2).1 h9)
  exact K u1.1 u2.1 u1.2 u2.2 H locs hq1.2.1 hq2.1 (pr_plan hI hM.1 hR hq1 hq2.2).2 hP1 hP2 hD hS

set_option maxHeartbeats 4000000 in
set_option maxRecDepth 100000 in
theorem lc_12 {p : Program} {l : Launch} {e : Env} {s : State} {m : MethodId} {below : List Frame} {meth : Method} {c0 : Code} {H : Heap} {locs : List Loc} {Q : State → Prop} {ls : Array Slot} {D : va_G} {a bb : Nat → Nat} {cI cJ cZ : ClassId} {b L i : Nat} {xs : Nat → Int32} {v w : Nat → Nat → Nat} {c d : Nat → Nat → Int32}
    (hx : p.tables.exec = Jvm.exec) (hb : c0.code = cL_law) (hml : c0.maxLocals = 4) (hown : s.vm.findClass RL = some m.cls) (htl : ∀ w ∈ wsL_law, w.before #[Value.ref b] s = true) (hX : va_X b L xs s s.heap) (hbl : b < s.heap.size) (hK : va_K D vwCl (xT cI cJ cZ) s) (hN : gN s) (hiL : i + 6 ≤ L) (hL : L ≤ 3072)
    (hI : XI v) (hM : MI w d) (hR : ALK v c (vM w) (cM d)) (hP1 : va_P D vwCl (xW a cI cJ cZ v c) H) (hP2 : va_P D vwCl (mW bb cI cJ cZ w d) H) (hD : va_D (fun q : Nat => s.heap.size ≤ q) (xW a cI cJ cZ v c ++ mW bb cI cJ cZ w d)) (hS : va_S (fun q : Nat => s.heap.size ≤ q) s.heap H locs)
    (hl : lv_has ls 4 [(3, .int (nI (i))), (2, .ref (bb 0)), (1, .ref (a 0)), (0, .ref b)])
    (K : ∀ (v1 w1 : Nat → Nat → Nat) (c1 d1 : Nat → Nat → Int32) (H1 : Heap) (locs1 : List Loc), XI v1 → MI w1 d1 → ALK v1 c1 (vM w1) (cM d1) → va_P D vwCl (xW a cI cJ cZ v1 c1) H1 → va_P D vwCl (mW bb cI cJ cZ w1 d1) H1 → va_D (fun q : Nat => s.heap.size ≤ q) (xW a cI cJ cZ v1 c1 ++ mW bb cI cJ cZ w1 d1) → va_S (fun q : Nat => s.heap.size ≤ q) s.heap H1 locs1 → W p l e room_1 s m #[Value.ref b] below meth c0 H1 locs1 41 3466 Q (F0 m 1402 ls [])) : W p l e room_1 s m #[Value.ref b] below meth c0 H locs 41 3466 Q (F0 m 668 ls []) := by
  have hbA : ¬ (fun q : Nat => s.heap.size ≤ q) b := Nat.not_le.mpr hbl
  refine lv_aload_n hx hb dL_law_668 rfl (lv_at hl 2 rfl) ?_
  refine lv_aload_n hx hb dL_law_669 rfl (lv_at hl 3 rfl) ?_
  refine lv_iload_n hx hb dL_law_670 rfl (lv_at hl 0 rfl) ?_
  refine lv_iconst (v := nI 1) hx hb dL_law_671 (by decide) ?_
  refine w_iadd (x := i) (y := 1) hx hb dL_law_672 ?_
  refine l_sld (i := i) (k := 1) hx hb hX hbl hbA hS (by omega) hL dL_law_673 ?_
  refine l_ci (rest := []) hx hb hml hown htl (t_limped l D a cI cJ cZ (va_A (xW a cI cJ cZ v c) H.size) v c (xs (i + 1)) hI) 1 gL_law_X6_limped rfl hdX6_limped ⟨Nat.le_of_ble_eq_true rfl, Nat.le_of_ble_eq_true rfl⟩ hK hN hP1 hP2 hD hS (fun _ h => h) 0 6 rfl rfl rfl rfl hl.1 rfl (Nat.le_of_ble_eq_true rfl) dL_law_674 ⟨Nat.le_of_ble_eq_true rfl, Nat.le_of_ble_eq_true rfl⟩ (fun r1 u1 H locs hq1 hP1 hP2 hD hS => ?_)
  refine lv_aload_n hx hb dL_law_677 rfl (lv_at hl 1 rfl) ?_
  refine lv_aload_n hx hb dL_law_678 rfl (lv_at hl 3 rfl) ?_
  refine lv_iload_n hx hb dL_law_679 rfl (lv_at hl 0 rfl) ?_
  refine lv_iconst (v := nI 1) hx hb dL_law_680 (by decide) ?_
  refine w_iadd (x := i) (y := 1) hx hb dL_law_681 ?_
  refine l_sld (i := i) (k := 1) hx hb hX hbl hbA hS (by omega) hL dL_law_682 ?_
  refine l_ci (rest := [.int r1]) hx hb hml hown htl (s_limped l D bb cI cJ cZ (va_A (mW bb cI cJ cZ w d) H.size) w d (xs (i + 1)) hM) 1 gL_law_X7_limped rfl hdX7_limped ⟨Nat.le_of_ble_eq_true rfl, Nat.le_of_ble_eq_true rfl⟩ hK hN hP2 hP1 (j_sw hD) hS (fun _ h => h) 0 7 rfl rfl rfl rfl hl.1 rfl (Nat.le_of_ble_eq_true rfl) dL_law_683 ⟨Nat.le_of_ble_eq_true rfl, Nat.le_of_ble_eq_true rfl⟩ (fun r2 u2 H locs hq2 hP2 hP1 hD hS => ?_)
  have hD := j_sw hD
  refine lv_icmp_eq hx hb dL_law_686 (tgt := 1402) (by decide) (fun _ => ?_) (fun h9 => absurd (pr_limped hI hM.1 hR hq1 hq2.2).1 h9)
  exact K u1.1 u2.1 u1.2 u2.2 H locs hq1.2.1 hq2.1 (pr_limped hI hM.1 hR hq1 hq2.2).2 hP1 hP2 hD hS

set_option maxHeartbeats 4000000 in
set_option maxRecDepth 100000 in
theorem lc_13 {p : Program} {l : Launch} {e : Env} {s : State} {m : MethodId} {below : List Frame} {meth : Method} {c0 : Code} {H : Heap} {locs : List Loc} {Q : State → Prop} {ls : Array Slot} {D : va_G} {a bb : Nat → Nat} {cI cJ cZ : ClassId} {b L i : Nat} {xs : Nat → Int32} {v w : Nat → Nat → Nat} {c d : Nat → Nat → Int32}
    (hx : p.tables.exec = Jvm.exec) (hb : c0.code = cL_law) (hml : c0.maxLocals = 4) (hown : s.vm.findClass RL = some m.cls) (htl : ∀ w ∈ wsL_law, w.before #[Value.ref b] s = true) (hX : va_X b L xs s s.heap) (hbl : b < s.heap.size) (hK : va_K D vwCl (xT cI cJ cZ) s) (hN : gN s) (hiL : i + 6 ≤ L) (hL : L ≤ 3072)
    (hI : XI v) (hM : MI w d) (hR : ALK v c (vM w) (cM d)) (hP1 : va_P D vwCl (xW a cI cJ cZ v c) H) (hP2 : va_P D vwCl (mW bb cI cJ cZ w d) H) (hD : va_D (fun q : Nat => s.heap.size ≤ q) (xW a cI cJ cZ v c ++ mW bb cI cJ cZ w d)) (hS : va_S (fun q : Nat => s.heap.size ≤ q) s.heap H locs)
    (hl : lv_has ls 4 [(3, .int (nI (i))), (2, .ref (bb 0)), (1, .ref (a 0)), (0, .ref b)])
    (K : ∀ (v1 w1 : Nat → Nat → Nat) (c1 d1 : Nat → Nat → Int32) (H1 : Heap) (locs1 : List Loc), XI v1 → MI w1 d1 → ALK v1 c1 (vM w1) (cM d1) → va_P D vwCl (xW a cI cJ cZ v1 c1) H1 → va_P D vwCl (mW bb cI cJ cZ w1 d1) H1 → va_D (fun q : Nat => s.heap.size ≤ q) (xW a cI cJ cZ v1 c1 ++ mW bb cI cJ cZ w1 d1) → va_S (fun q : Nat => s.heap.size ≤ q) s.heap H1 locs1 → W p l e room_1 s m #[Value.ref b] below meth c0 H1 locs1 41 3466 Q (F0 m 1402 ls [])) : W p l e room_1 s m #[Value.ref b] below meth c0 H locs 41 3466 Q (F0 m 691 ls []) := by
  have hbA : ¬ (fun q : Nat => s.heap.size ≤ q) b := Nat.not_le.mpr hbl
  refine lv_aload_n hx hb dL_law_691 rfl (lv_at hl 2 rfl) ?_
  refine lv_aload_n hx hb dL_law_692 rfl (lv_at hl 3 rfl) ?_
  refine lv_iload_n hx hb dL_law_693 rfl (lv_at hl 0 rfl) ?_
  refine lv_iconst (v := nI 1) hx hb dL_law_694 (by decide) ?_
  refine w_iadd (x := i) (y := 1) hx hb dL_law_695 ?_
  refine l_sld (i := i) (k := 1) hx hb hX hbl hbA hS (by omega) hL dL_law_696 ?_
  refine l_ci (rest := []) hx hb hml hown htl (t_family l D a cI cJ cZ (va_A (xW a cI cJ cZ v c) H.size) v c (xs (i + 1)) hI) 1 gL_law_X6_family rfl hdX6_family ⟨Nat.le_of_ble_eq_true rfl, Nat.le_of_ble_eq_true rfl⟩ hK hN hP1 hP2 hD hS (fun _ h => h) 0 6 rfl rfl rfl rfl hl.1 rfl (Nat.le_of_ble_eq_true rfl) dL_law_697 ⟨Nat.le_of_ble_eq_true rfl, Nat.le_of_ble_eq_true rfl⟩ (fun r1 u1 H locs hq1 hP1 hP2 hD hS => ?_)
  refine lv_aload_n hx hb dL_law_700 rfl (lv_at hl 1 rfl) ?_
  refine lv_aload_n hx hb dL_law_701 rfl (lv_at hl 3 rfl) ?_
  refine lv_iload_n hx hb dL_law_702 rfl (lv_at hl 0 rfl) ?_
  refine lv_iconst (v := nI 1) hx hb dL_law_703 (by decide) ?_
  refine w_iadd (x := i) (y := 1) hx hb dL_law_704 ?_
  refine l_sld (i := i) (k := 1) hx hb hX hbl hbA hS (by omega) hL dL_law_705 ?_
  refine l_ci (rest := [.int r1]) hx hb hml hown htl (s_family l D bb cI cJ cZ (va_A (mW bb cI cJ cZ w d) H.size) w d (xs (i + 1)) hM) 1 gL_law_X7_family rfl hdX7_family ⟨Nat.le_of_ble_eq_true rfl, Nat.le_of_ble_eq_true rfl⟩ hK hN hP2 hP1 (j_sw hD) hS (fun _ h => h) 0 7 rfl rfl rfl rfl hl.1 rfl (Nat.le_of_ble_eq_true rfl) dL_law_706 ⟨Nat.le_of_ble_eq_true rfl, Nat.le_of_ble_eq_true rfl⟩ (fun r2 u2 H locs hq2 hP2 hP1 hD hS => ?_)
  have hD := j_sw hD
  refine lv_icmp_eq hx hb dL_law_709 (tgt := 1402) (by decide) (fun _ => ?_) (fun h9 => absurd (pr_family hI hM.1 hR hq1.2 hq2.2).1 h9)
  exact K u1.1 u2.1 u1.2 u2.2 H locs hq1.1 hq2.1 (pr_family hI hM.1 hR hq1.2 hq2.2).2 hP1 hP2 hD hS

set_option maxHeartbeats 4000000 in
set_option maxRecDepth 100000 in
theorem lc_14 {p : Program} {l : Launch} {e : Env} {s : State} {m : MethodId} {below : List Frame} {meth : Method} {c0 : Code} {H : Heap} {locs : List Loc} {Q : State → Prop} {ls : Array Slot} {D : va_G} {a bb : Nat → Nat} {cI cJ cZ : ClassId} {b L i : Nat} {xs : Nat → Int32} {v w : Nat → Nat → Nat} {c d : Nat → Nat → Int32}
    (hx : p.tables.exec = Jvm.exec) (hb : c0.code = cL_law) (hml : c0.maxLocals = 4) (hown : s.vm.findClass RL = some m.cls) (htl : ∀ w ∈ wsL_law, w.before #[Value.ref b] s = true) (hX : va_X b L xs s s.heap) (hbl : b < s.heap.size) (hK : va_K D vwCl (xT cI cJ cZ) s) (hN : gN s) (hiL : i + 6 ≤ L) (hL : L ≤ 3072)
    (hI : XI v) (hM : MI w d) (hR : ALK v c (vM w) (cM d)) (hP1 : va_P D vwCl (xW a cI cJ cZ v c) H) (hP2 : va_P D vwCl (mW bb cI cJ cZ w d) H) (hD : va_D (fun q : Nat => s.heap.size ≤ q) (xW a cI cJ cZ v c ++ mW bb cI cJ cZ w d)) (hS : va_S (fun q : Nat => s.heap.size ≤ q) s.heap H locs)
    (hl : lv_has ls 4 [(3, .int (nI (i))), (2, .ref (bb 0)), (1, .ref (a 0)), (0, .ref b)])
    (K : ∀ (v1 w1 : Nat → Nat → Nat) (c1 d1 : Nat → Nat → Int32) (H1 : Heap) (locs1 : List Loc), XI v1 → MI w1 d1 → ALK v1 c1 (vM w1) (cM d1) → va_P D vwCl (xW a cI cJ cZ v1 c1) H1 → va_P D vwCl (mW bb cI cJ cZ w1 d1) H1 → va_D (fun q : Nat => s.heap.size ≤ q) (xW a cI cJ cZ v1 c1 ++ mW bb cI cJ cZ w1 d1) → va_S (fun q : Nat => s.heap.size ≤ q) s.heap H1 locs1 → W p l e room_1 s m #[Value.ref b] below meth c0 H1 locs1 41 3466 Q (F0 m 1402 ls [])) : W p l e room_1 s m #[Value.ref b] below meth c0 H locs 41 3466 Q (F0 m 714 ls []) := by
  have hbA : ¬ (fun q : Nat => s.heap.size ≤ q) b := Nat.not_le.mpr hbl
  refine lv_aload_n hx hb dL_law_714 rfl (lv_at hl 2 rfl) ?_
  refine lv_aload_n hx hb dL_law_715 rfl (lv_at hl 3 rfl) ?_
  refine lv_iload_n hx hb dL_law_716 rfl (lv_at hl 0 rfl) ?_
  refine lv_iconst (v := nI 1) hx hb dL_law_717 (by decide) ?_
  refine w_iadd (x := i) (y := 1) hx hb dL_law_718 ?_
  refine l_sld (i := i) (k := 1) hx hb hX hbl hbA hS (by omega) hL dL_law_719 ?_
  refine l_ci (rest := []) hx hb hml hown htl (t_knows l D a cI cJ cZ (va_A (xW a cI cJ cZ v c) H.size) v c (xs (i + 1)) hI) 1 gL_law_X6_knows rfl hdX6_knows ⟨Nat.le_of_ble_eq_true rfl, Nat.le_of_ble_eq_true rfl⟩ hK hN hP1 hP2 hD hS (fun _ h => h) 0 6 rfl rfl rfl rfl hl.1 rfl (Nat.le_of_ble_eq_true rfl) dL_law_720 ⟨Nat.le_of_ble_eq_true rfl, Nat.le_of_ble_eq_true rfl⟩ (fun r1 u1 H locs hq1 hP1 hP2 hD hS => ?_)
  refine lv_aload_n hx hb dL_law_723 rfl (lv_at hl 1 rfl) ?_
  refine lv_aload_n hx hb dL_law_724 rfl (lv_at hl 3 rfl) ?_
  refine lv_iload_n hx hb dL_law_725 rfl (lv_at hl 0 rfl) ?_
  refine lv_iconst (v := nI 1) hx hb dL_law_726 (by decide) ?_
  refine w_iadd (x := i) (y := 1) hx hb dL_law_727 ?_
  refine l_sld (i := i) (k := 1) hx hb hX hbl hbA hS (by omega) hL dL_law_728 ?_
  refine l_ci (rest := [.int r1]) hx hb hml hown htl (s_knows l D bb cI cJ cZ (va_A (mW bb cI cJ cZ w d) H.size) w d (xs (i + 1)) hM) 1 gL_law_X7_knows rfl hdX7_knows ⟨Nat.le_of_ble_eq_true rfl, Nat.le_of_ble_eq_true rfl⟩ hK hN hP2 hP1 (j_sw hD) hS (fun _ h => h) 0 7 rfl rfl rfl rfl hl.1 rfl (Nat.le_of_ble_eq_true rfl) dL_law_729 ⟨Nat.le_of_ble_eq_true rfl, Nat.le_of_ble_eq_true rfl⟩ (fun r2 u2 H locs hq2 hP2 hP1 hD hS => ?_)
  have hD := j_sw hD
  refine lv_icmp_eq hx hb dL_law_732 (tgt := 1402) (by decide) (fun _ => ?_) (fun h9 => absurd (pr_knows hI hM.1 hR hq1 hq2) h9)
  exact K v w c d H locs hI hM hR hP1 hP2 hD hS

set_option maxHeartbeats 4000000 in
set_option maxRecDepth 100000 in
theorem lc_15 {p : Program} {l : Launch} {e : Env} {s : State} {m : MethodId} {below : List Frame} {meth : Method} {c0 : Code} {H : Heap} {locs : List Loc} {Q : State → Prop} {ls : Array Slot} {D : va_G} {a bb : Nat → Nat} {cI cJ cZ : ClassId} {b L i : Nat} {xs : Nat → Int32} {v w : Nat → Nat → Nat} {c d : Nat → Nat → Int32}
    (hx : p.tables.exec = Jvm.exec) (hb : c0.code = cL_law) (hml : c0.maxLocals = 4) (hown : s.vm.findClass RL = some m.cls) (htl : ∀ w ∈ wsL_law, w.before #[Value.ref b] s = true) (hX : va_X b L xs s s.heap) (hbl : b < s.heap.size) (hK : va_K D vwCl (xT cI cJ cZ) s) (hN : gN s) (hiL : i + 6 ≤ L) (hL : L ≤ 3072)
    (hI : XI v) (hM : MI w d) (hR : ALK v c (vM w) (cM d)) (hP1 : va_P D vwCl (xW a cI cJ cZ v c) H) (hP2 : va_P D vwCl (mW bb cI cJ cZ w d) H) (hD : va_D (fun q : Nat => s.heap.size ≤ q) (xW a cI cJ cZ v c ++ mW bb cI cJ cZ w d)) (hS : va_S (fun q : Nat => s.heap.size ≤ q) s.heap H locs)
    (hl : lv_has ls 4 [(3, .int (nI (i))), (2, .ref (bb 0)), (1, .ref (a 0)), (0, .ref b)])
    (K : ∀ (v1 w1 : Nat → Nat → Nat) (c1 d1 : Nat → Nat → Int32) (H1 : Heap) (locs1 : List Loc), XI v1 → MI w1 d1 → ALK v1 c1 (vM w1) (cM d1) → va_P D vwCl (xW a cI cJ cZ v1 c1) H1 → va_P D vwCl (mW bb cI cJ cZ w1 d1) H1 → va_D (fun q : Nat => s.heap.size ≤ q) (xW a cI cJ cZ v1 c1 ++ mW bb cI cJ cZ w1 d1) → va_S (fun q : Nat => s.heap.size ≤ q) s.heap H1 locs1 → W p l e room_1 s m #[Value.ref b] below meth c0 H1 locs1 41 3466 Q (F0 m 1402 ls [])) : W p l e room_1 s m #[Value.ref b] below meth c0 H locs 41 3466 Q (F0 m 737 ls []) := by
  have hbA : ¬ (fun q : Nat => s.heap.size ≤ q) b := Nat.not_le.mpr hbl
  refine lv_aload_n hx hb dL_law_737 rfl (lv_at hl 2 rfl) ?_
  refine lv_aload_n hx hb dL_law_738 rfl (lv_at hl 3 rfl) ?_
  refine lv_iload_n hx hb dL_law_739 rfl (lv_at hl 0 rfl) ?_
  refine lv_iconst (v := nI 1) hx hb dL_law_740 (by decide) ?_
  refine w_iadd (x := i) (y := 1) hx hb dL_law_741 ?_
  refine l_sld (i := i) (k := 1) hx hb hX hbl hbA hS (by omega) hL dL_law_742 ?_
  refine l_ci (rest := []) hx hb hml hown htl (t_fewest l D a cI cJ cZ (va_A (xW a cI cJ cZ v c) H.size) v c (xs (i + 1)) hI) 1 gL_law_X6_fewest rfl hdX6_fewest ⟨Nat.le_of_ble_eq_true rfl, Nat.le_of_ble_eq_true rfl⟩ hK hN hP1 hP2 hD hS (fun _ h => h) 0 6 rfl rfl rfl rfl hl.1 rfl (Nat.le_of_ble_eq_true rfl) dL_law_743 ⟨Nat.le_of_ble_eq_true rfl, Nat.le_of_ble_eq_true rfl⟩ (fun r1 u1 H locs hq1 hP1 hP2 hD hS => ?_)
  refine lv_aload_n hx hb dL_law_746 rfl (lv_at hl 1 rfl) ?_
  refine lv_aload_n hx hb dL_law_747 rfl (lv_at hl 3 rfl) ?_
  refine lv_iload_n hx hb dL_law_748 rfl (lv_at hl 0 rfl) ?_
  refine lv_iconst (v := nI 1) hx hb dL_law_749 (by decide) ?_
  refine w_iadd (x := i) (y := 1) hx hb dL_law_750 ?_
  refine l_sld (i := i) (k := 1) hx hb hX hbl hbA hS (by omega) hL dL_law_751 ?_
  refine l_ci (rest := [.int r1]) hx hb hml hown htl (s_fewest l D bb cI cJ cZ (va_A (mW bb cI cJ cZ w d) H.size) w d (xs (i + 1)) hM) 1 gL_law_X7_fewest rfl hdX7_fewest ⟨Nat.le_of_ble_eq_true rfl, Nat.le_of_ble_eq_true rfl⟩ hK hN hP2 hP1 (j_sw hD) hS (fun _ h => h) 0 7 rfl rfl rfl rfl hl.1 rfl (Nat.le_of_ble_eq_true rfl) dL_law_752 ⟨Nat.le_of_ble_eq_true rfl, Nat.le_of_ble_eq_true rfl⟩ (fun r2 u2 H locs hq2 hP2 hP1 hD hS => ?_)
  have hD := j_sw hD
  refine lv_icmp_eq hx hb dL_law_755 (tgt := 1402) (by decide) (fun _ => ?_) (fun h9 => absurd (pr_fewest hI hM.1 hR hq1 hq2) h9)
  exact K v w c d H locs hI hM hR hP1 hP2 hD hS

set_option maxHeartbeats 4000000 in
set_option maxRecDepth 100000 in
theorem lc_16 {p : Program} {l : Launch} {e : Env} {s : State} {m : MethodId} {below : List Frame} {meth : Method} {c0 : Code} {H : Heap} {locs : List Loc} {Q : State → Prop} {ls : Array Slot} {D : va_G} {a bb : Nat → Nat} {cI cJ cZ : ClassId} {b L i : Nat} {xs : Nat → Int32} {v w : Nat → Nat → Nat} {c d : Nat → Nat → Int32}
    (hx : p.tables.exec = Jvm.exec) (hb : c0.code = cL_law) (hml : c0.maxLocals = 4) (hown : s.vm.findClass RL = some m.cls) (htl : ∀ w ∈ wsL_law, w.before #[Value.ref b] s = true) (hX : va_X b L xs s s.heap) (hbl : b < s.heap.size) (hK : va_K D vwCl (xT cI cJ cZ) s) (hN : gN s) (hiL : i + 6 ≤ L) (hL : L ≤ 3072)
    (hI : XI v) (hM : MI w d) (hR : ALK v c (vM w) (cM d)) (hP1 : va_P D vwCl (xW a cI cJ cZ v c) H) (hP2 : va_P D vwCl (mW bb cI cJ cZ w d) H) (hD : va_D (fun q : Nat => s.heap.size ≤ q) (xW a cI cJ cZ v c ++ mW bb cI cJ cZ w d)) (hS : va_S (fun q : Nat => s.heap.size ≤ q) s.heap H locs)
    (hl : lv_has ls 4 [(3, .int (nI (i))), (2, .ref (bb 0)), (1, .ref (a 0)), (0, .ref b)])
    (K : ∀ (v1 w1 : Nat → Nat → Nat) (c1 d1 : Nat → Nat → Int32) (H1 : Heap) (locs1 : List Loc), XI v1 → MI w1 d1 → ALK v1 c1 (vM w1) (cM d1) → va_P D vwCl (xW a cI cJ cZ v1 c1) H1 → va_P D vwCl (mW bb cI cJ cZ w1 d1) H1 → va_D (fun q : Nat => s.heap.size ≤ q) (xW a cI cJ cZ v1 c1 ++ mW bb cI cJ cZ w1 d1) → va_S (fun q : Nat => s.heap.size ≤ q) s.heap H1 locs1 → W p l e room_1 s m #[Value.ref b] below meth c0 H1 locs1 41 3466 Q (F0 m 1402 ls [])) : W p l e room_1 s m #[Value.ref b] below meth c0 H locs 41 3466 Q (F0 m 760 ls []) := by
  have hbA : ¬ (fun q : Nat => s.heap.size ≤ q) b := Nat.not_le.mpr hbl
  refine lv_aload_n hx hb dL_law_760 rfl (lv_at hl 2 rfl) ?_
  refine lv_aload_n hx hb dL_law_761 rfl (lv_at hl 3 rfl) ?_
  refine lv_iload_n hx hb dL_law_762 rfl (lv_at hl 0 rfl) ?_
  refine lv_iconst (v := nI 1) hx hb dL_law_763 (by decide) ?_
  refine w_iadd (x := i) (y := 1) hx hb dL_law_764 ?_
  refine l_sld (i := i) (k := 1) hx hb hX hbl hbA hS (by omega) hL dL_law_765 ?_
  refine l_ci (rest := []) hx hb hml hown htl (t_any l D a cI cJ cZ (va_A (xW a cI cJ cZ v c) H.size) v c (xs (i + 1)) hI) 1 gL_law_X6_any rfl hdX6_any ⟨Nat.le_of_ble_eq_true rfl, Nat.le_of_ble_eq_true rfl⟩ hK hN hP1 hP2 hD hS (fun _ h => h) 0 6 rfl rfl rfl rfl hl.1 rfl (Nat.le_of_ble_eq_true rfl) dL_law_766 ⟨Nat.le_of_ble_eq_true rfl, Nat.le_of_ble_eq_true rfl⟩ (fun r1 u1 H locs hq1 hP1 hP2 hD hS => ?_)
  refine lv_aload_n hx hb dL_law_769 rfl (lv_at hl 1 rfl) ?_
  refine lv_aload_n hx hb dL_law_770 rfl (lv_at hl 3 rfl) ?_
  refine lv_iload_n hx hb dL_law_771 rfl (lv_at hl 0 rfl) ?_
  refine lv_iconst (v := nI 1) hx hb dL_law_772 (by decide) ?_
  refine w_iadd (x := i) (y := 1) hx hb dL_law_773 ?_
  refine l_sld (i := i) (k := 1) hx hb hX hbl hbA hS (by omega) hL dL_law_774 ?_
  refine l_ci (rest := [.int r1]) hx hb hml hown htl (s_any l D bb cI cJ cZ (va_A (mW bb cI cJ cZ w d) H.size) w d (xs (i + 1)) hM) 1 gL_law_X7_any rfl hdX7_any ⟨Nat.le_of_ble_eq_true rfl, Nat.le_of_ble_eq_true rfl⟩ hK hN hP2 hP1 (j_sw hD) hS (fun _ h => h) 0 7 rfl rfl rfl rfl hl.1 rfl (Nat.le_of_ble_eq_true rfl) dL_law_775 ⟨Nat.le_of_ble_eq_true rfl, Nat.le_of_ble_eq_true rfl⟩ (fun r2 u2 H locs hq2 hP2 hP1 hD hS => ?_)
  have hD := j_sw hD
  refine lv_icmp_eq hx hb dL_law_778 (tgt := 1402) (by decide) (fun _ => ?_) (fun h9 => absurd (pr_any hI hM.1 hR hq1 hq2) h9)
  exact K v w c d H locs hI hM hR hP1 hP2 hD hS

set_option maxHeartbeats 4000000 in
set_option maxRecDepth 100000 in
theorem lc_17 {p : Program} {l : Launch} {e : Env} {s : State} {m : MethodId} {below : List Frame} {meth : Method} {c0 : Code} {H : Heap} {locs : List Loc} {Q : State → Prop} {ls : Array Slot} {D : va_G} {a bb : Nat → Nat} {cI cJ cZ : ClassId} {b L i : Nat} {xs : Nat → Int32} {v w : Nat → Nat → Nat} {c d : Nat → Nat → Int32}
    (hx : p.tables.exec = Jvm.exec) (hb : c0.code = cL_law) (hml : c0.maxLocals = 4) (hown : s.vm.findClass RL = some m.cls) (htl : ∀ w ∈ wsL_law, w.before #[Value.ref b] s = true) (hX : va_X b L xs s s.heap) (hbl : b < s.heap.size) (hK : va_K D vwCl (xT cI cJ cZ) s) (hN : gN s) (hiL : i + 6 ≤ L) (hL : L ≤ 3072)
    (hI : XI v) (hM : MI w d) (hR : ALK v c (vM w) (cM d)) (hP1 : va_P D vwCl (xW a cI cJ cZ v c) H) (hP2 : va_P D vwCl (mW bb cI cJ cZ w d) H) (hD : va_D (fun q : Nat => s.heap.size ≤ q) (xW a cI cJ cZ v c ++ mW bb cI cJ cZ w d)) (hS : va_S (fun q : Nat => s.heap.size ≤ q) s.heap H locs)
    (hl : lv_has ls 4 [(3, .int (nI (i))), (2, .ref (bb 0)), (1, .ref (a 0)), (0, .ref b)])
    (K : ∀ (v1 w1 : Nat → Nat → Nat) (c1 d1 : Nat → Nat → Int32) (H1 : Heap) (locs1 : List Loc), XI v1 → MI w1 d1 → ALK v1 c1 (vM w1) (cM d1) → va_P D vwCl (xW a cI cJ cZ v1 c1) H1 → va_P D vwCl (mW bb cI cJ cZ w1 d1) H1 → va_D (fun q : Nat => s.heap.size ≤ q) (xW a cI cJ cZ v1 c1 ++ mW bb cI cJ cZ w1 d1) → va_S (fun q : Nat => s.heap.size ≤ q) s.heap H1 locs1 → W p l e room_1 s m #[Value.ref b] below meth c0 H1 locs1 41 3466 Q (F0 m 1402 ls [])) : W p l e room_1 s m #[Value.ref b] below meth c0 H locs 41 3466 Q (F0 m 783 ls []) := by
  have hbA : ¬ (fun q : Nat => s.heap.size ≤ q) b := Nat.not_le.mpr hbl
  refine lv_aload_n hx hb dL_law_783 rfl (lv_at hl 2 rfl) ?_
  refine lv_aload_n hx hb dL_law_784 rfl (lv_at hl 3 rfl) ?_
  refine lv_iload_n hx hb dL_law_785 rfl (lv_at hl 0 rfl) ?_
  refine lv_iconst (v := nI 1) hx hb dL_law_786 (by decide) ?_
  refine w_iadd (x := i) (y := 1) hx hb dL_law_787 ?_
  refine l_sld (i := i) (k := 1) hx hb hX hbl hbA hS (by omega) hL dL_law_788 ?_
  refine lv_aload_n hx hb dL_law_789 rfl (lv_at hl 3 rfl) ?_
  refine lv_iload_n hx hb dL_law_790 rfl (lv_at hl 0 rfl) ?_
  refine lv_iconst (v := nI 2) hx hb dL_law_791 (by decide) ?_
  refine w_iadd (x := i) (y := 2) hx hb dL_law_792 ?_
  refine l_sld (i := i) (k := 2) hx hb hX hbl hbA hS (by omega) hL dL_law_793 ?_
  refine l_ci (rest := []) hx hb hml hown htl (t_gone l D a cI cJ cZ (va_A (xW a cI cJ cZ v c) H.size) v c (xs (i + 1)) (xs (i + 2)) hI) 2 gL_law_X6_gone rfl hdX6_gone ⟨Nat.le_of_ble_eq_true rfl, Nat.le_of_ble_eq_true rfl⟩ hK hN hP1 hP2 hD hS (fun _ h => h) 0 6 rfl rfl rfl rfl hl.1 rfl (Nat.le_of_ble_eq_true rfl) dL_law_794 ⟨Nat.le_of_ble_eq_true rfl, Nat.le_of_ble_eq_true rfl⟩ (fun r1 u1 H locs hq1 hP1 hP2 hD hS => ?_)
  refine lv_aload_n hx hb dL_law_797 rfl (lv_at hl 1 rfl) ?_
  refine lv_aload_n hx hb dL_law_798 rfl (lv_at hl 3 rfl) ?_
  refine lv_iload_n hx hb dL_law_799 rfl (lv_at hl 0 rfl) ?_
  refine lv_iconst (v := nI 1) hx hb dL_law_800 (by decide) ?_
  refine w_iadd (x := i) (y := 1) hx hb dL_law_801 ?_
  refine l_sld (i := i) (k := 1) hx hb hX hbl hbA hS (by omega) hL dL_law_802 ?_
  refine lv_aload_n hx hb dL_law_803 rfl (lv_at hl 3 rfl) ?_
  refine lv_iload_n hx hb dL_law_804 rfl (lv_at hl 0 rfl) ?_
  refine lv_iconst (v := nI 2) hx hb dL_law_805 (by decide) ?_
  refine w_iadd (x := i) (y := 2) hx hb dL_law_806 ?_
  refine l_sld (i := i) (k := 2) hx hb hX hbl hbA hS (by omega) hL dL_law_807 ?_
  refine l_ci (rest := [.int r1]) hx hb hml hown htl (s_gone l D bb cI cJ cZ (va_A (mW bb cI cJ cZ w d) H.size) w d (xs (i + 1)) (xs (i + 2)) hM) 2 gL_law_X7_gone rfl hdX7_gone ⟨Nat.le_of_ble_eq_true rfl, Nat.le_of_ble_eq_true rfl⟩ hK hN hP2 hP1 (j_sw hD) hS (fun _ h => h) 0 7 rfl rfl rfl rfl hl.1 rfl (Nat.le_of_ble_eq_true rfl) dL_law_808 ⟨Nat.le_of_ble_eq_true rfl, Nat.le_of_ble_eq_true rfl⟩ (fun r2 u2 H locs hq2 hP2 hP1 hD hS => ?_)
  have hD := j_sw hD
  refine lv_icmp_eq hx hb dL_law_811 (tgt := 1402) (by decide) (fun _ => ?_) (fun h9 => absurd (pr_gone hI hM.1 hR hq1 hq2) h9)
  exact K v w c d H locs hI hM hR hP1 hP2 hD hS
