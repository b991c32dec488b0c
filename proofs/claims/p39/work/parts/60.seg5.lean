/-! ===== the law: doors danced, and limped ===== -/
set_option maxHeartbeats 8000000 in
set_option maxRecDepth 100000 in
theorem sg_5 {p : Program} {l : Launch} {e : Env} {s : State} {m : MethodId} {args : Array Value} {below : List Frame} {meth : Method} {c0 : Code} {H : Heap} {locs : List Loc} {Q : State → Prop} {ls : Array Slot} {D : va_G} {a : Nat → Nat} {cI cJ cZ : ClassId} {A : Nat → Prop} {b L : Nat} {xs : Nat → Int32} {v : Nat → Nat → Nat} {c : Nat → Nat → Int32} {w : Nat → Nat → Nat}
    (hx : p.tables.exec = Jvm.exec) (hb : c0.code = cL_law) (hml : c0.maxLocals = 19) (hown : s.vm.findClass RL = some m.cls) (hts : ∀ w ∈ wsL_law, w.before args s = true) (hK : va_K D vwCl (xT cI cJ cZ) s) (hN : gN s) (hA : ∀ q : Nat, s.heap.size ≤ q → A q) (hX : va_X b L xs s s.heap) (hbl : b < s.heap.size) (hbA : ¬ A b) (hL2 : L < 2147483648)
     (p1 p2 : Nat → Nat) (hI : XI v) (hgl : GL (w 30)) (hgd : GD (w 30)) (hAL : AL (w 30) v) (hc3 : c 2 3 = -1) (hp1 : ∀ q, q < 24 → p1 q < 8) (hp2 : ∀ q, q < 24 → p2 q < 8)
    (hP : va_P D vwCl (jW a cI cJ cZ v c (va_up (va_up w 31 (p1)) 32 (p2))) H) (hD : va_D A (jW a cI cJ cZ v c (va_up (va_up w 31 (p1)) 32 (p2)))) (hS : va_S A s.heap H locs) (hl : lv_has ls 19 [(0, .ref b), (1, .ref (a 0)), (2, .ref (a 30)), (4, .int (nI (w 30 37))), (5, .int (nI (w 30 0 ^ w 30 37))), (6, .ref (a 31)), (7, .ref (a 32))])
    (K : ∀ (v1 : Nat → Nat → Nat) (c1 : Nat → Nat → Int32) (p1 : Nat → Nat) (p2 : Nat → Nat) (H : Heap) (locs : List Loc) (ls : Array Slot), (XI v1) → (AL (w 30) v1) → (c1 2 3 = -1) → (∀ q, q < 24 → p1 q < 8) → va_P D vwCl (jW a cI cJ cZ v1 c1 (va_up (va_up w 31 (p1)) 32 (p2))) H → va_D A (jW a cI cJ cZ v1 c1 (va_up (va_up w 31 (p1)) 32 (p2))) → va_S A s.heap H locs → lv_has ls 19 [(0, .ref b), (1, .ref (a 0)), (2, .ref (a 30)), (4, .int (nI (w 30 37))), (5, .int (nI (w 30 0 ^ w 30 37))), (6, .ref (a 31))] → W p l e room_1 s m args below meth c0 H locs 29 706 Q (F0 m 771 ls [])) :
    W p l e room_1 s m args below meth c0 H locs 29 706 Q (F0 m 220 ls []) := by
  obtain ⟨⟨g1, g2⟩, ⟨g3, g4⟩, g5, g6, g7⟩ := id hgl
  obtain ⟨n1, n2⟩ := id hgd
  have hrw := rows_le g2 n1
  have g8 := p2_16 g2
  refine lv_iconst (v := nI (0)) hx hb dL_law_220 (by decide) ?_
  refine lv_istore (lv' := [(8, .int (nI (0))), (0, .ref b), (1, .ref (a 0)), (2, .ref (a 30)), (4, .int (nI (w 30 37))), (5, .int (nI (w 30 0 ^ w 30 37))), (6, .ref (a 31)), (7, .ref (a 32))]) hx hb dL_law_221 hl (by decide) rfl (fun ls hl => ?_)
  have L223 : ∀ (n : Nat) (v : Nat → Nat → Nat) (c : Nat → Nat → Int32) (wh : Nat) (p1 : Nat → Nat) (p2 : Nat → Nat) (H : Heap) (locs : List Loc) (ls : Array Slot), 2 - wh < n → (XI v) → (wh ≤ 2) → (AL (w 30) v) → (c 2 3 = -1) → (∀ q, q < 24 → p1 q < 8) → (∀ q, q < 24 → p2 q < 8) → va_P D vwCl (jW a cI cJ cZ v c (va_up (va_up w 31 (p1)) 32 (p2))) H → va_D A (jW a cI cJ cZ v c (va_up (va_up w 31 (p1)) 32 (p2))) → va_S A s.heap H locs → lv_has ls 19 [(8, .int (nI (wh))), (0, .ref b), (1, .ref (a 0)), (2, .ref (a 30)), (4, .int (nI (w 30 37))), (5, .int (nI (w 30 0 ^ w 30 37))), (6, .ref (a 31)), (7, .ref (a 32))] → W p l e room_1 s m args below meth c0 H locs 29 706 Q (F0 m 223 ls []) := by
    intro n
    induction n with
    | zero => intro v c wh p1 p2 H locs ls hm; exact absurd hm (Nat.not_lt_zero _)
    | succ n ih223 =>
      intro v c wh p1 p2 H locs ls hm223 hI hwh hAL hc3 hp1 hp2 hP hD hS hl
      refine lv_iload hx hb dL_law_223 (lv_at hl 0 rfl) ?_
      refine lv_iconst (v := nI (2)) hx hb dL_law_225 (by decide) ?_
      refine w_icmp_ge (x := wh) (y := 2) hx hb dL_law_226 (tgt := 771) (by decide) (by omega) (by omega) (fun c226 => ?_) (fun c226 => ?_)
      · skip
        exact K v c p1 p2 _ _ _ (by exact hI) (by exact hAL) (by exact hc3) (by exact hp1) hP hD hS (lv_sub hl [1, 2, 3, 4, 5, 6] rfl)
      · skip
        refine lv_iconst (v := nI (0)) hx hb dL_law_229 (by decide) ?_
        refine lv_istore (lv' := [(9, .int (nI (0))), (8, .int (nI (wh))), (0, .ref b), (1, .ref (a 0)), (2, .ref (a 30)), (4, .int (nI (w 30 37))), (5, .int (nI (w 30 0 ^ w 30 37))), (6, .ref (a 31)), (7, .ref (a 32))]) hx hb dL_law_230 hl (by decide) rfl (fun ls hl => ?_)
        have L232 : ∀ (n : Nat) (v : Nat → Nat → Nat) (c : Nat → Nat → Int32) (dd : Nat) (p1 : Nat → Nat) (p2 : Nat → Nat) (H : Heap) (locs : List Loc) (ls : Array Slot), w 30 1 - dd < n → (XI v) → (dd ≤ w 30 1) → (AL (w 30) v) → (c 2 3 = -1) → (∀ q, q < 24 → p1 q < 8) → (∀ q, q < 24 → p2 q < 8) → va_P D vwCl (jW a cI cJ cZ v c (va_up (va_up w 31 (p1)) 32 (p2))) H → va_D A (jW a cI cJ cZ v c (va_up (va_up w 31 (p1)) 32 (p2))) → va_S A s.heap H locs → lv_has ls 19 [(9, .int (nI (dd))), (0, .ref b), (1, .ref (a 0)), (2, .ref (a 30)), (4, .int (nI (w 30 37))), (5, .int (nI (w 30 0 ^ w 30 37))), (6, .ref (a 31)), (7, .ref (a 32)), (8, .int (nI (wh)))] → W p l e room_1 s m args below meth c0 H locs 29 706 Q (F0 m 232 ls []) := by
          intro n
          induction n with
          | zero => intro v c dd p1 p2 H locs ls hm; exact absurd hm (Nat.not_lt_zero _)
          | succ n ih232 =>
            intro v c dd p1 p2 H locs ls hm232 hI hdd hAL hc3 hp1 hp2 hP hD hS hl
            refine lv_iload hx hb dL_law_232 (lv_at hl 0 rfl) ?_
            refine lv_aload_n hx hb dL_law_234 rfl (lv_at hl 3 rfl) ?_
            refine lv_iconst (v := nI (1)) hx hb dL_law_235 (by decide) ?_
            refine w_iald (f := w 30) hx hb hK hP 26 0 rfl rfl (i := 1) (by first | omega | (have h9 := Nat.mul_le_mul n1 (show k ≤ 5 by omega); omega) | (have h9 := Nat.mul_le_mul n1 (show k + 1 ≤ 5 by omega); rw [Nat.mul_succ] at h9; omega) | (have h9 := Nat.mul_le_mul n1 (show k2 ≤ 5 by omega); omega)) (by decide) dL_law_236 ?_
            refine w_icmp_ge (x := dd) (y := w 30 1) hx hb dL_law_237 (tgt := 765) (by decide) (by omega) (by omega) (fun c237 => ?_) (fun c237 => ?_)
            · skip
              refine lv_iinc (v := nI (wh + 1)) (lv' := [(8, .int (nI (wh + 1))), (9, .int (nI (dd))), (0, .ref b), (1, .ref (a 0)), (2, .ref (a 30)), (4, .int (nI (w 30 37))), (5, .int (nI (w 30 0 ^ w 30 37))), (6, .ref (a 31)), (7, .ref (a 32))]) hx hb dL_law_765 hl (k := 8) rfl (nI_add wh 1) (by decide) rfl (fun ls hl => ?_)
              refine lv_goto (tgt := 223) hx hb dL_law_768 (by decide) ?_
              exact ih223 v c (wh + 1) p1 p2 _ _ _ (by omega) (by exact hI) (by omega) (by exact hAL) (by exact hc3) (by exact hp1) (by exact hp2) hP hD hS (lv_sub hl [0, 2, 3, 4, 5, 6, 7, 8] rfl)
            · skip
              have hdd2 : dd < w 30 1 := c237
              have hbd := g6 dd hdd2
              refine lv_iconst (v := nI (1)) hx hb dL_law_240 (by decide) ?_
              refine lv_istore (lv' := [(10, .int (nI (1))), (9, .int (nI (dd))), (0, .ref b), (1, .ref (a 0)), (2, .ref (a 30)), (4, .int (nI (w 30 37))), (5, .int (nI (w 30 0 ^ w 30 37))), (6, .ref (a 31)), (7, .ref (a 32)), (8, .int (nI (wh)))]) hx hb dL_law_241 hl (by decide) rfl (fun ls hl => ?_)
              have L625 : ∀ (can : Nat) (p1 : Nat → Nat) (p2 : Nat → Nat) (H : Heap) (locs : List Loc) (ls : Array Slot), ((can = 1 ∧ planY (w 30 0) (gND (w 30)) (w 30 37) (liw (w 30) wh) (pw (w 30) wh) (gBT (w 30)) (gFG (w 30)) dd (ps (w 30 37) p2)) ∨ (can = 0 ∧ planN (w 30 0) (gND (w 30)) (w 30 37) (liw (w 30) wh) (pw (w 30) wh) (gBT (w 30)) (gFG (w 30)) dd)) → (∀ q, q < 24 → p1 q < 8) → (∀ q, q < 24 → p2 q < 8) → va_P D vwCl (jW a cI cJ cZ v c (va_up (va_up w 31 (p1)) 32 (p2))) H → va_D A (jW a cI cJ cZ v c (va_up (va_up w 31 (p1)) 32 (p2))) → va_S A s.heap H locs → lv_has ls 19 [(10, .int (nI (can))), (0, .ref b), (1, .ref (a 0)), (2, .ref (a 30)), (4, .int (nI (w 30 37))), (5, .int (nI (w 30 0 ^ w 30 37))), (6, .ref (a 31)), (7, .ref (a 32)), (8, .int (nI (wh))), (9, .int (nI (dd)))] → W p l e room_1 s m args below meth c0 H locs 29 706 Q (F0 m 625 ls []) := by
                intro can p1 p2 H locs ls hfin hp1 hp2 hP hD hS hl
                refine lv_iload hx hb dL_law_625 (lv_at hl 8 rfl) ?_
                refine lv_iconst (v := nI (1)) hx hb dL_law_627 (by decide) ?_
                refine w_icmp_ne (x := wh) (y := 1) hx hb dL_law_628 (tgt := 665) (by decide) (by omega) (by omega) (fun c628 => ?_) (fun c628 => ?_)
                · skip
                  have ewh : wh = 0 := by omega
                  rw [ewh] at hfin
                  refine lv_aload_n hx hb dL_law_665 rfl (lv_at hl 2 rfl) ?_
                  refine lv_iload hx hb dL_law_666 (lv_at hl 9 rfl) ?_
                  refine l_ciJ (W1 := (xW a cI cJ cZ v c)) (W2 := (lA3 a cI (va_up (va_up w 31 (p1)) 32 (p2)))) (rest := []) hx hb hml hown hts (t_can l D a cI cJ cZ (va_A (xW a cI cJ cZ v c) H.size) v c (nI (dd)) hI) 1 gL_law_X6_can rfl hdX6_can ⟨Nat.le_of_ble_eq_true rfl, Nat.le_of_ble_eq_true rfl⟩ hK hN hP hD hS hA 0 6 rfl rfl rfl rfl hl.1 rfl (Nat.le_of_ble_eq_true rfl) dL_law_668 ⟨Nat.le_of_ble_eq_true rfl, Nat.le_of_ble_eq_true rfl⟩ (fun r_668 u H locs hq_668 hP hD hS => ?_)
                  obtain ⟨v_668, c_668⟩ := u
                  have hX_668 : XS v c (v_668, c_668) _ := hq_668.2
                  have hI_668 : XI v_668 := hX_668.1
                  have hP : va_P D vwCl (jW a cI cJ cZ v_668 c_668 (va_up (va_up w 31 (p1)) 32 (p2))) H := hP
                  have hD : va_D A (jW a cI cJ cZ v_668 c_668 (va_up (va_up w 31 (p1)) 32 (p2))) := hD
                  refine lv_iload hx hb dL_law_671 (lv_at hl 0 rfl) ?_
                  refine w_if_eq (x := can) hx hb dL_law_673 (tgt := 680) (by decide) (by rcases hfin with t | t <;> omega) (fun c673 => ?_) (fun c673 => ?_)
                  · skip
                    refine lv_iconst (v := nI (0)) hx hb dL_law_680 (by decide) ?_
                    refine lv_icmp_eq (x := r_668) (y := nI (0)) hx hb dL_law_681 (tgt := 686) (by decide) (fun c681 => ?_) (fun c681 => absurd c681 (by first | exact fun t => t (can_y hI hAL hdd2 hq_668.1 (hfin.elim (fun u => u.2) (fun u => absurd u.1 c673))) | exact fun t => t (can_n hI hAL hdd2 hq_668.1 (hfin.elim (fun u => absurd u.1 (by omega)) (fun u => u.2)))))
                    refine lv_iconst (v := nI (0)) hx hb dL_law_686 (by decide) ?_
                    refine lv_istore (lv' := [(11, .int (nI (0))), (10, .int (nI (can))), (0, .ref b), (1, .ref (a 0)), (2, .ref (a 30)), (4, .int (nI (w 30 37))), (5, .int (nI (w 30 0 ^ w 30 37))), (6, .ref (a 31)), (7, .ref (a 32)), (8, .int (nI (wh))), (9, .int (nI (dd)))]) hx hb dL_law_687 hl (by decide) rfl (fun ls hl => ?_)
                    have L689 : ∀ (n : Nat) (v : Nat → Nat → Nat) (c : Nat → Nat → Int32) (k2 : Nat) (H : Heap) (locs : List Loc) (ls : Array Slot), w 30 (9 + dd) - k2 < n → (XI v) → (k2 ≤ w 30 (9 + dd)) → (AL (w 30) v) → (c 2 3 = -1) → va_P D vwCl (jW a cI cJ cZ v c (va_up (va_up w 31 (p1)) 32 (p2))) H → va_D A (jW a cI cJ cZ v c (va_up (va_up w 31 (p1)) 32 (p2))) → va_S A s.heap H locs → lv_has ls 19 [(11, .int (nI (k2))), (0, .ref b), (1, .ref (a 0)), (2, .ref (a 30)), (4, .int (nI (w 30 37))), (5, .int (nI (w 30 0 ^ w 30 37))), (6, .ref (a 31)), (7, .ref (a 32)), (8, .int (nI (wh))), (9, .int (nI (dd))), (10, .int (nI (can)))] → W p l e room_1 s m args below meth c0 H locs 29 706 Q (F0 m 689 ls []) := by
                      intro n
                      induction n with
                      | zero => intro v c k2 H locs ls hm; exact absurd hm (Nat.not_lt_zero _)
                      | succ n ih689 =>
                        intro v c k2 H locs ls hm689 hI hk2 hAL hc3 hP hD hS hl
                        refine lv_iload hx hb dL_law_689 (lv_at hl 0 rfl) ?_
                        refine lv_aload_n hx hb dL_law_691 rfl (lv_at hl 3 rfl) ?_
                        refine lv_bipush (v := nI (9)) hx hb dL_law_692 (by decide) ?_
                        refine lv_iload hx hb dL_law_694 (lv_at hl 9 rfl) ?_
                        refine w_iadd (x := 9) (y := dd) hx hb dL_law_696  ?_
                        refine w_iald (f := w 30) hx hb hK hP 26 0 rfl rfl (i := 9 + dd) (by first | omega | (have h9 := Nat.mul_le_mul n1 (show k ≤ 5 by omega); omega) | (have h9 := Nat.mul_le_mul n1 (show k + 1 ≤ 5 by omega); rw [Nat.mul_succ] at h9; omega) | (have h9 := Nat.mul_le_mul n1 (show k2 ≤ 5 by omega); omega)) (by decide) dL_law_697 ?_
                        refine w_icmp_ge (x := k2) (y := w 30 (9 + dd)) hx hb dL_law_698 (tgt := 759) (by decide) (by omega) (by omega) (fun c698 => ?_) (fun c698 => ?_)
                        · skip
                          refine lv_iinc (v := nI (dd + 1)) (lv' := [(9, .int (nI (dd + 1))), (11, .int (nI (k2))), (0, .ref b), (1, .ref (a 0)), (2, .ref (a 30)), (4, .int (nI (w 30 37))), (5, .int (nI (w 30 0 ^ w 30 37))), (6, .ref (a 31)), (7, .ref (a 32)), (8, .int (nI (wh))), (10, .int (nI (can)))]) hx hb dL_law_759 hl (k := 9) rfl (nI_add dd 1) (by decide) rfl (fun ls hl => ?_)
                          refine lv_goto (tgt := 232) hx hb dL_law_762 (by decide) ?_
                          exact ih232 v c (dd + 1) p1 p2 _ _ _ (by omega) (by exact hI) (by omega) (by first | exact AL_xs hAL hX_634 | exact hAL) (by first | exact (congrFun (XS_c hX_634).1 3).trans hc3 | exact hc3) (by exact hp1) (by exact hp2) hP hD hS (lv_sub hl [0, 2, 3, 4, 5, 6, 7, 8, 9] rfl)
                        · skip
                          refine lv_iconst (v := nI (0)) hx hb dL_law_701 (by decide) ?_
                          refine lv_istore (lv' := [(12, .int (nI (0))), (11, .int (nI (k2))), (0, .ref b), (1, .ref (a 0)), (2, .ref (a 30)), (4, .int (nI (w 30 37))), (5, .int (nI (w 30 0 ^ w 30 37))), (6, .ref (a 31)), (7, .ref (a 32)), (8, .int (nI (wh))), (9, .int (nI (dd))), (10, .int (nI (can)))]) hx hb dL_law_702 hl (by decide) rfl (fun ls hl => ?_)
                          have L704 : ∀ (n : Nat) (v : Nat → Nat → Nat) (c : Nat → Nat → Int32) (d2 : Nat) (H : Heap) (locs : List Loc) (ls : Array Slot), w 30 37 - d2 < n → (XI v) → (d2 ≤ w 30 37) → (AL (w 30) v) → (c 2 3 = -1) → va_P D vwCl (jW a cI cJ cZ v c (va_up (va_up w 31 (p1)) 32 (p2))) H → va_D A (jW a cI cJ cZ v c (va_up (va_up w 31 (p1)) 32 (p2))) → va_S A s.heap H locs → lv_has ls 19 [(12, .int (nI (d2))), (0, .ref b), (1, .ref (a 0)), (2, .ref (a 30)), (4, .int (nI (w 30 37))), (5, .int (nI (w 30 0 ^ w 30 37))), (6, .ref (a 31)), (7, .ref (a 32)), (8, .int (nI (wh))), (9, .int (nI (dd))), (10, .int (nI (can))), (11, .int (nI (k2)))] → W p l e room_1 s m args below meth c0 H locs 29 706 Q (F0 m 704 ls []) := by
                            intro n
                            induction n with
                            | zero => intro v c d2 H locs ls hm; exact absurd hm (Nat.not_lt_zero _)
                            | succ n ih704 =>
                              intro v c d2 H locs ls hm704 hI hd2 hAL hc3 hP hD hS hl
                              refine lv_iload hx hb dL_law_704 (lv_at hl 0 rfl) ?_
                              refine lv_iload hx hb dL_law_706 (lv_at hl 4 rfl) ?_
                              refine w_icmp_ge (x := d2) (y := w 30 37) hx hb dL_law_708 (tgt := 753) (by decide) (by omega) (by omega) (fun c708 => ?_) (fun c708 => ?_)
                              · skip
                                refine lv_iinc (v := nI (k2 + 1)) (lv' := [(11, .int (nI (k2 + 1))), (12, .int (nI (d2))), (0, .ref b), (1, .ref (a 0)), (2, .ref (a 30)), (4, .int (nI (w 30 37))), (5, .int (nI (w 30 0 ^ w 30 37))), (6, .ref (a 31)), (7, .ref (a 32)), (8, .int (nI (wh))), (9, .int (nI (dd))), (10, .int (nI (can)))]) hx hb dL_law_753 hl (k := 11) rfl (nI_add k2 1) (by decide) rfl (fun ls hl => ?_)
                                refine lv_goto (tgt := 689) hx hb dL_law_756 (by decide) ?_
                                exact ih689 v c (k2 + 1) _ _ _ (by omega) (by exact hI) (by omega) (by exact hAL) (by exact hc3) hP hD hS (lv_sub hl [0, 2, 3, 4, 5, 6, 7, 8, 9, 10, 11] rfl)
                              · skip
                                refine lv_aload_n hx hb dL_law_711 rfl (lv_at hl 2 rfl) ?_
                                refine lv_iload hx hb dL_law_712 (lv_at hl 9 rfl) ?_
                                refine lv_iload hx hb dL_law_714 (lv_at hl 11 rfl) ?_
                                refine lv_iload hx hb dL_law_716 (lv_at hl 0 rfl) ?_
                                refine l_ciJ (W1 := (xW a cI cJ cZ v c)) (W2 := (lA3 a cI (va_up (va_up w 31 (p1)) 32 (p2)))) (rest := []) hx hb hml hown hts (t_plan l D a cI cJ cZ (va_A (xW a cI cJ cZ v c) H.size) v c (nI (dd)) (nI (k2)) (nI (d2)) hI) 3 gL_law_X6_plan rfl hdX6_plan ⟨Nat.le_of_ble_eq_true rfl, Nat.le_of_ble_eq_true rfl⟩ hK hN hP hD hS hA 0 6 rfl rfl rfl rfl hl.1 rfl (Nat.le_of_ble_eq_true rfl) dL_law_718 ⟨Nat.le_of_ble_eq_true rfl, Nat.le_of_ble_eq_true rfl⟩ (fun r_718 u H locs hq_718 hP hD hS => ?_)
                                obtain ⟨v_718, c_718⟩ := u
                                have hX_718 : XS v c (v_718, c_718) _ := hq_718.2
                                have hI_718 : XI v_718 := hX_718.1
                                have hP : va_P D vwCl (jW a cI cJ cZ v_718 c_718 (va_up (va_up w 31 (p1)) 32 (p2))) H := hP
                                have hD : va_D A (jW a cI cJ cZ v_718 c_718 (va_up (va_up w 31 (p1)) 32 (p2))) := hD
                                refine lv_iload hx hb dL_law_721 (lv_at hl 10 rfl) ?_
                                refine w_if_eq (x := can) hx hb dL_law_723 (tgt := 740) (by decide) (by rcases hfin with t | t <;> omega) (fun c723 => ?_) (fun c723 => ?_)
                                · skip
                                  refine lv_bipush (v := -9) hx hb dL_law_740 (by decide) ?_
                                  refine lv_icmp_eq (x := r_718) (y := (-9)) hx hb dL_law_742 (tgt := 747) (by decide) (fun c742 => ?_) (fun c742 => absurd c742 (by first | exact fun t => t ((plan_y hI hAL hdd2 c698 c708 hq_718.1 (hfin.elim (fun u => u.2) (fun u => absurd u.1 c723))).trans (by rw [ps_at (by omega)])) | exact fun t => t (plan_n hI hAL hdd2 c698 c708 hq_718.1 (hfin.elim (fun u => absurd u.1 (by omega)) (fun u => u.2)))))
                                  refine lv_iinc (v := nI (d2 + 1)) (lv' := [(12, .int (nI (d2 + 1))), (0, .ref b), (1, .ref (a 0)), (2, .ref (a 30)), (4, .int (nI (w 30 37))), (5, .int (nI (w 30 0 ^ w 30 37))), (6, .ref (a 31)), (7, .ref (a 32)), (8, .int (nI (wh))), (9, .int (nI (dd))), (10, .int (nI (can))), (11, .int (nI (k2)))]) hx hb dL_law_747 hl (k := 0) rfl (nI_add d2 1) (by decide) rfl (fun ls hl => ?_)
                                  refine lv_goto (tgt := 704) hx hb dL_law_750 (by decide) ?_
                                  exact ih704 v_718 c_718 (d2 + 1) _ _ _ (by omega) (by exact hI_718) (by omega) (by exact AL_xs hAL hX_718) (by exact (congrFun (XS_c hX_718).1 3).trans hc3) hP hD hS (lv_sub hl [0, 1, 2, 3, 4, 5, 6, 7, 8, 9, 10, 11] rfl)
                                · skip
                                  refine lv_aload hx hb dL_law_726 (lv_at hl 7 rfl) ?_
                                  refine lv_iload hx hb dL_law_728 (lv_at hl 4 rfl) ?_
                                  refine lv_iload hx hb dL_law_730 (lv_at hl 11 rfl) ?_
                                  refine w_imul (x := w 30 37) (y := k2) hx hb dL_law_732  ?_
                                  refine lv_iload hx hb dL_law_733 (lv_at hl 0 rfl) ?_
                                  refine w_iadd (x := (w 30 37) * k2) (y := d2) hx hb dL_law_735  ?_
                                  refine w_iald (f := p2) hx hb hK hP 28 0 rfl rfl (i := (w 30 37) * k2 + d2) (by first | omega | (have h9 := Nat.mul_le_mul n1 (show k ≤ 5 by omega); omega) | (have h9 := Nat.mul_le_mul n1 (show k + 1 ≤ 5 by omega); rw [Nat.mul_succ] at h9; omega) | (have h9 := Nat.mul_le_mul n1 (show k2 ≤ 5 by omega); omega)) (by decide) dL_law_736 ?_
                                  refine lv_goto (tgt := 742) hx hb dL_law_737 (by decide) ?_
                                  refine lv_icmp_eq (x := r_718) (y := nI (p2 ((w 30 37) * k2 + d2))) hx hb dL_law_742 (tgt := 747) (by decide) (fun c742 => ?_) (fun c742 => absurd c742 (by first | exact fun t => t ((plan_y hI hAL hdd2 c698 c708 hq_718.1 (hfin.elim (fun u => u.2) (fun u => absurd u.1 c723))).trans (by rw [ps_at (by omega)])) | exact fun t => t (plan_n hI hAL hdd2 c698 c708 hq_718.1 (hfin.elim (fun u => absurd u.1 (by omega)) (fun u => u.2)))))
                                  refine lv_iinc (v := nI (d2 + 1)) (lv' := [(12, .int (nI (d2 + 1))), (0, .ref b), (1, .ref (a 0)), (2, .ref (a 30)), (4, .int (nI (w 30 37))), (5, .int (nI (w 30 0 ^ w 30 37))), (6, .ref (a 31)), (7, .ref (a 32)), (8, .int (nI (wh))), (9, .int (nI (dd))), (10, .int (nI (can))), (11, .int (nI (k2)))]) hx hb dL_law_747 hl (k := 0) rfl (nI_add d2 1) (by decide) rfl (fun ls hl => ?_)
                                  refine lv_goto (tgt := 704) hx hb dL_law_750 (by decide) ?_
                                  exact ih704 v_718 c_718 (d2 + 1) _ _ _ (by omega) (by exact hI_718) (by omega) (by exact AL_xs hAL hX_718) (by exact (congrFun (XS_c hX_718).1 3).trans hc3) hP hD hS (lv_sub hl [0, 1, 2, 3, 4, 5, 6, 7, 8, 9, 10, 11] rfl)
                          exact L704 ((w 30 37 - 0) + 1) v c 0 _ _ _ (Nat.lt_succ_self _) (by exact hI) (by omega) (by exact hAL) (by exact hc3) hP hD hS (lv_sub hl [0, 2, 3, 4, 5, 6, 7, 8, 9, 10, 11, 1] rfl)
                    exact L689 ((w 30 (9 + dd) - 0) + 1) v_668 c_668 0 _ _ _ (Nat.lt_succ_self _) (by exact hI_668) (by omega) (by exact AL_xs hAL hX_668) (by exact (congrFun (XS_c hX_668).1 3).trans hc3) hP hD hS (lv_sub hl [0, 2, 3, 4, 5, 6, 7, 8, 9, 10, 1] rfl)
                  · skip
                    refine lv_iconst (v := nI (1)) hx hb dL_law_676 (by decide) ?_
                    refine lv_goto (tgt := 681) hx hb dL_law_677 (by decide) ?_
                    refine lv_icmp_eq (x := r_668) (y := nI (1)) hx hb dL_law_681 (tgt := 686) (by decide) (fun c681 => ?_) (fun c681 => absurd c681 (by first | exact fun t => t (can_y hI hAL hdd2 hq_668.1 (hfin.elim (fun u => u.2) (fun u => absurd u.1 c673))) | exact fun t => t (can_n hI hAL hdd2 hq_668.1 (hfin.elim (fun u => absurd u.1 (by omega)) (fun u => u.2)))))
                    refine lv_iconst (v := nI (0)) hx hb dL_law_686 (by decide) ?_
                    refine lv_istore (lv' := [(11, .int (nI (0))), (10, .int (nI (can))), (0, .ref b), (1, .ref (a 0)), (2, .ref (a 30)), (4, .int (nI (w 30 37))), (5, .int (nI (w 30 0 ^ w 30 37))), (6, .ref (a 31)), (7, .ref (a 32)), (8, .int (nI (wh))), (9, .int (nI (dd)))]) hx hb dL_law_687 hl (by decide) rfl (fun ls hl => ?_)
                    have L689 : ∀ (n : Nat) (v : Nat → Nat → Nat) (c : Nat → Nat → Int32) (k2 : Nat) (H : Heap) (locs : List Loc) (ls : Array Slot), w 30 (9 + dd) - k2 < n → (XI v) → (k2 ≤ w 30 (9 + dd)) → (AL (w 30) v) → (c 2 3 = -1) → va_P D vwCl (jW a cI cJ cZ v c (va_up (va_up w 31 (p1)) 32 (p2))) H → va_D A (jW a cI cJ cZ v c (va_up (va_up w 31 (p1)) 32 (p2))) → va_S A s.heap H locs → lv_has ls 19 [(11, .int (nI (k2))), (0, .ref b), (1, .ref (a 0)), (2, .ref (a 30)), (4, .int (nI (w 30 37))), (5, .int (nI (w 30 0 ^ w 30 37))), (6, .ref (a 31)), (7, .ref (a 32)), (8, .int (nI (wh))), (9, .int (nI (dd))), (10, .int (nI (can)))] → W p l e room_1 s m args below meth c0 H locs 29 706 Q (F0 m 689 ls []) := by
                      intro n
                      induction n with
                      | zero => intro v c k2 H locs ls hm; exact absurd hm (Nat.not_lt_zero _)
                      | succ n ih689 =>
                        intro v c k2 H locs ls hm689 hI hk2 hAL hc3 hP hD hS hl
                        refine lv_iload hx hb dL_law_689 (lv_at hl 0 rfl) ?_
                        refine lv_aload_n hx hb dL_law_691 rfl (lv_at hl 3 rfl) ?_
                        refine lv_bipush (v := nI (9)) hx hb dL_law_692 (by decide) ?_
                        refine lv_iload hx hb dL_law_694 (lv_at hl 9 rfl) ?_
                        refine w_iadd (x := 9) (y := dd) hx hb dL_law_696  ?_
                        refine w_iald (f := w 30) hx hb hK hP 26 0 rfl rfl (i := 9 + dd) (by first | omega | (have h9 := Nat.mul_le_mul n1 (show k ≤ 5 by omega); omega) | (have h9 := Nat.mul_le_mul n1 (show k + 1 ≤ 5 by omega); rw [Nat.mul_succ] at h9; omega) | (have h9 := Nat.mul_le_mul n1 (show k2 ≤ 5 by omega); omega)) (by decide) dL_law_697 ?_
                        refine w_icmp_ge (x := k2) (y := w 30 (9 + dd)) hx hb dL_law_698 (tgt := 759) (by decide) (by omega) (by omega) (fun c698 => ?_) (fun c698 => ?_)
                        · skip
                          refine lv_iinc (v := nI (dd + 1)) (lv' := [(9, .int (nI (dd + 1))), (11, .int (nI (k2))), (0, .ref b), (1, .ref (a 0)), (2, .ref (a 30)), (4, .int (nI (w 30 37))), (5, .int (nI (w 30 0 ^ w 30 37))), (6, .ref (a 31)), (7, .ref (a 32)), (8, .int (nI (wh))), (10, .int (nI (can)))]) hx hb dL_law_759 hl (k := 9) rfl (nI_add dd 1) (by decide) rfl (fun ls hl => ?_)
                          refine lv_goto (tgt := 232) hx hb dL_law_762 (by decide) ?_
                          exact ih232 v c (dd + 1) p1 p2 _ _ _ (by omega) (by exact hI) (by omega) (by first | exact AL_xs hAL hX_634 | exact hAL) (by first | exact (congrFun (XS_c hX_634).1 3).trans hc3 | exact hc3) (by exact hp1) (by exact hp2) hP hD hS (lv_sub hl [0, 2, 3, 4, 5, 6, 7, 8, 9] rfl)
                        · skip
                          refine lv_iconst (v := nI (0)) hx hb dL_law_701 (by decide) ?_
                          refine lv_istore (lv' := [(12, .int (nI (0))), (11, .int (nI (k2))), (0, .ref b), (1, .ref (a 0)), (2, .ref (a 30)), (4, .int (nI (w 30 37))), (5, .int (nI (w 30 0 ^ w 30 37))), (6, .ref (a 31)), (7, .ref (a 32)), (8, .int (nI (wh))), (9, .int (nI (dd))), (10, .int (nI (can)))]) hx hb dL_law_702 hl (by decide) rfl (fun ls hl => ?_)
                          have L704 : ∀ (n : Nat) (v : Nat → Nat → Nat) (c : Nat → Nat → Int32) (d2 : Nat) (H : Heap) (locs : List Loc) (ls : Array Slot), w 30 37 - d2 < n → (XI v) → (d2 ≤ w 30 37) → (AL (w 30) v) → (c 2 3 = -1) → va_P D vwCl (jW a cI cJ cZ v c (va_up (va_up w 31 (p1)) 32 (p2))) H → va_D A (jW a cI cJ cZ v c (va_up (va_up w 31 (p1)) 32 (p2))) → va_S A s.heap H locs → lv_has ls 19 [(12, .int (nI (d2))), (0, .ref b), (1, .ref (a 0)), (2, .ref (a 30)), (4, .int (nI (w 30 37))), (5, .int (nI (w 30 0 ^ w 30 37))), (6, .ref (a 31)), (7, .ref (a 32)), (8, .int (nI (wh))), (9, .int (nI (dd))), (10, .int (nI (can))), (11, .int (nI (k2)))] → W p l e room_1 s m args below meth c0 H locs 29 706 Q (F0 m 704 ls []) := by
                            intro n
                            induction n with
                            | zero => intro v c d2 H locs ls hm; exact absurd hm (Nat.not_lt_zero _)
                            | succ n ih704 =>
                              intro v c d2 H locs ls hm704 hI hd2 hAL hc3 hP hD hS hl
                              refine lv_iload hx hb dL_law_704 (lv_at hl 0 rfl) ?_
                              refine lv_iload hx hb dL_law_706 (lv_at hl 4 rfl) ?_
                              refine w_icmp_ge (x := d2) (y := w 30 37) hx hb dL_law_708 (tgt := 753) (by decide) (by omega) (by omega) (fun c708 => ?_) (fun c708 => ?_)
                              · skip
                                refine lv_iinc (v := nI (k2 + 1)) (lv' := [(11, .int (nI (k2 + 1))), (12, .int (nI (d2))), (0, .ref b), (1, .ref (a 0)), (2, .ref (a 30)), (4, .int (nI (w 30 37))), (5, .int (nI (w 30 0 ^ w 30 37))), (6, .ref (a 31)), (7, .ref (a 32)), (8, .int (nI (wh))), (9, .int (nI (dd))), (10, .int (nI (can)))]) hx hb dL_law_753 hl (k := 11) rfl (nI_add k2 1) (by decide) rfl (fun ls hl => ?_)
                                refine lv_goto (tgt := 689) hx hb dL_law_756 (by decide) ?_
                                exact ih689 v c (k2 + 1) _ _ _ (by omega) (by exact hI) (by omega) (by exact hAL) (by exact hc3) hP hD hS (lv_sub hl [0, 2, 3, 4, 5, 6, 7, 8, 9, 10, 11] rfl)
                              · skip
                                refine lv_aload_n hx hb dL_law_711 rfl (lv_at hl 2 rfl) ?_
                                refine lv_iload hx hb dL_law_712 (lv_at hl 9 rfl) ?_
                                refine lv_iload hx hb dL_law_714 (lv_at hl 11 rfl) ?_
                                refine lv_iload hx hb dL_law_716 (lv_at hl 0 rfl) ?_
                                refine l_ciJ (W1 := (xW a cI cJ cZ v c)) (W2 := (lA3 a cI (va_up (va_up w 31 (p1)) 32 (p2)))) (rest := []) hx hb hml hown hts (t_plan l D a cI cJ cZ (va_A (xW a cI cJ cZ v c) H.size) v c (nI (dd)) (nI (k2)) (nI (d2)) hI) 3 gL_law_X6_plan rfl hdX6_plan ⟨Nat.le_of_ble_eq_true rfl, Nat.le_of_ble_eq_true rfl⟩ hK hN hP hD hS hA 0 6 rfl rfl rfl rfl hl.1 rfl (Nat.le_of_ble_eq_true rfl) dL_law_718 ⟨Nat.le_of_ble_eq_true rfl, Nat.le_of_ble_eq_true rfl⟩ (fun r_718 u H locs hq_718 hP hD hS => ?_)
                                obtain ⟨v_718, c_718⟩ := u
                                have hX_718 : XS v c (v_718, c_718) _ := hq_718.2
                                have hI_718 : XI v_718 := hX_718.1
                                have hP : va_P D vwCl (jW a cI cJ cZ v_718 c_718 (va_up (va_up w 31 (p1)) 32 (p2))) H := hP
                                have hD : va_D A (jW a cI cJ cZ v_718 c_718 (va_up (va_up w 31 (p1)) 32 (p2))) := hD
                                refine lv_iload hx hb dL_law_721 (lv_at hl 10 rfl) ?_
                                refine w_if_eq (x := can) hx hb dL_law_723 (tgt := 740) (by decide) (by rcases hfin with t | t <;> omega) (fun c723 => ?_) (fun c723 => ?_)
                                · skip
                                  refine lv_bipush (v := -9) hx hb dL_law_740 (by decide) ?_
                                  refine lv_icmp_eq (x := r_718) (y := (-9)) hx hb dL_law_742 (tgt := 747) (by decide) (fun c742 => ?_) (fun c742 => absurd c742 (by first | exact fun t => t ((plan_y hI hAL hdd2 c698 c708 hq_718.1 (hfin.elim (fun u => u.2) (fun u => absurd u.1 c723))).trans (by rw [ps_at (by omega)])) | exact fun t => t (plan_n hI hAL hdd2 c698 c708 hq_718.1 (hfin.elim (fun u => absurd u.1 (by omega)) (fun u => u.2)))))
                                  refine lv_iinc (v := nI (d2 + 1)) (lv' := [(12, .int (nI (d2 + 1))), (0, .ref b), (1, .ref (a 0)), (2, .ref (a 30)), (4, .int (nI (w 30 37))), (5, .int (nI (w 30 0 ^ w 30 37))), (6, .ref (a 31)), (7, .ref (a 32)), (8, .int (nI (wh))), (9, .int (nI (dd))), (10, .int (nI (can))), (11, .int (nI (k2)))]) hx hb dL_law_747 hl (k := 0) rfl (nI_add d2 1) (by decide) rfl (fun ls hl => ?_)
                                  refine lv_goto (tgt := 704) hx hb dL_law_750 (by decide) ?_
                                  exact ih704 v_718 c_718 (d2 + 1) _ _ _ (by omega) (by exact hI_718) (by omega) (by exact AL_xs hAL hX_718) (by exact (congrFun (XS_c hX_718).1 3).trans hc3) hP hD hS (lv_sub hl [0, 1, 2, 3, 4, 5, 6, 7, 8, 9, 10, 11] rfl)
                                · skip
                                  refine lv_aload hx hb dL_law_726 (lv_at hl 7 rfl) ?_
                                  refine lv_iload hx hb dL_law_728 (lv_at hl 4 rfl) ?_
                                  refine lv_iload hx hb dL_law_730 (lv_at hl 11 rfl) ?_
                                  refine w_imul (x := w 30 37) (y := k2) hx hb dL_law_732  ?_
                                  refine lv_iload hx hb dL_law_733 (lv_at hl 0 rfl) ?_
                                  refine w_iadd (x := (w 30 37) * k2) (y := d2) hx hb dL_law_735  ?_
                                  refine w_iald (f := p2) hx hb hK hP 28 0 rfl rfl (i := (w 30 37) * k2 + d2) (by first | omega | (have h9 := Nat.mul_le_mul n1 (show k ≤ 5 by omega); omega) | (have h9 := Nat.mul_le_mul n1 (show k + 1 ≤ 5 by omega); rw [Nat.mul_succ] at h9; omega) | (have h9 := Nat.mul_le_mul n1 (show k2 ≤ 5 by omega); omega)) (by decide) dL_law_736 ?_
                                  refine lv_goto (tgt := 742) hx hb dL_law_737 (by decide) ?_
                                  refine lv_icmp_eq (x := r_718) (y := nI (p2 ((w 30 37) * k2 + d2))) hx hb dL_law_742 (tgt := 747) (by decide) (fun c742 => ?_) (fun c742 => absurd c742 (by first | exact fun t => t ((plan_y hI hAL hdd2 c698 c708 hq_718.1 (hfin.elim (fun u => u.2) (fun u => absurd u.1 c723))).trans (by rw [ps_at (by omega)])) | exact fun t => t (plan_n hI hAL hdd2 c698 c708 hq_718.1 (hfin.elim (fun u => absurd u.1 (by omega)) (fun u => u.2)))))
                                  refine lv_iinc (v := nI (d2 + 1)) (lv' := [(12, .int (nI (d2 + 1))), (0, .ref b), (1, .ref (a 0)), (2, .ref (a 30)), (4, .int (nI (w 30 37))), (5, .int (nI (w 30 0 ^ w 30 37))), (6, .ref (a 31)), (7, .ref (a 32)), (8, .int (nI (wh))), (9, .int (nI (dd))), (10, .int (nI (can))), (11, .int (nI (k2)))]) hx hb dL_law_747 hl (k := 0) rfl (nI_add d2 1) (by decide) rfl (fun ls hl => ?_)
                                  refine lv_goto (tgt := 704) hx hb dL_law_750 (by decide) ?_
                                  exact ih704 v_718 c_718 (d2 + 1) _ _ _ (by omega) (by exact hI_718) (by omega) (by exact AL_xs hAL hX_718) (by exact (congrFun (XS_c hX_718).1 3).trans hc3) hP hD hS (lv_sub hl [0, 1, 2, 3, 4, 5, 6, 7, 8, 9, 10, 11] rfl)
                          exact L704 ((w 30 37 - 0) + 1) v c 0 _ _ _ (Nat.lt_succ_self _) (by exact hI) (by omega) (by exact hAL) (by exact hc3) hP hD hS (lv_sub hl [0, 2, 3, 4, 5, 6, 7, 8, 9, 10, 11, 1] rfl)
                    exact L689 ((w 30 (9 + dd) - 0) + 1) v_668 c_668 0 _ _ _ (Nat.lt_succ_self _) (by exact hI_668) (by omega) (by exact AL_xs hAL hX_668) (by exact (congrFun (XS_c hX_668).1 3).trans hc3) hP hD hS (lv_sub hl [0, 2, 3, 4, 5, 6, 7, 8, 9, 10, 1] rfl)
                · skip
                  rw [c628] at hfin
                  refine lv_aload_n hx hb dL_law_631 rfl (lv_at hl 2 rfl) ?_
                  refine lv_iload hx hb dL_law_632 (lv_at hl 9 rfl) ?_
                  refine l_ciJ (W1 := (xW a cI cJ cZ v c)) (W2 := (lA3 a cI (va_up (va_up w 31 (p1)) 32 (p2)))) (rest := []) hx hb hml hown hts (t_limped l D a cI cJ cZ (va_A (xW a cI cJ cZ v c) H.size) v c (nI (dd)) hI) 1 gL_law_X6_limped rfl hdX6_limped ⟨Nat.le_of_ble_eq_true rfl, Nat.le_of_ble_eq_true rfl⟩ hK hN hP hD hS hA 0 6 rfl rfl rfl rfl hl.1 rfl (Nat.le_of_ble_eq_true rfl) dL_law_634 ⟨Nat.le_of_ble_eq_true rfl, Nat.le_of_ble_eq_true rfl⟩ (fun r_634 u H locs hq_634 hP hD hS => ?_)
                  obtain ⟨v_634, c_634⟩ := u
                  have hX_634 : XS v c (v_634, c_634) _ := hq_634.2
                  have hI_634 : XI v_634 := hX_634.1
                  have hP : va_P D vwCl (jW a cI cJ cZ v_634 c_634 (va_up (va_up w 31 (p1)) 32 (p2))) H := hP
                  have hD : va_D A (jW a cI cJ cZ v_634 c_634 (va_up (va_up w 31 (p1)) 32 (p2))) := hD
                  refine lv_iload hx hb dL_law_637 (lv_at hl 0 rfl) ?_
                  refine w_if_eq (x := can) hx hb dL_law_639 (tgt := 658) (by decide) (by rcases hfin with t | t <;> omega) (fun c639 => ?_) (fun c639 => ?_)
                  · skip
                    refine lv_bipush (v := -3) hx hb dL_law_658 (by decide) ?_
                    refine lv_icmp_eq (x := r_634) (y := (-3)) hx hb dL_law_660 (tgt := 759) (by decide) (fun c660 => ?_) (fun c660 => absurd c660 (by first | exact fun t => t (lim_y hI hAL hdd2 hq_634.1 (hfin.elim (fun u => u.2) (fun u => absurd u.1 c639)) ho_652) | exact fun t => t (lim_n hI hAL hdd2 hq_634.1 (hfin.elim (fun u => absurd u.1 (by omega)) (fun u => u.2)))))
                    refine lv_iinc (v := nI (dd + 1)) (lv' := [(9, .int (nI (dd + 1))), (10, .int (nI (can))), (0, .ref b), (1, .ref (a 0)), (2, .ref (a 30)), (4, .int (nI (w 30 37))), (5, .int (nI (w 30 0 ^ w 30 37))), (6, .ref (a 31)), (7, .ref (a 32)), (8, .int (nI (wh)))]) hx hb dL_law_759 hl (k := 9) rfl (nI_add dd 1) (by decide) rfl (fun ls hl => ?_)
                    refine lv_goto (tgt := 232) hx hb dL_law_762 (by decide) ?_
                    exact ih232 v_634 c_634 (dd + 1) p1 p2 _ _ _ (by omega) (by exact hI_634) (by omega) (by first | exact AL_xs hAL hX_634 | exact hAL) (by first | exact (congrFun (XS_c hX_634).1 3).trans hc3 | exact hc3) (by exact hp1) (by exact hp2) hP hD hS (lv_sub hl [0, 2, 3, 4, 5, 6, 7, 8, 9] rfl)
                  · skip
                    refine lv_aload_n hx hb dL_law_642 rfl (lv_at hl 3 rfl) ?_
                    refine lv_aload hx hb dL_law_643 (lv_at hl 7 rfl) ?_
                    refine lv_aload_n hx hb dL_law_645 rfl (lv_at hl 3 rfl) ?_
                    refine lv_bipush (v := nI (9)) hx hb dL_law_646 (by decide) ?_
                    refine lv_iload hx hb dL_law_648 (lv_at hl 9 rfl) ?_
                    refine w_iadd (x := 9) (y := dd) hx hb dL_law_650  ?_
                    refine w_iald (f := w 30) hx hb hK hP 26 0 rfl rfl (i := 9 + dd) (by first | omega | (have h9 := Nat.mul_le_mul n1 (show k ≤ 5 by omega); omega) | (have h9 := Nat.mul_le_mul n1 (show k + 1 ≤ 5 by omega); rw [Nat.mul_succ] at h9; omega) | (have h9 := Nat.mul_le_mul n1 (show k2 ≤ 5 by omega); omega)) (by decide) dL_law_651 ?_
                    refine l_pSi (W1 := (lfW (f2 (a 30) (a 32)) cI cJ cZ (v2 (w 30) (p2)) c_634)) (rest := [.int r_634]) hx hb hml hown hts (k_opened l D (f2 (a 30) (a 32)) cI cJ cZ (va_A (lfW (f2 (a 30) (a 32)) cI cJ cZ (v2 (w 30) (p2)) c_634) H.size) (v2 (w 30) (p2)) c_634 (w 30 (9 + dd)) (by exact hgl) (by exact hgd) (by exact hp2) (by omega)) 3 gL_law_L_opened rfl hdL_opened ⟨Nat.le_of_ble_eq_true rfl, Nat.le_of_ble_eq_true rfl⟩ hK hN hP hD hS hA [26, 28] rfl rfl rfl rfl hl.1 rfl (Nat.le_of_ble_eq_true rfl) dL_law_652 ⟨Nat.le_of_ble_eq_true rfl, Nat.le_of_ble_eq_true rfl⟩ (fun r H locs hq_652 hP hS => ?_)
                    have ho_652 : OPD (w 30) (p2) (w 30 (9 + dd)) r := by obtain ⟨rr, er, h9⟩ := hq_652; rw [er]; exact h9
                    obtain ⟨r_652, er_652⟩ : ∃ r9, r9 = r := ⟨_, rfl⟩
                    rw [← er_652] at ho_652 ⊢
                    have hP : va_P D vwCl (jW a cI cJ cZ v_634 c_634 (va_up (va_up w 31 (p1)) 32 (p2))) H := hP
                    have hD : va_D A (jW a cI cJ cZ v_634 c_634 (va_up (va_up w 31 (p1)) 32 (p2))) := hD
                    refine lv_goto (tgt := 660) hx hb dL_law_655 (by decide) ?_
                    refine lv_icmp_eq (x := r_634) (y := r_652) hx hb dL_law_660 (tgt := 759) (by decide) (fun c660 => ?_) (fun c660 => absurd c660 (by first | exact fun t => t (lim_y hI hAL hdd2 hq_634.1 (hfin.elim (fun u => u.2) (fun u => absurd u.1 c639)) ho_652) | exact fun t => t (lim_n hI hAL hdd2 hq_634.1 (hfin.elim (fun u => absurd u.1 (by omega)) (fun u => u.2)))))
                    refine lv_iinc (v := nI (dd + 1)) (lv' := [(9, .int (nI (dd + 1))), (10, .int (nI (can))), (0, .ref b), (1, .ref (a 0)), (2, .ref (a 30)), (4, .int (nI (w 30 37))), (5, .int (nI (w 30 0 ^ w 30 37))), (6, .ref (a 31)), (7, .ref (a 32)), (8, .int (nI (wh)))]) hx hb dL_law_759 hl (k := 9) rfl (nI_add dd 1) (by decide) rfl (fun ls hl => ?_)
                    refine lv_goto (tgt := 232) hx hb dL_law_762 (by decide) ?_
                    exact ih232 v_634 c_634 (dd + 1) p1 p2 _ _ _ (by omega) (by exact hI_634) (by omega) (by first | exact AL_xs hAL hX_634 | exact hAL) (by first | exact (congrFun (XS_c hX_634).1 3).trans hc3 | exact hc3) (by exact hp1) (by exact hp2) hP hD hS (lv_sub hl [0, 2, 3, 4, 5, 6, 7, 8, 9] rfl)
              refine lv_iconst (v := nI (0)) hx hb dL_law_243 (by decide) ?_
              refine lv_istore (lv' := [(11, .int (nI (0))), (10, .int (nI (1))), (9, .int (nI (dd))), (0, .ref b), (1, .ref (a 0)), (2, .ref (a 30)), (4, .int (nI (w 30 37))), (5, .int (nI (w 30 0 ^ w 30 37))), (6, .ref (a 31)), (7, .ref (a 32)), (8, .int (nI (wh)))]) hx hb dL_law_244 hl (by decide) rfl (fun ls hl => ?_)
              have L246 : ∀ (n : Nat) (can : Nat) (k : Nat) (p1 : Nat → Nat) (p2 : Nat → Nat) (H : Heap) (locs : List Loc) (ls : Array Slot), w 30 (9 + dd) - k < n → (k % 2 = 0) → (k ≤ 8) → ((can = 1 ∧ BS (w 30) p2 wh dd k) ∨ (can = 0 ∧ planN (w 30 0) (gND (w 30)) (w 30 37) (liw (w 30) wh) (pw (w 30) wh) (gBT (w 30)) (gFG (w 30)) dd)) → (∀ q, q < 24 → p1 q < 8) → (∀ q, q < 24 → p2 q < 8) → va_P D vwCl (jW a cI cJ cZ v c (va_up (va_up w 31 (p1)) 32 (p2))) H → va_D A (jW a cI cJ cZ v c (va_up (va_up w 31 (p1)) 32 (p2))) → va_S A s.heap H locs → lv_has ls 19 [(10, .int (nI (can))), (11, .int (nI (k))), (0, .ref b), (1, .ref (a 0)), (2, .ref (a 30)), (4, .int (nI (w 30 37))), (5, .int (nI (w 30 0 ^ w 30 37))), (6, .ref (a 31)), (7, .ref (a 32)), (8, .int (nI (wh))), (9, .int (nI (dd)))] → W p l e room_1 s m args below meth c0 H locs 29 706 Q (F0 m 246 ls []) := by
                intro n
                induction n with
                | zero => intro can k p1 p2 H locs ls hm; exact absurd hm (Nat.not_lt_zero _)
                | succ n ih246 =>
                  intro can k p1 p2 H locs ls hm246 hke hk8 hBS hp1 hp2 hP hD hS hl
                  refine lv_iload hx hb dL_law_246 (lv_at hl 1 rfl) ?_
                  refine lv_aload_n hx hb dL_law_248 rfl (lv_at hl 4 rfl) ?_
                  refine lv_bipush (v := nI (9)) hx hb dL_law_249 (by decide) ?_
                  refine lv_iload hx hb dL_law_251 (lv_at hl 10 rfl) ?_
                  refine w_iadd (x := 9) (y := dd) hx hb dL_law_253  ?_
                  refine w_iald (f := w 30) hx hb hK hP 26 0 rfl rfl (i := 9 + dd) (by first | omega | (have h9 := Nat.mul_le_mul n1 (show k ≤ 5 by omega); omega) | (have h9 := Nat.mul_le_mul n1 (show k + 1 ≤ 5 by omega); rw [Nat.mul_succ] at h9; omega) | (have h9 := Nat.mul_le_mul n1 (show k2 ≤ 5 by omega); omega)) (by decide) dL_law_254 ?_
                  refine w_icmp_ge (x := k) (y := w 30 (9 + dd)) hx hb dL_law_255 (tgt := 625) (by decide) (by omega) (by omega) (fun c255 => ?_) (fun c255 => ?_)
                  · skip
                    exact L625 can p1 p2 _ _ _ (by first | exact hBS.elim (fun z => Or.inl ⟨z.1, BS_Y hgl hgd z.2 c255⟩) (fun z => Or.inr z) | exact hBS.elim (fun z => absurd z.1 (by omega)) (fun z => Or.inr z)) (by exact hp1) (by exact hp2) hP hD hS (lv_sub hl [0, 2, 3, 4, 5, 6, 7, 8, 9, 10] rfl)
                  · skip
                    have hbk : k < w 30 (9 + dd) := c255
                    refine lv_iload hx hb dL_law_258 (lv_at hl 0 rfl) ?_
                    refine w_if_eq (x := can) hx hb dL_law_260 (tgt := 625) (by decide) (by rcases hBS with t | t <;> omega) (fun c260 => ?_) (fun c260 => ?_)
                    · skip
                      exact L625 can p1 p2 _ _ _ (by first | exact hBS.elim (fun z => Or.inl ⟨z.1, BS_Y hgl hgd z.2 c255⟩) (fun z => Or.inr z) | exact hBS.elim (fun z => absurd z.1 (by omega)) (fun z => Or.inr z)) (by exact hp1) (by exact hp2) hP hD hS (lv_sub hl [0, 2, 3, 4, 5, 6, 7, 8, 9, 10] rfl)
                    · skip
                      have L284 : ∀ (tw : Nat) (H : Heap) (locs : List Loc) (ls : Array Slot), ((tw = 1 ∧ k + 1 < gBT (w 30) dd) ∨ (tw = 0 ∧ ¬ k + 1 < gBT (w 30) dd)) → va_P D vwCl (jW a cI cJ cZ v c (va_up (va_up w 31 (p1)) 32 (p2))) H → va_D A (jW a cI cJ cZ v c (va_up (va_up w 31 (p1)) 32 (p2))) → va_S A s.heap H locs → lv_has ls 19 [(12, .int (nI (tw))), (0, .ref b), (1, .ref (a 0)), (2, .ref (a 30)), (4, .int (nI (w 30 37))), (5, .int (nI (w 30 0 ^ w 30 37))), (6, .ref (a 31)), (7, .ref (a 32)), (8, .int (nI (wh))), (9, .int (nI (dd))), (10, .int (nI (can))), (11, .int (nI (k)))] → W p l e room_1 s m args below meth c0 H locs 29 706 Q (F0 m 284 ls []) := by
                        intro tw H locs ls htw hP hD hS hl
                        have L527 : ∀ (x : Int32) (y : Nat) (p1 : Nat → Nat) (H : Heap) (locs : List Loc) (ls : Array Slot), ((x = -1 ∧ ∀ a, a < w 30 0 ^ w 30 37 → ¬ SC (w 30) wh dd k a) ∨ (∃ w0, x = nI w0 ∧ w0 < w 30 0 ^ w 30 37 ∧ SM (w 30) wh dd k w0 y ∧ ∀ a, a < w0 → ¬ SC (w 30) wh dd k a)) → (y ≤ 64) → (∀ q, q < 24 → p1 q < 8) → va_P D vwCl (jW a cI cJ cZ v c (va_up (va_up w 31 (p1)) 32 (p2))) H → va_D A (jW a cI cJ cZ v c (va_up (va_up w 31 (p1)) 32 (p2))) → va_S A s.heap H locs → lv_has ls 19 [(13, .int x), (14, .int (nI (y))), (0, .ref b), (1, .ref (a 0)), (2, .ref (a 30)), (4, .int (nI (w 30 37))), (5, .int (nI (w 30 0 ^ w 30 37))), (6, .ref (a 31)), (7, .ref (a 32)), (8, .int (nI (wh))), (9, .int (nI (dd))), (10, .int (nI (can))), (11, .int (nI (k))), (12, .int (nI (tw)))] → W p l e room_1 s m args below meth c0 H locs 29 706 Q (F0 m 527 ls []) := by
                          intro x y p1 H locs ls hE hy hp1 hP hD hS hl
                          refine lv_iload hx hb dL_law_527 (lv_at hl 0 rfl) ?_
                          refine r_if_lt hx hb dL_law_529 (tgt := 536) (by decide) (fun c529 => ?_) (fun c529 => ?_)
                          · skip
                            have hno : ∀ a, a < w 30 0 ^ w 30 37 → ¬ SC (w 30) wh dd k a := hE.elim (fun t => t.2) (fun t => by obtain ⟨w0, e0, h0, -⟩ := t; rw [e0, n_tI (by omega)] at c529; omega)
                            refine lv_iconst (v := nI (0)) hx hb dL_law_536 (by decide) ?_
                            refine lv_istore (lv' := [(10, .int (nI (0))), (13, .int x), (14, .int (nI (y))), (0, .ref b), (1, .ref (a 0)), (2, .ref (a 30)), (4, .int (nI (w 30 37))), (5, .int (nI (w 30 0 ^ w 30 37))), (6, .ref (a 31)), (7, .ref (a 32)), (8, .int (nI (wh))), (9, .int (nI (dd))), (11, .int (nI (k))), (12, .int (nI (tw)))]) hx hb dL_law_537 hl (by decide) rfl (fun ls hl => ?_)
                            refine lv_iload hx hb dL_law_539 (lv_at hl 6 rfl) ?_
                            refine lv_iconst (v := nI (1)) hx hb dL_law_541 (by decide) ?_
                            refine lv_isub hx hb dL_law_542 ?_
                            refine lv_istore (lv' := [(15, .int ((nI (w 30 37)) - (nI (1)))), (10, .int (nI (0))), (13, .int x), (14, .int (nI (y))), (0, .ref b), (1, .ref (a 0)), (2, .ref (a 30)), (4, .int (nI (w 30 37))), (5, .int (nI (w 30 0 ^ w 30 37))), (6, .ref (a 31)), (7, .ref (a 32)), (8, .int (nI (wh))), (9, .int (nI (dd))), (11, .int (nI (k))), (12, .int (nI (tw)))]) hx hb dL_law_543 hl (by decide) rfl (fun ls hl => ?_)
                            refine lv_iload hx hb dL_law_545 (lv_at hl 0 rfl) ?_
                            refine r_if_lt hx hb dL_law_547 (tgt := 619) (by decide) (fun c547 => ?_) (fun c547 => ?_)
                            · skip
                              refine lv_iinc (v := nI (k + 2)) (lv' := [(11, .int (nI (k + 2))), (15, .int ((nI (w 30 37)) - (nI (1)))), (10, .int (nI (0))), (13, .int x), (14, .int (nI (y))), (0, .ref b), (1, .ref (a 0)), (2, .ref (a 30)), (4, .int (nI (w 30 37))), (5, .int (nI (w 30 0 ^ w 30 37))), (6, .ref (a 31)), (7, .ref (a 32)), (8, .int (nI (wh))), (9, .int (nI (dd))), (12, .int (nI (tw)))]) hx hb dL_law_619 hl (k := 13) rfl (nI_add k 2) (by decide) rfl (fun ls hl => ?_)
                              refine lv_goto (tgt := 246) hx hb dL_law_622 (by decide) ?_
                              exact ih246 0 (k + 2) p1 p2 _ _ _ (by omega) (by omega) (by omega) (by first | exact Or.inl ⟨rfl, BS_s hke (hBS.elim (fun t => t.2) (fun t => absurd t.1 c260)) hlow hw0 hsm hmn (fun e he => hd1 e (by omega) he) (fun hB e he => hd2 (htw.elim (fun t => t.1) (fun t => absurd hB t.2)) e (by omega) he)⟩ | exact Or.inr ⟨rfl, BS_N hgl hgd hke c255 hno⟩) (by exact hp1) (by first | exact hb2 | exact hp2) hP hD hS (lv_sub hl [2, 0, 5, 6, 7, 8, 9, 10, 11, 12, 13] rfl)
                            · skip
                              refine lv_iload hx hb dL_law_550 (lv_at hl 1 rfl) ?_
                              refine w_if_eq (x := 0) hx hb dL_law_552 (tgt := 619) (by decide) (by decide) (fun _ => ?_) (fun h => absurd h (by decide))
                              refine lv_iinc (v := nI (k + 2)) (lv' := [(11, .int (nI (k + 2))), (15, .int ((nI (w 30 37)) - (nI (1)))), (10, .int (nI (0))), (13, .int x), (14, .int (nI (y))), (0, .ref b), (1, .ref (a 0)), (2, .ref (a 30)), (4, .int (nI (w 30 37))), (5, .int (nI (w 30 0 ^ w 30 37))), (6, .ref (a 31)), (7, .ref (a 32)), (8, .int (nI (wh))), (9, .int (nI (dd))), (12, .int (nI (tw)))]) hx hb dL_law_619 hl (k := 13) rfl (nI_add k 2) (by decide) rfl (fun ls hl => ?_)
                              refine lv_goto (tgt := 246) hx hb dL_law_622 (by decide) ?_
                              exact ih246 0 (k + 2) p1 p2 _ _ _ (by omega) (by omega) (by omega) (by first | exact Or.inl ⟨rfl, BS_s hke (hBS.elim (fun t => t.2) (fun t => absurd t.1 c260)) hlow hw0 hsm hmn (fun e he => hd1 e (by omega) he) (fun hB e he => hd2 (htw.elim (fun t => t.1) (fun t => absurd hB t.2)) e (by omega) he)⟩ | exact Or.inr ⟨rfl, BS_N hgl hgd hke c255 hno⟩) (by exact hp1) (by first | exact hb2 | exact hp2) hP hD hS (lv_sub hl [2, 0, 5, 6, 7, 8, 9, 10, 11, 12, 13] rfl)
                          · skip
                            obtain ⟨x', x'B, rfl⟩ := r_nat c529
                            have x'T := n_tI x'B
                            have hE2 := hE.resolve_left (fun t => m1_neg t.1 x'B)
                            obtain ⟨w0, e0, hw0, hsm, hmn⟩ := hE2
                            have ew := (n_inj x'B (by omega)).mp e0
                            subst ew
                            refine lv_iconst (v := nI (1)) hx hb dL_law_532 (by decide) ?_
                            refine lv_goto (tgt := 537) hx hb dL_law_533 (by decide) ?_
                            refine lv_istore (lv' := [(10, .int (nI (1))), (13, .int (nI (x'))), (14, .int (nI (y))), (0, .ref b), (1, .ref (a 0)), (2, .ref (a 30)), (4, .int (nI (w 30 37))), (5, .int (nI (w 30 0 ^ w 30 37))), (6, .ref (a 31)), (7, .ref (a 32)), (8, .int (nI (wh))), (9, .int (nI (dd))), (11, .int (nI (k))), (12, .int (nI (tw)))]) hx hb dL_law_537 hl (by decide) rfl (fun ls hl => ?_)
                            refine lv_iload hx hb dL_law_539 (lv_at hl 6 rfl) ?_
                            refine lv_iconst (v := nI (1)) hx hb dL_law_541 (by decide) ?_
                            refine lv_isub hx hb dL_law_542 ?_
                            refine lv_istore (lv' := [(15, .int ((nI (w 30 37)) - (nI (1)))), (10, .int (nI (1))), (13, .int (nI (x'))), (14, .int (nI (y))), (0, .ref b), (1, .ref (a 0)), (2, .ref (a 30)), (4, .int (nI (w 30 37))), (5, .int (nI (w 30 0 ^ w 30 37))), (6, .ref (a 31)), (7, .ref (a 32)), (8, .int (nI (wh))), (9, .int (nI (dd))), (11, .int (nI (k))), (12, .int (nI (tw)))]) hx hb dL_law_543 hl (by decide) rfl (fun ls hl => ?_)
                            have L545 : ∀ (n : Nat) (z : Int32) (j : Nat) (f1 : Nat) (f2 : Nat) (b2 : Nat → Nat) (H : Heap) (locs : List Loc) (ls : Array Slot), j < n → (j ≤ w 30 37) → (z.toInt = (j : Int) - 1) → (f1 = x' / w 30 0 ^ (w 30 37 - j)) → (f1 ≤ 64) → (f2 = y / w 30 0 ^ (w 30 37 - j)) → (f2 ≤ 64) → (∀ e, j ≤ e → e < w 30 37 → b2 (w 30 37 * k + e) = digf (w 30 0) (w 30 37) x' e) → (tw = 1 → ∀ e, j ≤ e → e < w 30 37 → b2 (w 30 37 * k + w 30 37 + e) = digf (w 30 0) (w 30 37) y e) → (∀ q, q < w 30 37 * k → b2 q = p2 q) → (∀ q, q < 24 → b2 q < 8) → va_P D vwCl (jW a cI cJ cZ v c (va_up (va_up w 31 (p1)) 32 (b2))) H → va_D A (jW a cI cJ cZ v c (va_up (va_up w 31 (p1)) 32 (b2))) → va_S A s.heap H locs → lv_has ls 19 [(13, .int (nI (f1))), (14, .int (nI (f2))), (15, .int z), (0, .ref b), (1, .ref (a 0)), (2, .ref (a 30)), (4, .int (nI (w 30 37))), (5, .int (nI (w 30 0 ^ w 30 37))), (6, .ref (a 31)), (7, .ref (a 32)), (8, .int (nI (wh))), (9, .int (nI (dd))), (10, .int (nI (1))), (11, .int (nI (k))), (12, .int (nI (tw)))] → W p l e room_1 s m args below meth c0 H locs 29 706 Q (F0 m 545 ls []) := by
                              intro n
                              induction n with
                              | zero => intro z j f1 f2 b2 H locs ls hm; exact absurd hm (Nat.not_lt_zero _)
                              | succ n ih545 =>
                                intro z j f1 f2 b2 H locs ls hm545 hj hz hf1 hl1 hf2 hl2 hd1 hd2 hlow hb2 hP hD hS hl
                                refine lv_iload hx hb dL_law_545 (lv_at hl 2 rfl) ?_
                                refine r_if_lt hx hb dL_law_547 (tgt := 619) (by decide) (fun c547 => ?_) (fun c547 => ?_)
                                · skip
                                  refine lv_iinc (v := nI (k + 2)) (lv' := [(11, .int (nI (k + 2))), (13, .int (nI (f1))), (14, .int (nI (f2))), (15, .int z), (0, .ref b), (1, .ref (a 0)), (2, .ref (a 30)), (4, .int (nI (w 30 37))), (5, .int (nI (w 30 0 ^ w 30 37))), (6, .ref (a 31)), (7, .ref (a 32)), (8, .int (nI (wh))), (9, .int (nI (dd))), (10, .int (nI (1))), (12, .int (nI (tw)))]) hx hb dL_law_619 hl (k := 13) rfl (nI_add k 2) (by decide) rfl (fun ls hl => ?_)
                                  refine lv_goto (tgt := 246) hx hb dL_law_622 (by decide) ?_
                                  exact ih246 1 (k + 2) p1 b2 _ _ _ (by omega) (by omega) (by omega) (by first | exact Or.inl ⟨rfl, BS_s hke (hBS.elim (fun t => t.2) (fun t => absurd t.1 c260)) hlow hw0 hsm hmn (fun e he => hd1 e (by omega) he) (fun hB e he => hd2 (htw.elim (fun t => t.1) (fun t => absurd hB t.2)) e (by omega) he)⟩ | exact Or.inr ⟨rfl, BS_N hgl hgd hke c255 hno⟩) (by exact hp1) (by first | exact hb2 | exact hp2) hP hD hS (lv_sub hl [13, 0, 4, 5, 6, 7, 8, 9, 10, 11, 12] rfl)
                                · skip
                                  obtain ⟨z', z'B, rfl⟩ := r_nat c547
                                  have z'T := n_tI z'B
                                  refine lv_iload hx hb dL_law_550 (lv_at hl 12 rfl) ?_
                                  refine w_if_eq (x := 1) hx hb dL_law_552 (tgt := 619) (by decide) (by decide) (fun h => absurd h (by decide)) (fun _ => ?_)
                                  have hjj : j = z' + 1 := (by omega)
                                  subst hjj
                                  refine lv_aload hx hb dL_law_555 (lv_at hl 9 rfl) ?_
                                  refine lv_iload hx hb dL_law_557 (lv_at hl 6 rfl) ?_
                                  refine lv_iload hx hb dL_law_559 (lv_at hl 13 rfl) ?_
                                  refine w_imul (x := w 30 37) (y := k) hx hb dL_law_561  ?_
                                  refine lv_iload hx hb dL_law_562 (lv_at hl 2 rfl) ?_
                                  refine w_iadd (x := (w 30 37) * k) (y := z') hx hb dL_law_564  ?_
                                  refine lv_iload hx hb dL_law_565 (lv_at hl 0 rfl) ?_
                                  refine lv_aload_n hx hb dL_law_567 rfl (lv_at hl 5 rfl) ?_
                                  refine lv_iconst (v := nI (0)) hx hb dL_law_568 (by decide) ?_
                                  refine w_iald (f := w 30) hx hb hK hP 26 0 rfl rfl (i := 0) (by first | omega | (have h9 := Nat.mul_le_mul n1 (show k ≤ 5 by omega); omega) | (have h9 := Nat.mul_le_mul n1 (show k + 1 ≤ 5 by omega); rw [Nat.mul_succ] at h9; omega) | (have h9 := Nat.mul_le_mul n1 (show k2 ≤ 5 by omega); omega)) (by decide) dL_law_569 ?_
                                  refine w_irem (x := f1) (y := w 30 0) hx hb dL_law_570 (by omega) (by omega) (by omega) ?_
                                  refine w_iast (f := b2) (w := f1 % (w 30 0)) hx hb hK hP hD hS 28 0 rfl rfl (i := (w 30 37) * k + z') (by first | omega | (have h9 := Nat.mul_le_mul n1 (show k ≤ 5 by omega); omega) | (have h9 := Nat.mul_le_mul n1 (show k + 1 ≤ 5 by omega); rw [Nat.mul_succ] at h9; omega) | (have h9 := Nat.mul_le_mul n1 (show k2 ≤ 5 by omega); omega)) (by decide) dL_law_571 (fun H locs hP hD hS => ?_)
                                  have hP : va_P D vwCl (jW a cI cJ cZ v c (va_up (va_up w 31 (p1)) 32 (va_up b2 ((w 30 37) * k + z') (f1 % (w 30 0))))) H := hP
                                  have hD : va_D A (jW a cI cJ cZ v c (va_up (va_up w 31 (p1)) 32 (va_up b2 ((w 30 37) * k + z') (f1 % (w 30 0))))) := hD
                                  refine lv_iload hx hb dL_law_572 (lv_at hl 0 rfl) ?_
                                  refine lv_aload_n hx hb dL_law_574 rfl (lv_at hl 5 rfl) ?_
                                  refine lv_iconst (v := nI (0)) hx hb dL_law_575 (by decide) ?_
                                  refine w_iald (f := w 30) hx hb hK hP 26 0 rfl rfl (i := 0) (by first | omega | (have h9 := Nat.mul_le_mul n1 (show k ≤ 5 by omega); omega) | (have h9 := Nat.mul_le_mul n1 (show k + 1 ≤ 5 by omega); rw [Nat.mul_succ] at h9; omega) | (have h9 := Nat.mul_le_mul n1 (show k2 ≤ 5 by omega); omega)) (by decide) dL_law_576 ?_
                                  refine w_idiv (x := f1) (y := w 30 0) hx hb dL_law_577 (by omega) (by omega) (by omega) ?_
                                  refine lv_istore (lv' := [(13, .int (nI (f1 / (w 30 0)))), (14, .int (nI (f2))), (15, .int (nI (z'))), (0, .ref b), (1, .ref (a 0)), (2, .ref (a 30)), (4, .int (nI (w 30 37))), (5, .int (nI (w 30 0 ^ w 30 37))), (6, .ref (a 31)), (7, .ref (a 32)), (8, .int (nI (wh))), (9, .int (nI (dd))), (10, .int (nI (1))), (11, .int (nI (k))), (12, .int (nI (tw)))]) hx hb dL_law_578 hl (by decide) rfl (fun ls hl => ?_)
                                  refine lv_iload hx hb dL_law_580 (lv_at hl 14 rfl) ?_
                                  refine w_if_eq (x := tw) hx hb dL_law_582 (tgt := 605) (by decide) (by rcases htw with t | t <;> omega) (fun c582 => ?_) (fun c582 => ?_)
                                  · skip
                                    refine lv_iload hx hb dL_law_605 (lv_at hl 1 rfl) ?_
                                    refine lv_aload_n hx hb dL_law_607 rfl (lv_at hl 5 rfl) ?_
                                    refine lv_iconst (v := nI (0)) hx hb dL_law_608 (by decide) ?_
                                    refine w_iald (f := w 30) hx hb hK hP 26 0 rfl rfl (i := 0) (by first | omega | (have h9 := Nat.mul_le_mul n1 (show k ≤ 5 by omega); omega) | (have h9 := Nat.mul_le_mul n1 (show k + 1 ≤ 5 by omega); rw [Nat.mul_succ] at h9; omega) | (have h9 := Nat.mul_le_mul n1 (show k2 ≤ 5 by omega); omega)) (by decide) dL_law_609 ?_
                                    refine w_idiv (x := f2) (y := w 30 0) hx hb dL_law_610 (by omega) (by omega) (by omega) ?_
                                    refine lv_istore (lv' := [(14, .int (nI (f2 / (w 30 0)))), (13, .int (nI (f1 / (w 30 0)))), (15, .int (nI (z'))), (0, .ref b), (1, .ref (a 0)), (2, .ref (a 30)), (4, .int (nI (w 30 37))), (5, .int (nI (w 30 0 ^ w 30 37))), (6, .ref (a 31)), (7, .ref (a 32)), (8, .int (nI (wh))), (9, .int (nI (dd))), (10, .int (nI (1))), (11, .int (nI (k))), (12, .int (nI (tw)))]) hx hb dL_law_611 hl (by decide) rfl (fun ls hl => ?_)
                                    refine lv_iinc (v := (nI (z')) + -1) (lv' := [(15, .int ((nI (z')) + -1)), (14, .int (nI (f2 / (w 30 0)))), (13, .int (nI (f1 / (w 30 0)))), (0, .ref b), (1, .ref (a 0)), (2, .ref (a 30)), (4, .int (nI (w 30 37))), (5, .int (nI (w 30 0 ^ w 30 37))), (6, .ref (a 31)), (7, .ref (a 32)), (8, .int (nI (wh))), (9, .int (nI (dd))), (10, .int (nI (1))), (11, .int (nI (k))), (12, .int (nI (tw)))]) hx hb dL_law_613 hl (k := 2) rfl (rfl) (by decide) rfl (fun ls hl => ?_)
                                    refine lv_goto (tgt := 545) hx hb dL_law_616 (by decide) ?_
                                    exact ih545 ((nI (z')) + -1) z' (f1 / (w 30 0)) (f2 / (w 30 0)) (va_up b2 ((w 30 37) * k + z') (f1 % (w 30 0))) _ _ _ (by omega) (by omega) (by have h9 := dec_I (x := z') (by omega); exact h9) (by exact (dig_s rfl hj hf1).2) (by exact Nat.le_trans (Nat.div_le_self _ _) hl1) (by exact (dig_s rfl hj hf2).2) (by exact Nat.le_trans (Nat.div_le_self _ _) hl2) (by first | exact dg_up rfl hd1 (dig_s rfl hj hf1).1 | exact fun e h1 h2 => by rw [up_ne (by omega)]; exact dg_up rfl hd1 (dig_s rfl hj hf1).1 e h1 h2) (by first | exact fun t => absurd t (by omega) | exact fun t => dg_up rfl (fun e h1 h2 => by rw [up_ne (by omega)]; exact hd2 t e h1 h2) (dig_s rfl hj hf2).1) (by first | exact fun q hq => by rw [up_ne (by omega), up_ne (by omega)]; exact hlow q hq | exact fun q hq => by rw [up_ne (by omega)]; exact hlow q hq) (by first | exact up8 (up8 hb2 (by have h9 := Nat.mod_lt f1 (show 0 < w 30 0 by omega); omega)) (by have h9 := Nat.mod_lt f2 (show 0 < w 30 0 by omega); omega) | exact up8 hb2 (by have h9 := Nat.mod_lt f1 (show 0 < w 30 0 by omega); omega)) hP hD hS (lv_sub hl [2, 1, 0, 3, 4, 5, 6, 7, 8, 9, 10, 11, 12, 13, 14] rfl)
                                  · skip
                                    have hk1 : k + 1 < w 30 (9 + dd) := htw.elim (fun t => t.2) (fun t => absurd t.1 c582)
                                    refine lv_aload hx hb dL_law_585 (lv_at hl 9 rfl) ?_
                                    refine lv_iload hx hb dL_law_587 (lv_at hl 6 rfl) ?_
                                    refine lv_iload hx hb dL_law_589 (lv_at hl 13 rfl) ?_
                                    refine w_imul (x := w 30 37) (y := k) hx hb dL_law_591  ?_
                                    refine lv_iload hx hb dL_law_592 (lv_at hl 6 rfl) ?_
                                    refine w_iadd (x := (w 30 37) * k) (y := w 30 37) hx hb dL_law_594  ?_
                                    refine lv_iload hx hb dL_law_595 (lv_at hl 2 rfl) ?_
                                    refine w_iadd (x := (w 30 37) * k + (w 30 37)) (y := z') hx hb dL_law_597  ?_
                                    refine lv_iload hx hb dL_law_598 (lv_at hl 1 rfl) ?_
                                    refine lv_aload_n hx hb dL_law_600 rfl (lv_at hl 5 rfl) ?_
                                    refine lv_iconst (v := nI (0)) hx hb dL_law_601 (by decide) ?_
                                    refine w_iald (f := w 30) hx hb hK hP 26 0 rfl rfl (i := 0) (by first | omega | (have h9 := Nat.mul_le_mul n1 (show k ≤ 5 by omega); omega) | (have h9 := Nat.mul_le_mul n1 (show k + 1 ≤ 5 by omega); rw [Nat.mul_succ] at h9; omega) | (have h9 := Nat.mul_le_mul n1 (show k2 ≤ 5 by omega); omega)) (by decide) dL_law_602 ?_
                                    refine w_irem (x := f2) (y := w 30 0) hx hb dL_law_603 (by omega) (by omega) (by omega) ?_
                                    refine w_iast (f := va_up b2 ((w 30 37) * k + z') (f1 % (w 30 0))) (w := f2 % (w 30 0)) hx hb hK hP hD hS 28 0 rfl rfl (i := (w 30 37) * k + (w 30 37) + z') (by first | omega | (have h9 := Nat.mul_le_mul n1 (show k ≤ 5 by omega); omega) | (have h9 := Nat.mul_le_mul n1 (show k + 1 ≤ 5 by omega); rw [Nat.mul_succ] at h9; omega) | (have h9 := Nat.mul_le_mul n1 (show k2 ≤ 5 by omega); omega)) (by decide) dL_law_604 (fun H locs hP hD hS => ?_)
                                    have hP : va_P D vwCl (jW a cI cJ cZ v c (va_up (va_up w 31 (p1)) 32 (va_up (va_up b2 ((w 30 37) * k + z') (f1 % (w 30 0))) ((w 30 37) * k + (w 30 37) + z') (f2 % (w 30 0))))) H := hP
                                    have hD : va_D A (jW a cI cJ cZ v c (va_up (va_up w 31 (p1)) 32 (va_up (va_up b2 ((w 30 37) * k + z') (f1 % (w 30 0))) ((w 30 37) * k + (w 30 37) + z') (f2 % (w 30 0))))) := hD
                                    refine lv_iload hx hb dL_law_605 (lv_at hl 1 rfl) ?_
                                    refine lv_aload_n hx hb dL_law_607 rfl (lv_at hl 5 rfl) ?_
                                    refine lv_iconst (v := nI (0)) hx hb dL_law_608 (by decide) ?_
                                    refine w_iald (f := w 30) hx hb hK hP 26 0 rfl rfl (i := 0) (by first | omega | (have h9 := Nat.mul_le_mul n1 (show k ≤ 5 by omega); omega) | (have h9 := Nat.mul_le_mul n1 (show k + 1 ≤ 5 by omega); rw [Nat.mul_succ] at h9; omega) | (have h9 := Nat.mul_le_mul n1 (show k2 ≤ 5 by omega); omega)) (by decide) dL_law_609 ?_
                                    refine w_idiv (x := f2) (y := w 30 0) hx hb dL_law_610 (by omega) (by omega) (by omega) ?_
                                    refine lv_istore (lv' := [(14, .int (nI (f2 / (w 30 0)))), (13, .int (nI (f1 / (w 30 0)))), (15, .int (nI (z'))), (0, .ref b), (1, .ref (a 0)), (2, .ref (a 30)), (4, .int (nI (w 30 37))), (5, .int (nI (w 30 0 ^ w 30 37))), (6, .ref (a 31)), (7, .ref (a 32)), (8, .int (nI (wh))), (9, .int (nI (dd))), (10, .int (nI (1))), (11, .int (nI (k))), (12, .int (nI (tw)))]) hx hb dL_law_611 hl (by decide) rfl (fun ls hl => ?_)
                                    refine lv_iinc (v := (nI (z')) + -1) (lv' := [(15, .int ((nI (z')) + -1)), (14, .int (nI (f2 / (w 30 0)))), (13, .int (nI (f1 / (w 30 0)))), (0, .ref b), (1, .ref (a 0)), (2, .ref (a 30)), (4, .int (nI (w 30 37))), (5, .int (nI (w 30 0 ^ w 30 37))), (6, .ref (a 31)), (7, .ref (a 32)), (8, .int (nI (wh))), (9, .int (nI (dd))), (10, .int (nI (1))), (11, .int (nI (k))), (12, .int (nI (tw)))]) hx hb dL_law_613 hl (k := 2) rfl (rfl) (by decide) rfl (fun ls hl => ?_)
                                    refine lv_goto (tgt := 545) hx hb dL_law_616 (by decide) ?_
                                    exact ih545 ((nI (z')) + -1) z' (f1 / (w 30 0)) (f2 / (w 30 0)) (va_up (va_up b2 ((w 30 37) * k + z') (f1 % (w 30 0))) ((w 30 37) * k + (w 30 37) + z') (f2 % (w 30 0))) _ _ _ (by omega) (by omega) (by have h9 := dec_I (x := z') (by omega); exact h9) (by exact (dig_s rfl hj hf1).2) (by exact Nat.le_trans (Nat.div_le_self _ _) hl1) (by exact (dig_s rfl hj hf2).2) (by exact Nat.le_trans (Nat.div_le_self _ _) hl2) (by first | exact dg_up rfl hd1 (dig_s rfl hj hf1).1 | exact fun e h1 h2 => by rw [up_ne (by omega)]; exact dg_up rfl hd1 (dig_s rfl hj hf1).1 e h1 h2) (by first | exact fun t => absurd t (by omega) | exact fun t => dg_up rfl (fun e h1 h2 => by rw [up_ne (by omega)]; exact hd2 t e h1 h2) (dig_s rfl hj hf2).1) (by first | exact fun q hq => by rw [up_ne (by omega), up_ne (by omega)]; exact hlow q hq | exact fun q hq => by rw [up_ne (by omega)]; exact hlow q hq) (by first | exact up8 (up8 hb2 (by have h9 := Nat.mod_lt f1 (show 0 < w 30 0 by omega); omega)) (by have h9 := Nat.mod_lt f2 (show 0 < w 30 0 by omega); omega) | exact up8 hb2 (by have h9 := Nat.mod_lt f1 (show 0 < w 30 0 by omega); omega)) hP hD hS (lv_sub hl [2, 1, 0, 3, 4, 5, 6, 7, 8, 9, 10, 11, 12, 13, 14] rfl)
                            exact L545 ((w 30 37) + 1) ((nI (w 30 37)) - (nI (1))) (w 30 37) x' y p2 _ _ _ (Nat.lt_succ_self _) (by omega) (by have h9 := pk_sub_toInt (a := w 30 37) (b := 1) (by omega) (by decide); omega) (by exact dig_0) (by omega) (by exact dig_0) (by exact hy) (by exact fun e h1 h2 => absurd h1 (by omega)) (by exact fun _ e h1 h2 => absurd h1 (by omega)) (by exact fun _ _ => rfl) (by exact hp2) hP hD hS (lv_sub hl [2, 3, 0, 4, 5, 6, 7, 8, 9, 10, 11, 12, 1, 13, 14] rfl)
                        refine lv_iconst (v := -1) hx hb dL_law_284 (by decide) ?_
                        refine lv_istore (lv' := [(13, .int (-1)), (12, .int (nI (tw))), (0, .ref b), (1, .ref (a 0)), (2, .ref (a 30)), (4, .int (nI (w 30 37))), (5, .int (nI (w 30 0 ^ w 30 37))), (6, .ref (a 31)), (7, .ref (a 32)), (8, .int (nI (wh))), (9, .int (nI (dd))), (10, .int (nI (can))), (11, .int (nI (k)))]) hx hb dL_law_285 hl (by decide) rfl (fun ls hl => ?_)
                        refine lv_iconst (v := nI (0)) hx hb dL_law_287 (by decide) ?_
                        refine lv_istore (lv' := [(14, .int (nI (0))), (13, .int (-1)), (12, .int (nI (tw))), (0, .ref b), (1, .ref (a 0)), (2, .ref (a 30)), (4, .int (nI (w 30 37))), (5, .int (nI (w 30 0 ^ w 30 37))), (6, .ref (a 31)), (7, .ref (a 32)), (8, .int (nI (wh))), (9, .int (nI (dd))), (10, .int (nI (can))), (11, .int (nI (k)))]) hx hb dL_law_288 hl (by decide) rfl (fun ls hl => ?_)
                        refine lv_iconst (v := nI (0)) hx hb dL_law_290 (by decide) ?_
                        refine lv_istore (lv' := [(15, .int (nI (0))), (14, .int (nI (0))), (13, .int (-1)), (12, .int (nI (tw))), (0, .ref b), (1, .ref (a 0)), (2, .ref (a 30)), (4, .int (nI (w 30 37))), (5, .int (nI (w 30 0 ^ w 30 37))), (6, .ref (a 31)), (7, .ref (a 32)), (8, .int (nI (wh))), (9, .int (nI (dd))), (10, .int (nI (can))), (11, .int (nI (k)))]) hx hb dL_law_291 hl (by decide) rfl (fun ls hl => ?_)
                        have L293 : ∀ (n : Nat) (x : Int32) (y : Nat) (i : Nat) (p1 : Nat → Nat) (H : Heap) (locs : List Loc) (ls : Array Slot), w 30 0 ^ w 30 37 - i < n → (i ≤ w 30 0 ^ w 30 37) → (FND (w 30) wh dd k i x y) → (y ≤ 64) → (∀ q, q < 24 → p1 q < 8) → va_P D vwCl (jW a cI cJ cZ v c (va_up (va_up w 31 (p1)) 32 (p2))) H → va_D A (jW a cI cJ cZ v c (va_up (va_up w 31 (p1)) 32 (p2))) → va_S A s.heap H locs → lv_has ls 19 [(13, .int x), (14, .int (nI (y))), (15, .int (nI (i))), (0, .ref b), (1, .ref (a 0)), (2, .ref (a 30)), (4, .int (nI (w 30 37))), (5, .int (nI (w 30 0 ^ w 30 37))), (6, .ref (a 31)), (7, .ref (a 32)), (8, .int (nI (wh))), (9, .int (nI (dd))), (10, .int (nI (can))), (11, .int (nI (k))), (12, .int (nI (tw)))] → W p l e room_1 s m args below meth c0 H locs 29 706 Q (F0 m 293 ls []) := by
                          intro n
                          induction n with
                          | zero => intro x y i p1 H locs ls hm; exact absurd hm (Nat.not_lt_zero _)
                          | succ n ih293 =>
                            intro x y i p1 H locs ls hm293 hi hFN hy hp1 hP hD hS hl
                            refine lv_iload hx hb dL_law_293 (lv_at hl 2 rfl) ?_
                            refine lv_iload hx hb dL_law_295 (lv_at hl 7 rfl) ?_
                            refine w_icmp_ge (x := i) (y := w 30 0 ^ w 30 37) hx hb dL_law_297 (tgt := 527) (by decide) (by omega) (by omega) (fun c297 => ?_) (fun c297 => ?_)
                            · skip
                              exact L527 x y p1 _ _ _ (by first | exact hFN.elim (fun z => Or.inl ⟨z.1, fun a ha => z.2 a (by omega)⟩) (fun z => Or.inr (by obtain ⟨w0, a1, -, a2, a3⟩ := z; exact ⟨w0, a1, a2, a3⟩)) | exact hFN.elim (fun z => (m1_neg z.1 x'B).elim) (fun z => Or.inr (by obtain ⟨w0, a1, -, a2, a3⟩ := z; exact ⟨w0, a1, a2, a3⟩))) (by exact hy) (by exact hp1) hP hD hS (lv_sub hl [0, 1, 3, 4, 5, 6, 7, 8, 9, 10, 11, 12, 13, 14] rfl)
                            · skip
                              refine lv_iload hx hb dL_law_300 (lv_at hl 0 rfl) ?_
                              refine r_if_ge hx hb dL_law_302 (tgt := 527) (by decide) (fun c302 => ?_) (fun c302 => ?_)
                              · skip
                                obtain ⟨x', x'B, rfl⟩ := r_nat c302
                                have x'T := n_tI x'B
                                exact L527 (nI (x')) y p1 _ _ _ (by first | exact hFN.elim (fun z => Or.inl ⟨z.1, fun a ha => z.2 a (by omega)⟩) (fun z => Or.inr (by obtain ⟨w0, a1, -, a2, a3⟩ := z; exact ⟨w0, a1, a2, a3⟩)) | exact hFN.elim (fun z => (m1_neg z.1 x'B).elim) (fun z => Or.inr (by obtain ⟨w0, a1, -, a2, a3⟩ := z; exact ⟨w0, a1, a2, a3⟩))) (by exact hy) (by exact hp1) hP hD hS (lv_sub hl [0, 1, 3, 4, 5, 6, 7, 8, 9, 10, 11, 12, 13, 14] rfl)
                              · skip
                                have hxn := FND_neg hrw hFN c302
                                refine lv_iload hx hb dL_law_305 (lv_at hl 2 rfl) ?_
                                refine lv_istore (lv' := [(16, .int (nI (i))), (13, .int x), (14, .int (nI (y))), (15, .int (nI (i))), (0, .ref b), (1, .ref (a 0)), (2, .ref (a 30)), (4, .int (nI (w 30 37))), (5, .int (nI (w 30 0 ^ w 30 37))), (6, .ref (a 31)), (7, .ref (a 32)), (8, .int (nI (wh))), (9, .int (nI (dd))), (10, .int (nI (can))), (11, .int (nI (k))), (12, .int (nI (tw)))]) hx hb dL_law_307 hl (by decide) rfl (fun ls hl => ?_)
                                refine lv_iload hx hb dL_law_309 (lv_at hl 7 rfl) ?_
                                refine lv_iconst (v := nI (1)) hx hb dL_law_311 (by decide) ?_
                                refine lv_isub hx hb dL_law_312 ?_
                                refine lv_istore (lv' := [(17, .int ((nI (w 30 37)) - (nI (1)))), (16, .int (nI (i))), (13, .int x), (14, .int (nI (y))), (15, .int (nI (i))), (0, .ref b), (1, .ref (a 0)), (2, .ref (a 30)), (4, .int (nI (w 30 37))), (5, .int (nI (w 30 0 ^ w 30 37))), (6, .ref (a 31)), (7, .ref (a 32)), (8, .int (nI (wh))), (9, .int (nI (dd))), (10, .int (nI (can))), (11, .int (nI (k))), (12, .int (nI (tw)))]) hx hb dL_law_313 hl (by decide) rfl (fun ls hl => ?_)
                                have L315 : ∀ (n : Nat) (z : Int32) (j : Nat) (y1 : Nat) (p1 : Nat → Nat) (H : Heap) (locs : List Loc) (ls : Array Slot), j < n → (j ≤ w 30 37) → (z.toInt = (j : Int) - 1) → (y1 = i / w 30 0 ^ (w 30 37 - j)) → (y1 ≤ 64) → (∀ e, j ≤ e → e < w 30 37 → p1 (w 30 37 * k + e) = digf (w 30 0) (w 30 37) i e) → (∀ q, q < 24 → p1 q < 8) → va_P D vwCl (jW a cI cJ cZ v c (va_up (va_up w 31 (p1)) 32 (p2))) H → va_D A (jW a cI cJ cZ v c (va_up (va_up w 31 (p1)) 32 (p2))) → va_S A s.heap H locs → lv_has ls 19 [(16, .int (nI (y1))), (17, .int z), (0, .ref b), (1, .ref (a 0)), (2, .ref (a 30)), (4, .int (nI (w 30 37))), (5, .int (nI (w 30 0 ^ w 30 37))), (6, .ref (a 31)), (7, .ref (a 32)), (8, .int (nI (wh))), (9, .int (nI (dd))), (10, .int (nI (can))), (11, .int (nI (k))), (12, .int (nI (tw))), (13, .int x), (14, .int (nI (y))), (15, .int (nI (i)))] → W p l e room_1 s m args below meth c0 H locs 29 706 Q (F0 m 315 ls []) := by
                                  intro n
                                  induction n with
                                  | zero => intro z j y1 p1 H locs ls hm; exact absurd hm (Nat.not_lt_zero _)
                                  | succ n ih315 =>
                                    intro z j y1 p1 H locs ls hm315 hj hz hy1 hyl hdg hp1 hP hD hS hl
                                    refine lv_iload hx hb dL_law_315 (lv_at hl 1 rfl) ?_
                                    refine r_if_lt hx hb dL_law_317 (tgt := 351) (by decide) (fun c317 => ?_) (fun c317 => ?_)
                                    · skip
                                      have ej : j = 0 := by omega
                                      subst ej
                                      refine lv_aload_n hx hb dL_law_351 rfl (lv_at hl 4 rfl) ?_
                                      have L370 : ∀ (q : Nat) (H : Heap) (locs : List Loc) (ls : Array Slot), (q = fEw (w 30) wh p1 k) → va_P D vwCl (jW a cI cJ cZ v c (va_up (va_up w 31 (p1)) 32 (p2))) H → va_D A (jW a cI cJ cZ v c (va_up (va_up w 31 (p1)) 32 (p2))) → va_S A s.heap H locs → lv_has ls 19 [(0, .ref b), (1, .ref (a 0)), (2, .ref (a 30)), (4, .int (nI (w 30 37))), (5, .int (nI (w 30 0 ^ w 30 37))), (6, .ref (a 31)), (7, .ref (a 32)), (8, .int (nI (wh))), (9, .int (nI (dd))), (10, .int (nI (can))), (11, .int (nI (k))), (12, .int (nI (tw))), (13, .int x), (14, .int (nI (y))), (15, .int (nI (i))), (16, .int (nI (y1))), (17, .int z)] → W p l e room_1 s m args below meth c0 H locs 29 706 Q (F0 m 370 ls [.int (nI (q))]) := by
                                        intro q H locs ls hq hP hD hS hl
                                        have hqa : q = R1 (w 30) wh k i 0 k := hq.trans (fEw_a n1 hke (fun e he => hdg e (Nat.zero_le _) he))
                                        have h16 : q < 16 := by rw [hq]; exact fEw_lt g2
                                        refine lv_aload_n hx hb dL_law_370 rfl (lv_at hl 2 rfl) ?_
                                        refine lv_bipush (v := nI (13)) hx hb dL_law_371 (by decide) ?_
                                        refine lv_bipush (v := nI (6)) hx hb dL_law_373 (by decide) ?_
                                        refine lv_iload hx hb dL_law_375 (lv_at hl 8 rfl) ?_
                                        refine w_imul (x := 6) (y := dd) hx hb dL_law_377  ?_
                                        refine w_iadd (x := 13) (y := 6 * dd) hx hb dL_law_378  ?_
                                        refine lv_iload hx hb dL_law_379 (lv_at hl 10 rfl) ?_
                                        refine w_iadd (x := 13 + (6 * dd)) (y := k) hx hb dL_law_381  ?_
                                        refine w_iald (f := w 30) hx hb hK hP 26 0 rfl rfl (i := 13 + (6 * dd) + k) (by first | omega | (have h9 := Nat.mul_le_mul n1 (show k ≤ 5 by omega); omega) | (have h9 := Nat.mul_le_mul n1 (show k + 1 ≤ 5 by omega); rw [Nat.mul_succ] at h9; omega) | (have h9 := Nat.mul_le_mul n1 (show k2 ≤ 5 by omega); omega)) (by decide) dL_law_382 ?_
                                        have hfg := g7 dd k hdd2 hbk
                                        refine w_icmp_eq (x := q) (y := w 30 (13 + (6 * dd) + k)) hx hb dL_law_383 (tgt := 389) (by decide) (by omega) (by omega) (fun c383 => ?_) (fun c383 => ?_)
                                        · skip
                                          have hqb : R1 (w 30) wh k i 0 k = gFG (w 30) dd k := hqa.symm.trans c383
                                          refine lv_iload hx hb dL_law_389 (lv_at hl 11 rfl) ?_
                                          have L401 : ∀ (n : Nat) (x1 : Int32) (y2 : Nat) (jb : Nat) (p1 : Nat → Nat) (H : Heap) (locs : List Loc) (ls : Array Slot), w 30 0 ^ w 30 37 - jb < n → (jb ≤ w 30 0 ^ w 30 37) → ((tw = 0 ∧ x1 = nI i) ∨ (tw = 1 ∧ FN2 (w 30) wh dd k i jb x1 y2)) → (y2 ≤ 64) → (∀ e, e < w 30 37 → p1 (w 30 37 * k + e) = digf (w 30 0) (w 30 37) i e) → (∀ q, q < 24 → p1 q < 8) → va_P D vwCl (jW a cI cJ cZ v c (va_up (va_up w 31 (p1)) 32 (p2))) H → va_D A (jW a cI cJ cZ v c (va_up (va_up w 31 (p1)) 32 (p2))) → va_S A s.heap H locs → lv_has ls 19 [(13, .int x1), (14, .int (nI (y2))), (17, .int (nI (jb))), (0, .ref b), (1, .ref (a 0)), (2, .ref (a 30)), (4, .int (nI (w 30 37))), (5, .int (nI (w 30 0 ^ w 30 37))), (6, .ref (a 31)), (7, .ref (a 32)), (8, .int (nI (wh))), (9, .int (nI (dd))), (10, .int (nI (can))), (11, .int (nI (k))), (12, .int (nI (tw))), (15, .int (nI (i)))] → W p l e room_1 s m args below meth c0 H locs 29 706 Q (F0 m 401 ls []) := by
                                            intro n
                                            induction n with
                                            | zero => intro x1 y2 jb p1 H locs ls hm; exact absurd hm (Nat.not_lt_zero _)
                                            | succ n ih401 =>
                                              intro x1 y2 jb p1 H locs ls hm401 hjb hF2 hy2 hdg hp1 hP hD hS hl
                                              refine lv_iload hx hb dL_law_401 (lv_at hl 2 rfl) ?_
                                              refine lv_iload hx hb dL_law_403 (lv_at hl 7 rfl) ?_
                                              refine w_icmp_ge (x := jb) (y := w 30 0 ^ w 30 37) hx hb dL_law_405 (tgt := 521) (by decide) (by omega) (by omega) (fun c405 => ?_) (fun c405 => ?_)
                                              · skip
                                                refine lv_iinc (v := nI (i + 1)) (lv' := [(15, .int (nI (i + 1))), (13, .int x1), (14, .int (nI (y2))), (17, .int (nI (jb))), (0, .ref b), (1, .ref (a 0)), (2, .ref (a 30)), (4, .int (nI (w 30 37))), (5, .int (nI (w 30 0 ^ w 30 37))), (6, .ref (a 31)), (7, .ref (a 32)), (8, .int (nI (wh))), (9, .int (nI (dd))), (10, .int (nI (can))), (11, .int (nI (k))), (12, .int (nI (tw)))]) hx hb dL_law_521 hl (k := 15) rfl (nI_add i 1) (by decide) rfl (fun ls hl => ?_)
                                                refine lv_goto (tgt := 293) hx hb dL_law_524 (by decide) ?_
                                                exact ih293 x1 y2 (i + 1) p1 _ _ _ (by omega) (by omega) (by first | exact FND_n hxn (fun t => c383 (hqa.trans t)) | exact hF2.elim (fun z => by rw [z.2]; exact FND_1 hxn c297 hqb (htw.elim (fun t => absurd t.1 (by have := z.1; omega)) (fun t => t.2))) (fun z => FND_2 hxn c297 hqb (htw.elim (fun t => t.2) (fun t => absurd t.1 (by have := z.1; omega))) z.2 (by first | exact fun _ => c405 | exact fun _ => absurd z.1 (by omega) | exact fun t => (m1_neg t x1'B).elim))) (by first | exact hy2 | exact hy) (by exact hp1) hP hD hS (lv_sub hl [1, 2, 0, 4, 5, 6, 7, 8, 9, 10, 11, 12, 13, 14, 15] rfl)
                                              · skip
                                                refine lv_iload hx hb dL_law_408 (lv_at hl 14 rfl) ?_
                                                refine w_if_eq (x := tw) hx hb dL_law_410 (tgt := 521) (by decide) (by rcases htw with t | t <;> omega) (fun c410 => ?_) (fun c410 => ?_)
                                                · skip
                                                  refine lv_iinc (v := nI (i + 1)) (lv' := [(15, .int (nI (i + 1))), (13, .int x1), (14, .int (nI (y2))), (17, .int (nI (jb))), (0, .ref b), (1, .ref (a 0)), (2, .ref (a 30)), (4, .int (nI (w 30 37))), (5, .int (nI (w 30 0 ^ w 30 37))), (6, .ref (a 31)), (7, .ref (a 32)), (8, .int (nI (wh))), (9, .int (nI (dd))), (10, .int (nI (can))), (11, .int (nI (k))), (12, .int (nI (tw)))]) hx hb dL_law_521 hl (k := 15) rfl (nI_add i 1) (by decide) rfl (fun ls hl => ?_)
                                                  refine lv_goto (tgt := 293) hx hb dL_law_524 (by decide) ?_
                                                  exact ih293 x1 y2 (i + 1) p1 _ _ _ (by omega) (by omega) (by first | exact FND_n hxn (fun t => c383 (hqa.trans t)) | exact hF2.elim (fun z => by rw [z.2]; exact FND_1 hxn c297 hqb (htw.elim (fun t => absurd t.1 (by have := z.1; omega)) (fun t => t.2))) (fun z => FND_2 hxn c297 hqb (htw.elim (fun t => t.2) (fun t => absurd t.1 (by have := z.1; omega))) z.2 (by first | exact fun _ => c405 | exact fun _ => absurd z.1 (by omega) | exact fun t => (m1_neg t x1'B).elim))) (by first | exact hy2 | exact hy) (by exact hp1) hP hD hS (lv_sub hl [1, 2, 0, 4, 5, 6, 7, 8, 9, 10, 11, 12, 13, 14, 15] rfl)
                                                · skip
                                                  refine lv_iload hx hb dL_law_413 (lv_at hl 0 rfl) ?_
                                                  refine r_if_ge hx hb dL_law_415 (tgt := 521) (by decide) (fun c415 => ?_) (fun c415 => ?_)
                                                  · skip
                                                    obtain ⟨x1', x1'B, rfl⟩ := r_nat c415
                                                    have x1'T := n_tI x1'B
                                                    refine lv_iinc (v := nI (i + 1)) (lv' := [(15, .int (nI (i + 1))), (13, .int (nI (x1'))), (14, .int (nI (y2))), (17, .int (nI (jb))), (0, .ref b), (1, .ref (a 0)), (2, .ref (a 30)), (4, .int (nI (w 30 37))), (5, .int (nI (w 30 0 ^ w 30 37))), (6, .ref (a 31)), (7, .ref (a 32)), (8, .int (nI (wh))), (9, .int (nI (dd))), (10, .int (nI (can))), (11, .int (nI (k))), (12, .int (nI (tw)))]) hx hb dL_law_521 hl (k := 15) rfl (nI_add i 1) (by decide) rfl (fun ls hl => ?_)
                                                    refine lv_goto (tgt := 293) hx hb dL_law_524 (by decide) ?_
                                                    exact ih293 (nI (x1')) y2 (i + 1) p1 _ _ _ (by omega) (by omega) (by first | exact FND_n hxn (fun t => c383 (hqa.trans t)) | exact hF2.elim (fun z => by rw [z.2]; exact FND_1 hxn c297 hqb (htw.elim (fun t => absurd t.1 (by have := z.1; omega)) (fun t => t.2))) (fun z => FND_2 hxn c297 hqb (htw.elim (fun t => t.2) (fun t => absurd t.1 (by have := z.1; omega))) z.2 (by first | exact fun _ => c405 | exact fun _ => absurd z.1 (by omega) | exact fun t => (m1_neg t x1'B).elim))) (by first | exact hy2 | exact hy) (by exact hp1) hP hD hS (lv_sub hl [1, 2, 0, 4, 5, 6, 7, 8, 9, 10, 11, 12, 13, 14, 15] rfl)
                                                  · skip
                                                    have htw1 : tw = 1 := htw.elim (fun t => t.1) (fun t => absurd t.1 c410)
                                                    have hk1 : k + 1 < w 30 (9 + dd) := htw.elim (fun t => t.2) (fun t => absurd t.1 c410)
                                                    have hx1n := FN2_neg (by omega) (hF2.elim (fun t => absurd t.1 (by omega)) (fun t => t.2)) c415
                                                    refine lv_iload hx hb dL_law_418 (lv_at hl 2 rfl) ?_
                                                    refine lv_istore (lv' := [(16, .int (nI (jb))), (13, .int x1), (14, .int (nI (y2))), (17, .int (nI (jb))), (0, .ref b), (1, .ref (a 0)), (2, .ref (a 30)), (4, .int (nI (w 30 37))), (5, .int (nI (w 30 0 ^ w 30 37))), (6, .ref (a 31)), (7, .ref (a 32)), (8, .int (nI (wh))), (9, .int (nI (dd))), (10, .int (nI (can))), (11, .int (nI (k))), (12, .int (nI (tw))), (15, .int (nI (i)))]) hx hb dL_law_420 hl (by decide) rfl (fun ls hl => ?_)
                                                    refine lv_iload hx hb dL_law_422 (lv_at hl 7 rfl) ?_
                                                    refine lv_iconst (v := nI (1)) hx hb dL_law_424 (by decide) ?_
                                                    refine lv_isub hx hb dL_law_425 ?_
                                                    refine lv_istore (lv' := [(18, .int ((nI (w 30 37)) - (nI (1)))), (16, .int (nI (jb))), (13, .int x1), (14, .int (nI (y2))), (17, .int (nI (jb))), (0, .ref b), (1, .ref (a 0)), (2, .ref (a 30)), (4, .int (nI (w 30 37))), (5, .int (nI (w 30 0 ^ w 30 37))), (6, .ref (a 31)), (7, .ref (a 32)), (8, .int (nI (wh))), (9, .int (nI (dd))), (10, .int (nI (can))), (11, .int (nI (k))), (12, .int (nI (tw))), (15, .int (nI (i)))]) hx hb dL_law_426 hl (by decide) rfl (fun ls hl => ?_)
                                                    have L428 : ∀ (n : Nat) (z2 : Int32) (j2 : Nat) (y3 : Nat) (p1 : Nat → Nat) (H : Heap) (locs : List Loc) (ls : Array Slot), j2 < n → (j2 ≤ w 30 37) → (z2.toInt = (j2 : Int) - 1) → (y3 = jb / w 30 0 ^ (w 30 37 - j2)) → (y3 ≤ 64) → (∀ e, e < w 30 37 → p1 (w 30 37 * k + e) = digf (w 30 0) (w 30 37) i e) → (∀ e, j2 ≤ e → e < w 30 37 → p1 (w 30 37 * k + w 30 37 + e) = digf (w 30 0) (w 30 37) jb e) → (∀ q, q < 24 → p1 q < 8) → va_P D vwCl (jW a cI cJ cZ v c (va_up (va_up w 31 (p1)) 32 (p2))) H → va_D A (jW a cI cJ cZ v c (va_up (va_up w 31 (p1)) 32 (p2))) → va_S A s.heap H locs → lv_has ls 19 [(16, .int (nI (y3))), (18, .int z2), (0, .ref b), (1, .ref (a 0)), (2, .ref (a 30)), (4, .int (nI (w 30 37))), (5, .int (nI (w 30 0 ^ w 30 37))), (6, .ref (a 31)), (7, .ref (a 32)), (8, .int (nI (wh))), (9, .int (nI (dd))), (10, .int (nI (can))), (11, .int (nI (k))), (12, .int (nI (tw))), (13, .int x1), (14, .int (nI (y2))), (15, .int (nI (i))), (17, .int (nI (jb)))] → W p l e room_1 s m args below meth c0 H locs 29 706 Q (F0 m 428 ls []) := by
                                                      intro n
                                                      induction n with
                                                      | zero => intro z2 j2 y3 p1 H locs ls hm; exact absurd hm (Nat.not_lt_zero _)
                                                      | succ n ih428 =>
                                                        intro z2 j2 y3 p1 H locs ls hm428 hj2 hz2 hy3 hyl hdg hdg2 hp1 hP hD hS hl
                                                        refine lv_iload hx hb dL_law_428 (lv_at hl 1 rfl) ?_
                                                        refine r_if_lt hx hb dL_law_430 (tgt := 467) (by decide) (fun c430 => ?_) (fun c430 => ?_)
                                                        · skip
                                                          have ej2 : j2 = 0 := by omega
                                                          subst ej2
                                                          refine lv_aload_n hx hb dL_law_467 rfl (lv_at hl 4 rfl) ?_
                                                          have L488 : ∀ (q2 : Nat) (H : Heap) (locs : List Loc) (ls : Array Slot), (q2 = fEw (w 30) wh p1 (k + 1)) → va_P D vwCl (jW a cI cJ cZ v c (va_up (va_up w 31 (p1)) 32 (p2))) H → va_D A (jW a cI cJ cZ v c (va_up (va_up w 31 (p1)) 32 (p2))) → va_S A s.heap H locs → lv_has ls 19 [(0, .ref b), (1, .ref (a 0)), (2, .ref (a 30)), (4, .int (nI (w 30 37))), (5, .int (nI (w 30 0 ^ w 30 37))), (6, .ref (a 31)), (7, .ref (a 32)), (8, .int (nI (wh))), (9, .int (nI (dd))), (10, .int (nI (can))), (11, .int (nI (k))), (12, .int (nI (tw))), (13, .int x1), (14, .int (nI (y2))), (15, .int (nI (i))), (16, .int (nI (y3))), (17, .int (nI (jb))), (18, .int z2)] → W p l e room_1 s m args below meth c0 H locs 29 706 Q (F0 m 488 ls [.int (nI (q2))]) := by
                                                            intro q2 H locs ls hq2 hP hD hS hl
                                                            have hqa2 : q2 = R1 (w 30) wh k i jb (k + 1) := hq2.trans (fEw_b n1 hke hdg (fun e he => hdg2 e (Nat.zero_le _) he))
                                                            have h162 : q2 < 16 := by rw [hq2]; exact fEw_lt g2
                                                            refine lv_aload_n hx hb dL_law_488 rfl (lv_at hl 2 rfl) ?_
                                                            refine lv_bipush (v := nI (14)) hx hb dL_law_489 (by decide) ?_
                                                            refine lv_bipush (v := nI (6)) hx hb dL_law_491 (by decide) ?_
                                                            refine lv_iload hx hb dL_law_493 (lv_at hl 8 rfl) ?_
                                                            refine w_imul (x := 6) (y := dd) hx hb dL_law_495  ?_
                                                            refine w_iadd (x := 14) (y := 6 * dd) hx hb dL_law_496  ?_
                                                            refine lv_iload hx hb dL_law_497 (lv_at hl 10 rfl) ?_
                                                            refine w_iadd (x := 14 + (6 * dd)) (y := k) hx hb dL_law_499  ?_
                                                            refine w_iald (f := w 30) hx hb hK hP 26 0 rfl rfl (i := 14 + (6 * dd) + k) (by first | omega | (have h9 := Nat.mul_le_mul n1 (show k ≤ 5 by omega); omega) | (have h9 := Nat.mul_le_mul n1 (show k + 1 ≤ 5 by omega); rw [Nat.mul_succ] at h9; omega) | (have h9 := Nat.mul_le_mul n1 (show k2 ≤ 5 by omega); omega)) (by decide) dL_law_500 ?_
                                                            rw [show (nI (w 30 (14 + (6 * dd) + k))) = (nI (w 30 (13 + 6 * dd + (k + 1)))) from by rw [show 14 + 6 * dd + k = 13 + 6 * dd + (k + 1) by omega]]
                                                            have hfg2 := g7 dd (k + 1) hdd2 hk1
                                                            refine w_icmp_eq (x := q2) (y := w 30 (13 + 6 * dd + (k + 1))) hx hb dL_law_501 (tgt := 507) (by decide) (by omega) (by omega) (fun c501 => ?_) (fun c501 => ?_)
                                                            · skip
                                                              refine lv_iload hx hb dL_law_507 (lv_at hl 14 rfl) ?_
                                                              refine lv_istore (lv' := [(13, .int (nI (i))), (0, .ref b), (1, .ref (a 0)), (2, .ref (a 30)), (4, .int (nI (w 30 37))), (5, .int (nI (w 30 0 ^ w 30 37))), (6, .ref (a 31)), (7, .ref (a 32)), (8, .int (nI (wh))), (9, .int (nI (dd))), (10, .int (nI (can))), (11, .int (nI (k))), (12, .int (nI (tw))), (14, .int (nI (y2))), (15, .int (nI (i))), (16, .int (nI (y3))), (17, .int (nI (jb))), (18, .int z2)]) hx hb dL_law_509 hl (by decide) rfl (fun ls hl => ?_)
                                                              refine lv_iload hx hb dL_law_511 (lv_at hl 16 rfl) ?_
                                                              refine lv_istore (lv' := [(14, .int (nI (jb))), (13, .int (nI (i))), (0, .ref b), (1, .ref (a 0)), (2, .ref (a 30)), (4, .int (nI (w 30 37))), (5, .int (nI (w 30 0 ^ w 30 37))), (6, .ref (a 31)), (7, .ref (a 32)), (8, .int (nI (wh))), (9, .int (nI (dd))), (10, .int (nI (can))), (11, .int (nI (k))), (12, .int (nI (tw))), (15, .int (nI (i))), (16, .int (nI (y3))), (17, .int (nI (jb))), (18, .int z2)]) hx hb dL_law_513 hl (by decide) rfl (fun ls hl => ?_)
                                                              refine lv_iinc (v := nI (jb + 1)) (lv' := [(17, .int (nI (jb + 1))), (14, .int (nI (jb))), (13, .int (nI (i))), (0, .ref b), (1, .ref (a 0)), (2, .ref (a 30)), (4, .int (nI (w 30 37))), (5, .int (nI (w 30 0 ^ w 30 37))), (6, .ref (a 31)), (7, .ref (a 32)), (8, .int (nI (wh))), (9, .int (nI (dd))), (10, .int (nI (can))), (11, .int (nI (k))), (12, .int (nI (tw))), (15, .int (nI (i))), (16, .int (nI (y3))), (18, .int z2)]) hx hb dL_law_515 hl (k := 16) rfl (nI_add jb 1) (by decide) rfl (fun ls hl => ?_)
                                                              refine lv_goto (tgt := 401) hx hb dL_law_518 (by decide) ?_
                                                              exact ih401 (nI (i)) jb (jb + 1) p1 _ _ _ (by omega) (by omega) (by first | exact Or.inr ⟨htw1, Or.inl ⟨hx1n.1, lt_s hx1n.2 (fun t => c501 (hqa2.trans t))⟩⟩ | exact Or.inr ⟨htw1, Or.inr ⟨rfl, c405, hqa2.symm.trans c501, hx1n.2⟩⟩) (by first | exact hy2 | omega) (by exact hdg) (by exact hp1) hP hD hS (lv_sub hl [2, 1, 0, 3, 4, 5, 6, 7, 8, 9, 10, 11, 12, 13, 14, 15] rfl)
                                                            · skip
                                                              refine lv_goto (tgt := 515) hx hb dL_law_504 (by decide) ?_
                                                              refine lv_iinc (v := nI (jb + 1)) (lv' := [(17, .int (nI (jb + 1))), (0, .ref b), (1, .ref (a 0)), (2, .ref (a 30)), (4, .int (nI (w 30 37))), (5, .int (nI (w 30 0 ^ w 30 37))), (6, .ref (a 31)), (7, .ref (a 32)), (8, .int (nI (wh))), (9, .int (nI (dd))), (10, .int (nI (can))), (11, .int (nI (k))), (12, .int (nI (tw))), (13, .int x1), (14, .int (nI (y2))), (15, .int (nI (i))), (16, .int (nI (y3))), (18, .int z2)]) hx hb dL_law_515 hl (k := 16) rfl (nI_add jb 1) (by decide) rfl (fun ls hl => ?_)
                                                              refine lv_goto (tgt := 401) hx hb dL_law_518 (by decide) ?_
                                                              exact ih401 x1 y2 (jb + 1) p1 _ _ _ (by omega) (by omega) (by first | exact Or.inr ⟨htw1, Or.inl ⟨hx1n.1, lt_s hx1n.2 (fun t => c501 (hqa2.trans t))⟩⟩ | exact Or.inr ⟨htw1, Or.inr ⟨rfl, c405, hqa2.symm.trans c501, hx1n.2⟩⟩) (by first | exact hy2 | omega) (by exact hdg) (by exact hp1) hP hD hS (lv_sub hl [13, 14, 0, 1, 2, 3, 4, 5, 6, 7, 8, 9, 10, 11, 12, 15] rfl)
                                                          refine lv_aload hx hb dL_law_468 (lv_at hl 7 rfl) ?_
                                                          refine lv_iload hx hb dL_law_470 (lv_at hl 12 rfl) ?_
                                                          refine lv_iconst (v := nI (1)) hx hb dL_law_472 (by decide) ?_
                                                          refine w_iadd (x := k) (y := 1) hx hb dL_law_473  ?_
                                                          refine lv_iload hx hb dL_law_474 (lv_at hl 9 rfl) ?_
                                                          refine lv_iconst (v := nI (1)) hx hb dL_law_476 (by decide) ?_
                                                          refine w_icmp_ne (x := wh) (y := 1) hx hb dL_law_477 (tgt := 484) (by decide) (by omega) (by omega) (fun c477 => ?_) (fun c477 => ?_)
                                                          · skip
                                                            refine lv_iconst (v := nI (0)) hx hb dL_law_484 (by decide) ?_
                                                            refine l_pSi (W1 := (lfW (f2 (a 30) (a 31)) cI cJ cZ (v2 (w 30) (p1)) c)) (rest := []) hx hb hml hown hts (k_felt0 l D (f2 (a 30) (a 31)) cI cJ cZ (va_A (lfW (f2 (a 30) (a 31)) cI cJ cZ (v2 (w 30) (p1)) c) H.size) (v2 (w 30) (p1)) c (k + 1) (by exact hgl) (by exact hgd) (by exact hp1) (by omega)) 4 gL_law_L_felt rfl hdL_felt ⟨Nat.le_of_ble_eq_true rfl, Nat.le_of_ble_eq_true rfl⟩ hK hN hP hD hS hA [26, 27] rfl rfl rfl rfl hl.1 rfl (Nat.le_of_ble_eq_true rfl) dL_law_485 ⟨Nat.le_of_ble_eq_true rfl, Nat.le_of_ble_eq_true rfl⟩ (fun r H locs hq_485 hP hS => ?_)
                                                            have hr_485 : r = nI (fE0 (w 30) (p1) (k + 1)) := hq_485
                                                            subst hr_485
                                                            have hP : va_P D vwCl (jW a cI cJ cZ v c (va_up (va_up w 31 (p1)) 32 (p2))) H := hP
                                                            have hD : va_D A (jW a cI cJ cZ v c (va_up (va_up w 31 (p1)) 32 (p2))) := hD
                                                            exact L488 (fE0 (w 30) (p1) (k + 1)) _ _ _ (by first | exact fEw_1 c477 | exact fEw_0 c477) hP hD hS (lv_sub hl [2, 3, 4, 5, 6, 7, 8, 9, 10, 11, 12, 13, 14, 15, 16, 0, 17, 1] rfl)
                                                          · skip
                                                            refine lv_iconst (v := nI (1)) hx hb dL_law_480 (by decide) ?_
                                                            refine lv_goto (tgt := 485) hx hb dL_law_481 (by decide) ?_
                                                            refine l_pSi (W1 := (lfW (f2 (a 30) (a 31)) cI cJ cZ (v2 (w 30) (p1)) c)) (rest := []) hx hb hml hown hts (k_felt1 l D (f2 (a 30) (a 31)) cI cJ cZ (va_A (lfW (f2 (a 30) (a 31)) cI cJ cZ (v2 (w 30) (p1)) c) H.size) (v2 (w 30) (p1)) c (k + 1) (by exact hgl) (by exact hgd) (by exact hp1) (by omega)) 4 gL_law_L_felt rfl hdL_felt ⟨Nat.le_of_ble_eq_true rfl, Nat.le_of_ble_eq_true rfl⟩ hK hN hP hD hS hA [26, 27] rfl rfl rfl rfl hl.1 rfl (Nat.le_of_ble_eq_true rfl) dL_law_485 ⟨Nat.le_of_ble_eq_true rfl, Nat.le_of_ble_eq_true rfl⟩ (fun r H locs hq_485 hP hS => ?_)
                                                            have hr_485 : r = nI (fE1 (w 30) (p1) (k + 1)) := hq_485
                                                            subst hr_485
                                                            have hP : va_P D vwCl (jW a cI cJ cZ v c (va_up (va_up w 31 (p1)) 32 (p2))) H := hP
                                                            have hD : va_D A (jW a cI cJ cZ v c (va_up (va_up w 31 (p1)) 32 (p2))) := hD
                                                            exact L488 (fE1 (w 30) (p1) (k + 1)) _ _ _ (by first | exact fEw_1 c477 | exact fEw_0 c477) hP hD hS (lv_sub hl [2, 3, 4, 5, 6, 7, 8, 9, 10, 11, 12, 13, 14, 15, 16, 0, 17, 1] rfl)
                                                        · skip
                                                          obtain ⟨z2', z2'B, rfl⟩ := r_nat c430
                                                          have z2'T := n_tI z2'B
                                                          have hjj2 : j2 = z2' + 1 := (by omega)
                                                          subst hjj2
                                                          refine lv_aload hx hb dL_law_433 (lv_at hl 7 rfl) ?_
                                                          refine lv_iload hx hb dL_law_435 (lv_at hl 5 rfl) ?_
                                                          refine lv_iload hx hb dL_law_437 (lv_at hl 12 rfl) ?_
                                                          refine w_imul (x := w 30 37) (y := k) hx hb dL_law_439  ?_
                                                          refine lv_iload hx hb dL_law_440 (lv_at hl 5 rfl) ?_
                                                          refine w_iadd (x := (w 30 37) * k) (y := w 30 37) hx hb dL_law_442  ?_
                                                          refine lv_iload hx hb dL_law_443 (lv_at hl 1 rfl) ?_
                                                          refine w_iadd (x := (w 30 37) * k + (w 30 37)) (y := z2') hx hb dL_law_445  ?_
                                                          refine lv_iload hx hb dL_law_446 (lv_at hl 0 rfl) ?_
                                                          refine lv_aload_n hx hb dL_law_448 rfl (lv_at hl 4 rfl) ?_
                                                          refine lv_iconst (v := nI (0)) hx hb dL_law_449 (by decide) ?_
                                                          refine w_iald (f := w 30) hx hb hK hP 26 0 rfl rfl (i := 0) (by first | omega | (have h9 := Nat.mul_le_mul n1 (show k ≤ 5 by omega); omega) | (have h9 := Nat.mul_le_mul n1 (show k + 1 ≤ 5 by omega); rw [Nat.mul_succ] at h9; omega) | (have h9 := Nat.mul_le_mul n1 (show k2 ≤ 5 by omega); omega)) (by decide) dL_law_450 ?_
                                                          refine w_irem (x := y3) (y := w 30 0) hx hb dL_law_451 (by omega) (by omega) (by omega) ?_
                                                          refine w_iast (f := p1) (w := y3 % (w 30 0)) hx hb hK hP hD hS 27 0 rfl rfl (i := (w 30 37) * k + (w 30 37) + z2') (by first | omega | (have h9 := Nat.mul_le_mul n1 (show k ≤ 5 by omega); omega) | (have h9 := Nat.mul_le_mul n1 (show k + 1 ≤ 5 by omega); rw [Nat.mul_succ] at h9; omega) | (have h9 := Nat.mul_le_mul n1 (show k2 ≤ 5 by omega); omega)) (by decide) dL_law_452 (fun H locs hP hD hS => ?_)
                                                          have hP : va_P D vwCl (jW a cI cJ cZ v c (va_up (va_up w 31 (va_up p1 ((w 30 37) * k + (w 30 37) + z2') (y3 % (w 30 0)))) 32 (p2))) H := hP
                                                          have hD : va_D A (jW a cI cJ cZ v c (va_up (va_up w 31 (va_up p1 ((w 30 37) * k + (w 30 37) + z2') (y3 % (w 30 0)))) 32 (p2))) := hD
                                                          refine lv_iload hx hb dL_law_453 (lv_at hl 0 rfl) ?_
                                                          refine lv_aload_n hx hb dL_law_455 rfl (lv_at hl 4 rfl) ?_
                                                          refine lv_iconst (v := nI (0)) hx hb dL_law_456 (by decide) ?_
                                                          refine w_iald (f := w 30) hx hb hK hP 26 0 rfl rfl (i := 0) (by first | omega | (have h9 := Nat.mul_le_mul n1 (show k ≤ 5 by omega); omega) | (have h9 := Nat.mul_le_mul n1 (show k + 1 ≤ 5 by omega); rw [Nat.mul_succ] at h9; omega) | (have h9 := Nat.mul_le_mul n1 (show k2 ≤ 5 by omega); omega)) (by decide) dL_law_457 ?_
                                                          refine w_idiv (x := y3) (y := w 30 0) hx hb dL_law_458 (by omega) (by omega) (by omega) ?_
                                                          refine lv_istore (lv' := [(16, .int (nI (y3 / (w 30 0)))), (18, .int (nI (z2'))), (0, .ref b), (1, .ref (a 0)), (2, .ref (a 30)), (4, .int (nI (w 30 37))), (5, .int (nI (w 30 0 ^ w 30 37))), (6, .ref (a 31)), (7, .ref (a 32)), (8, .int (nI (wh))), (9, .int (nI (dd))), (10, .int (nI (can))), (11, .int (nI (k))), (12, .int (nI (tw))), (13, .int x1), (14, .int (nI (y2))), (15, .int (nI (i))), (17, .int (nI (jb)))]) hx hb dL_law_459 hl (by decide) rfl (fun ls hl => ?_)
                                                          refine lv_iinc (v := (nI (z2')) + -1) (lv' := [(18, .int ((nI (z2')) + -1)), (16, .int (nI (y3 / (w 30 0)))), (0, .ref b), (1, .ref (a 0)), (2, .ref (a 30)), (4, .int (nI (w 30 37))), (5, .int (nI (w 30 0 ^ w 30 37))), (6, .ref (a 31)), (7, .ref (a 32)), (8, .int (nI (wh))), (9, .int (nI (dd))), (10, .int (nI (can))), (11, .int (nI (k))), (12, .int (nI (tw))), (13, .int x1), (14, .int (nI (y2))), (15, .int (nI (i))), (17, .int (nI (jb)))]) hx hb dL_law_461 hl (k := 1) rfl (rfl) (by decide) rfl (fun ls hl => ?_)
                                                          refine lv_goto (tgt := 428) hx hb dL_law_464 (by decide) ?_
                                                          exact ih428 ((nI (z2')) + -1) z2' (y3 / (w 30 0)) (va_up p1 ((w 30 37) * k + (w 30 37) + z2') (y3 % (w 30 0))) _ _ _ (by omega) (by omega) (by have h9 := dec_I (x := z2') (by omega); exact h9) (by exact (dig_s rfl hj2 hy3).2) (by exact Nat.le_trans (Nat.div_le_self _ _) hyl) (by exact fun e he => by rw [up_ne (by omega)]; exact hdg e he) (by exact dg_up rfl hdg2 (dig_s rfl hj2 hy3).1) (by exact up8 hp1 (by have h9 := Nat.mod_lt y3 (show 0 < w 30 0 by omega); omega)) hP hD hS (lv_sub hl [1, 0, 2, 3, 4, 5, 6, 7, 8, 9, 10, 11, 12, 13, 14, 15, 16, 17] rfl)
                                                    exact L428 ((w 30 37) + 1) ((nI (w 30 37)) - (nI (1))) (w 30 37) jb p1 _ _ _ (Nat.lt_succ_self _) (by omega) (by have h9 := pk_sub_toInt (a := w 30 37) (b := 1) (by omega) (by decide); omega) (by exact dig_0) (by omega) (by exact hdg) (by exact fun e h1 h2 => absurd h1 (by omega)) (by exact hp1) hP hD hS (lv_sub hl [1, 0, 5, 6, 7, 8, 9, 10, 11, 12, 13, 14, 15, 16, 2, 3, 17, 4] rfl)
                                          refine w_if_ne (x := tw) hx hb dL_law_391 (tgt := 398) (by decide) (by rcases htw with t | t <;> omega) (fun c391 => ?_) (fun c391 => ?_)
                                          · skip
                                            refine lv_iconst (v := nI (0)) hx hb dL_law_398 (by decide) ?_
                                            refine lv_istore (lv' := [(17, .int (nI (0))), (0, .ref b), (1, .ref (a 0)), (2, .ref (a 30)), (4, .int (nI (w 30 37))), (5, .int (nI (w 30 0 ^ w 30 37))), (6, .ref (a 31)), (7, .ref (a 32)), (8, .int (nI (wh))), (9, .int (nI (dd))), (10, .int (nI (can))), (11, .int (nI (k))), (12, .int (nI (tw))), (13, .int x), (14, .int (nI (y))), (15, .int (nI (i))), (16, .int (nI (y1)))]) hx hb dL_law_399 hl (by decide) rfl (fun ls hl => ?_)
                                            exact L401 ((w 30 0 ^ w 30 37 - 0) + 1) x y 0 p1 _ _ _ (Nat.lt_succ_self _) (by exact Nat.zero_le _) (by first | exact Or.inl ⟨c391, rfl⟩ | exact Or.inr ⟨htw.elim (fun z => z.1) (fun z => absurd z.1 c391), Or.inl ⟨hxn.1, fun b hb => absurd hb (Nat.not_lt_zero _)⟩⟩) (by exact hy) (by exact fun e he => hdg e (Nat.zero_le _) he) (by exact hp1) hP hD hS (lv_sub hl [13, 14, 0, 1, 2, 3, 4, 5, 6, 7, 8, 9, 10, 11, 12, 15] rfl)
                                          · skip
                                            refine lv_iload hx hb dL_law_394 (lv_at hl 14 rfl) ?_
                                            refine lv_istore (lv' := [(13, .int (nI (i))), (0, .ref b), (1, .ref (a 0)), (2, .ref (a 30)), (4, .int (nI (w 30 37))), (5, .int (nI (w 30 0 ^ w 30 37))), (6, .ref (a 31)), (7, .ref (a 32)), (8, .int (nI (wh))), (9, .int (nI (dd))), (10, .int (nI (can))), (11, .int (nI (k))), (12, .int (nI (tw))), (14, .int (nI (y))), (15, .int (nI (i))), (16, .int (nI (y1))), (17, .int z)]) hx hb dL_law_396 hl (by decide) rfl (fun ls hl => ?_)
                                            refine lv_iconst (v := nI (0)) hx hb dL_law_398 (by decide) ?_
                                            refine lv_istore (lv' := [(17, .int (nI (0))), (13, .int (nI (i))), (0, .ref b), (1, .ref (a 0)), (2, .ref (a 30)), (4, .int (nI (w 30 37))), (5, .int (nI (w 30 0 ^ w 30 37))), (6, .ref (a 31)), (7, .ref (a 32)), (8, .int (nI (wh))), (9, .int (nI (dd))), (10, .int (nI (can))), (11, .int (nI (k))), (12, .int (nI (tw))), (14, .int (nI (y))), (15, .int (nI (i))), (16, .int (nI (y1)))]) hx hb dL_law_399 hl (by decide) rfl (fun ls hl => ?_)
                                            exact L401 ((w 30 0 ^ w 30 37 - 0) + 1) (nI (i)) y 0 p1 _ _ _ (Nat.lt_succ_self _) (by exact Nat.zero_le _) (by first | exact Or.inl ⟨c391, rfl⟩ | exact Or.inr ⟨htw.elim (fun z => z.1) (fun z => absurd z.1 c391), Or.inl ⟨hxn.1, fun b hb => absurd hb (Nat.not_lt_zero _)⟩⟩) (by exact hy) (by exact fun e he => hdg e (Nat.zero_le _) he) (by exact hp1) hP hD hS (lv_sub hl [1, 14, 0, 2, 3, 4, 5, 6, 7, 8, 9, 10, 11, 12, 13, 15] rfl)
                                        · skip
                                          refine lv_goto (tgt := 521) hx hb dL_law_386 (by decide) ?_
                                          refine lv_iinc (v := nI (i + 1)) (lv' := [(15, .int (nI (i + 1))), (0, .ref b), (1, .ref (a 0)), (2, .ref (a 30)), (4, .int (nI (w 30 37))), (5, .int (nI (w 30 0 ^ w 30 37))), (6, .ref (a 31)), (7, .ref (a 32)), (8, .int (nI (wh))), (9, .int (nI (dd))), (10, .int (nI (can))), (11, .int (nI (k))), (12, .int (nI (tw))), (13, .int x), (14, .int (nI (y))), (16, .int (nI (y1))), (17, .int z)]) hx hb dL_law_521 hl (k := 14) rfl (nI_add i 1) (by decide) rfl (fun ls hl => ?_)
                                          refine lv_goto (tgt := 293) hx hb dL_law_524 (by decide) ?_
                                          exact ih293 x y (i + 1) p1 _ _ _ (by omega) (by omega) (by first | exact FND_n hxn (fun t => c383 (hqa.trans t)) | exact hF2.elim (fun z => by rw [z.2]; exact FND_1 hxn c297 hqb (htw.elim (fun t => absurd t.1 (by have := z.1; omega)) (fun t => t.2))) (fun z => FND_2 hxn c297 hqb (htw.elim (fun t => t.2) (fun t => absurd t.1 (by have := z.1; omega))) z.2 (by first | exact fun _ => c405 | exact fun _ => absurd z.1 (by omega) | exact fun t => (m1_neg t x1'B).elim))) (by first | exact hy2 | exact hy) (by exact hp1) hP hD hS (lv_sub hl [13, 14, 0, 1, 2, 3, 4, 5, 6, 7, 8, 9, 10, 11, 12] rfl)
                                      refine lv_aload hx hb dL_law_352 (lv_at hl 7 rfl) ?_
                                      refine lv_iload hx hb dL_law_354 (lv_at hl 12 rfl) ?_
                                      refine lv_iload hx hb dL_law_356 (lv_at hl 9 rfl) ?_
                                      refine lv_iconst (v := nI (1)) hx hb dL_law_358 (by decide) ?_
                                      refine w_icmp_ne (x := wh) (y := 1) hx hb dL_law_359 (tgt := 366) (by decide) (by omega) (by omega) (fun c359 => ?_) (fun c359 => ?_)
                                      · skip
                                        refine lv_iconst (v := nI (0)) hx hb dL_law_366 (by decide) ?_
                                        refine l_pSi (W1 := (lfW (f2 (a 30) (a 31)) cI cJ cZ (v2 (w 30) (p1)) c)) (rest := []) hx hb hml hown hts (k_felt0 l D (f2 (a 30) (a 31)) cI cJ cZ (va_A (lfW (f2 (a 30) (a 31)) cI cJ cZ (v2 (w 30) (p1)) c) H.size) (v2 (w 30) (p1)) c k (by exact hgl) (by exact hgd) (by exact hp1) (by omega)) 4 gL_law_L_felt rfl hdL_felt ⟨Nat.le_of_ble_eq_true rfl, Nat.le_of_ble_eq_true rfl⟩ hK hN hP hD hS hA [26, 27] rfl rfl rfl rfl hl.1 rfl (Nat.le_of_ble_eq_true rfl) dL_law_367 ⟨Nat.le_of_ble_eq_true rfl, Nat.le_of_ble_eq_true rfl⟩ (fun r H locs hq_367 hP hS => ?_)
                                        have hr_367 : r = nI (fE0 (w 30) (p1) (k)) := hq_367
                                        subst hr_367
                                        have hP : va_P D vwCl (jW a cI cJ cZ v c (va_up (va_up w 31 (p1)) 32 (p2))) H := hP
                                        have hD : va_D A (jW a cI cJ cZ v c (va_up (va_up w 31 (p1)) 32 (p2))) := hD
                                        exact L370 (fE0 (w 30) (p1) (k)) _ _ _ (by first | exact fEw_1 c359 | exact fEw_0 c359) hP hD hS (lv_sub hl [2, 3, 4, 5, 6, 7, 8, 9, 10, 11, 12, 13, 14, 15, 16, 0, 1] rfl)
                                      · skip
                                        refine lv_iconst (v := nI (1)) hx hb dL_law_362 (by decide) ?_
                                        refine lv_goto (tgt := 367) hx hb dL_law_363 (by decide) ?_
                                        refine l_pSi (W1 := (lfW (f2 (a 30) (a 31)) cI cJ cZ (v2 (w 30) (p1)) c)) (rest := []) hx hb hml hown hts (k_felt1 l D (f2 (a 30) (a 31)) cI cJ cZ (va_A (lfW (f2 (a 30) (a 31)) cI cJ cZ (v2 (w 30) (p1)) c) H.size) (v2 (w 30) (p1)) c k (by exact hgl) (by exact hgd) (by exact hp1) (by omega)) 4 gL_law_L_felt rfl hdL_felt ⟨Nat.le_of_ble_eq_true rfl, Nat.le_of_ble_eq_true rfl⟩ hK hN hP hD hS hA [26, 27] rfl rfl rfl rfl hl.1 rfl (Nat.le_of_ble_eq_true rfl) dL_law_367 ⟨Nat.le_of_ble_eq_true rfl, Nat.le_of_ble_eq_true rfl⟩ (fun r H locs hq_367 hP hS => ?_)
                                        have hr_367 : r = nI (fE1 (w 30) (p1) (k)) := hq_367
                                        subst hr_367
                                        have hP : va_P D vwCl (jW a cI cJ cZ v c (va_up (va_up w 31 (p1)) 32 (p2))) H := hP
                                        have hD : va_D A (jW a cI cJ cZ v c (va_up (va_up w 31 (p1)) 32 (p2))) := hD
                                        exact L370 (fE1 (w 30) (p1) (k)) _ _ _ (by first | exact fEw_1 c359 | exact fEw_0 c359) hP hD hS (lv_sub hl [2, 3, 4, 5, 6, 7, 8, 9, 10, 11, 12, 13, 14, 15, 16, 0, 1] rfl)
                                    · skip
                                      obtain ⟨z', z'B, rfl⟩ := r_nat c317
                                      have z'T := n_tI z'B
                                      have hjj : j = z' + 1 := (by omega)
                                      subst hjj
                                      refine lv_aload hx hb dL_law_320 (lv_at hl 7 rfl) ?_
                                      refine lv_iload hx hb dL_law_322 (lv_at hl 5 rfl) ?_
                                      refine lv_iload hx hb dL_law_324 (lv_at hl 12 rfl) ?_
                                      refine w_imul (x := w 30 37) (y := k) hx hb dL_law_326  ?_
                                      refine lv_iload hx hb dL_law_327 (lv_at hl 1 rfl) ?_
                                      refine w_iadd (x := (w 30 37) * k) (y := z') hx hb dL_law_329  ?_
                                      refine lv_iload hx hb dL_law_330 (lv_at hl 0 rfl) ?_
                                      refine lv_aload_n hx hb dL_law_332 rfl (lv_at hl 4 rfl) ?_
                                      refine lv_iconst (v := nI (0)) hx hb dL_law_333 (by decide) ?_
                                      refine w_iald (f := w 30) hx hb hK hP 26 0 rfl rfl (i := 0) (by first | omega | (have h9 := Nat.mul_le_mul n1 (show k ≤ 5 by omega); omega) | (have h9 := Nat.mul_le_mul n1 (show k + 1 ≤ 5 by omega); rw [Nat.mul_succ] at h9; omega) | (have h9 := Nat.mul_le_mul n1 (show k2 ≤ 5 by omega); omega)) (by decide) dL_law_334 ?_
                                      refine w_irem (x := y1) (y := w 30 0) hx hb dL_law_335 (by omega) (by omega) (by omega) ?_
                                      refine w_iast (f := p1) (w := y1 % (w 30 0)) hx hb hK hP hD hS 27 0 rfl rfl (i := (w 30 37) * k + z') (by first | omega | (have h9 := Nat.mul_le_mul n1 (show k ≤ 5 by omega); omega) | (have h9 := Nat.mul_le_mul n1 (show k + 1 ≤ 5 by omega); rw [Nat.mul_succ] at h9; omega) | (have h9 := Nat.mul_le_mul n1 (show k2 ≤ 5 by omega); omega)) (by decide) dL_law_336 (fun H locs hP hD hS => ?_)
                                      have hP : va_P D vwCl (jW a cI cJ cZ v c (va_up (va_up w 31 (va_up p1 ((w 30 37) * k + z') (y1 % (w 30 0)))) 32 (p2))) H := hP
                                      have hD : va_D A (jW a cI cJ cZ v c (va_up (va_up w 31 (va_up p1 ((w 30 37) * k + z') (y1 % (w 30 0)))) 32 (p2))) := hD
                                      refine lv_iload hx hb dL_law_337 (lv_at hl 0 rfl) ?_
                                      refine lv_aload_n hx hb dL_law_339 rfl (lv_at hl 4 rfl) ?_
                                      refine lv_iconst (v := nI (0)) hx hb dL_law_340 (by decide) ?_
                                      refine w_iald (f := w 30) hx hb hK hP 26 0 rfl rfl (i := 0) (by first | omega | (have h9 := Nat.mul_le_mul n1 (show k ≤ 5 by omega); omega) | (have h9 := Nat.mul_le_mul n1 (show k + 1 ≤ 5 by omega); rw [Nat.mul_succ] at h9; omega) | (have h9 := Nat.mul_le_mul n1 (show k2 ≤ 5 by omega); omega)) (by decide) dL_law_341 ?_
                                      refine w_idiv (x := y1) (y := w 30 0) hx hb dL_law_342 (by omega) (by omega) (by omega) ?_
                                      refine lv_istore (lv' := [(16, .int (nI (y1 / (w 30 0)))), (17, .int (nI (z'))), (0, .ref b), (1, .ref (a 0)), (2, .ref (a 30)), (4, .int (nI (w 30 37))), (5, .int (nI (w 30 0 ^ w 30 37))), (6, .ref (a 31)), (7, .ref (a 32)), (8, .int (nI (wh))), (9, .int (nI (dd))), (10, .int (nI (can))), (11, .int (nI (k))), (12, .int (nI (tw))), (13, .int x), (14, .int (nI (y))), (15, .int (nI (i)))]) hx hb dL_law_343 hl (by decide) rfl (fun ls hl => ?_)
                                      refine lv_iinc (v := (nI (z')) + -1) (lv' := [(17, .int ((nI (z')) + -1)), (16, .int (nI (y1 / (w 30 0)))), (0, .ref b), (1, .ref (a 0)), (2, .ref (a 30)), (4, .int (nI (w 30 37))), (5, .int (nI (w 30 0 ^ w 30 37))), (6, .ref (a 31)), (7, .ref (a 32)), (8, .int (nI (wh))), (9, .int (nI (dd))), (10, .int (nI (can))), (11, .int (nI (k))), (12, .int (nI (tw))), (13, .int x), (14, .int (nI (y))), (15, .int (nI (i)))]) hx hb dL_law_345 hl (k := 1) rfl (rfl) (by decide) rfl (fun ls hl => ?_)
                                      refine lv_goto (tgt := 315) hx hb dL_law_348 (by decide) ?_
                                      exact ih315 ((nI (z')) + -1) z' (y1 / (w 30 0)) (va_up p1 ((w 30 37) * k + z') (y1 % (w 30 0))) _ _ _ (by omega) (by omega) (by have h9 := dec_I (x := z') (by omega); exact h9) (by exact (dig_s rfl hj hy1).2) (by exact Nat.le_trans (Nat.div_le_self _ _) hyl) (by exact dg_up rfl hdg (dig_s rfl hj hy1).1) (by exact up8 hp1 (by have h9 := Nat.mod_lt y1 (show 0 < w 30 0 by omega); omega)) hP hD hS (lv_sub hl [1, 0, 2, 3, 4, 5, 6, 7, 8, 9, 10, 11, 12, 13, 14, 15, 16] rfl)
                                exact L315 ((w 30 37) + 1) ((nI (w 30 37)) - (nI (1))) (w 30 37) i p1 _ _ _ (Nat.lt_succ_self _) (by omega) (by have h9 := pk_sub_toInt (a := w 30 37) (b := 1) (by omega) (by decide); omega) (by exact dig_0) (by omega) (by exact fun e h1 h2 => absurd h1 (by omega)) (by exact hp1) hP hD hS (lv_sub hl [1, 0, 5, 6, 7, 8, 9, 10, 11, 12, 13, 14, 15, 16, 2, 3, 4] rfl)
                        exact L293 ((w 30 0 ^ w 30 37 - 0) + 1) (-1) 0 0 p1 _ _ _ (Nat.lt_succ_self _) (by exact Nat.zero_le _) (by exact Or.inl ⟨rfl, fun a ha => absurd ha (Nat.not_lt_zero _)⟩) (by decide) (by exact hp1) hP hD hS (lv_sub hl [2, 1, 0, 4, 5, 6, 7, 8, 9, 10, 11, 12, 13, 14, 3] rfl)
                      refine lv_iload hx hb dL_law_263 (lv_at hl 1 rfl) ?_
                      refine lv_iconst (v := nI (1)) hx hb dL_law_265 (by decide) ?_
                      refine w_iadd (x := k) (y := 1) hx hb dL_law_266  ?_
                      refine lv_aload_n hx hb dL_law_267 rfl (lv_at hl 4 rfl) ?_
                      refine lv_bipush (v := nI (9)) hx hb dL_law_268 (by decide) ?_
                      refine lv_iload hx hb dL_law_270 (lv_at hl 10 rfl) ?_
                      refine w_iadd (x := 9) (y := dd) hx hb dL_law_272  ?_
                      refine w_iald (f := w 30) hx hb hK hP 26 0 rfl rfl (i := 9 + dd) (by first | omega | (have h9 := Nat.mul_le_mul n1 (show k ≤ 5 by omega); omega) | (have h9 := Nat.mul_le_mul n1 (show k + 1 ≤ 5 by omega); rw [Nat.mul_succ] at h9; omega) | (have h9 := Nat.mul_le_mul n1 (show k2 ≤ 5 by omega); omega)) (by decide) dL_law_273 ?_
                      refine w_icmp_ge (x := k + 1) (y := w 30 (9 + dd)) hx hb dL_law_274 (tgt := 281) (by decide) (by omega) (by omega) (fun c274 => ?_) (fun c274 => ?_)
                      · skip
                        refine lv_iconst (v := nI (0)) hx hb dL_law_281 (by decide) ?_
                        refine lv_istore (lv' := [(12, .int (nI (0))), (10, .int (nI (can))), (11, .int (nI (k))), (0, .ref b), (1, .ref (a 0)), (2, .ref (a 30)), (4, .int (nI (w 30 37))), (5, .int (nI (w 30 0 ^ w 30 37))), (6, .ref (a 31)), (7, .ref (a 32)), (8, .int (nI (wh))), (9, .int (nI (dd)))]) hx hb dL_law_282 hl (by decide) rfl (fun ls hl => ?_)
                        exact L284 0 _ _ _ (by first | exact Or.inl ⟨rfl, c274⟩ | exact Or.inr ⟨rfl, Nat.not_lt.mpr c274⟩) hP hD hS (lv_sub hl [0, 3, 4, 5, 6, 7, 8, 9, 10, 11, 1, 2] rfl)
                      · skip
                        refine lv_iconst (v := nI (1)) hx hb dL_law_277 (by decide) ?_
                        refine lv_goto (tgt := 282) hx hb dL_law_278 (by decide) ?_
                        refine lv_istore (lv' := [(12, .int (nI (1))), (10, .int (nI (can))), (11, .int (nI (k))), (0, .ref b), (1, .ref (a 0)), (2, .ref (a 30)), (4, .int (nI (w 30 37))), (5, .int (nI (w 30 0 ^ w 30 37))), (6, .ref (a 31)), (7, .ref (a 32)), (8, .int (nI (wh))), (9, .int (nI (dd)))]) hx hb dL_law_282 hl (by decide) rfl (fun ls hl => ?_)
                        exact L284 1 _ _ _ (by first | exact Or.inl ⟨rfl, c274⟩ | exact Or.inr ⟨rfl, Nat.not_lt.mpr c274⟩) hP hD hS (lv_sub hl [0, 3, 4, 5, 6, 7, 8, 9, 10, 11, 1, 2] rfl)
              exact L246 ((w 30 (9 + dd) - 0) + 1) 1 0 p1 p2 _ _ _ (Nat.lt_succ_self _) (by omega) (by omega) (by exact Or.inl ⟨rfl, BS_0⟩) (by exact hp1) (by exact hp2) hP hD hS (lv_sub hl [1, 0, 3, 4, 5, 6, 7, 8, 9, 10, 2] rfl)
        exact L232 ((w 30 1 - 0) + 1) v c 0 p1 p2 _ _ _ (Nat.lt_succ_self _) (by exact hI) (by omega) (by exact hAL) (by exact hc3) (by exact hp1) (by exact hp2) hP hD hS (lv_sub hl [0, 2, 3, 4, 5, 6, 7, 8, 1] rfl)
  exact L223 ((2 - 0) + 1) v c 0 p1 p2 _ _ _ (Nat.lt_succ_self _) (by exact hI) (by omega) (by exact hAL) (by exact hc3) (by exact hp1) (by exact hp2) hP hD hS (lv_sub hl [0, 1, 2, 3, 4, 5, 6, 7] rfl)
