/-! ===== the law: plans by cells ===== -/
set_option maxHeartbeats 8000000 in
set_option maxRecDepth 100000 in
theorem sg_6 {p : Program} {l : Launch} {e : Env} {s : State} {m : MethodId} {args : Array Value} {below : List Frame} {meth : Method} {c0 : Code} {H : Heap} {locs : List Loc} {Q : State → Prop} {ls : Array Slot} {D : va_G} {a : Nat → Nat} {cI cJ cZ : ClassId} {A : Nat → Prop} {b L : Nat} {xs : Nat → Int32} {v : Nat → Nat → Nat} {c : Nat → Nat → Int32} {w : Nat → Nat → Nat}
    (hx : p.tables.exec = Jvm.exec) (hb : c0.code = cL_law) (hml : c0.maxLocals = 19) (hown : s.vm.findClass RL = some m.cls) (hts : ∀ w ∈ wsL_law, w.before args s = true) (hK : va_K D vwCl (xT cI cJ cZ) s) (hN : gN s) (hA : ∀ q : Nat, s.heap.size ≤ q → A q) (hX : va_X b L xs s s.heap) (hbl : b < s.heap.size) (hbA : ¬ A b) (hL2 : L < 2147483648)
     (p1 : Nat → Nat) (hI : XI v) (hgl : GL (w 30)) (hgd : GD (w 30)) (hAL : AL (w 30) v) (hc3 : c 2 3 = -1) (hp1 : ∀ q, q < 24 → p1 q < 8)
    (hP : va_P D vwCl (jW a cI cJ cZ v c (va_up w 31 (p1))) H) (hD : va_D A (jW a cI cJ cZ v c (va_up w 31 (p1)))) (hS : va_S A s.heap H locs) (hl : lv_has ls 19 [(0, .ref b), (1, .ref (a 0)), (2, .ref (a 30)), (4, .int (nI (w 30 37))), (5, .int (nI (w 30 0 ^ w 30 37))), (6, .ref (a 31))])
    (K : ∀ (v1 : Nat → Nat → Nat) (c1 : Nat → Nat → Int32) (p1 : Nat → Nat) (H : Heap) (locs : List Loc) (ls : Array Slot), (XI v1) → (AL (w 30) v1) → (c1 2 3 = -1) → (∀ q, q < 24 → p1 q < 8) → (SH1 v1 c1) → va_P D vwCl (jW a cI cJ cZ v1 c1 (va_up w 31 (p1))) H → va_D A (jW a cI cJ cZ v1 c1 (va_up w 31 (p1))) → va_S A s.heap H locs → lv_has ls 19 [(0, .ref b), (1, .ref (a 0)), (2, .ref (a 30)), (4, .int (nI (w 30 37))), (5, .int (nI (w 30 0 ^ w 30 37))), (6, .ref (a 31))] → W p l e room_1 s m args below meth c0 H locs 29 706 Q (F0 m 1206 ls [])) :
    W p l e room_1 s m args below meth c0 H locs 29 706 Q (F0 m 771 ls []) := by
  obtain ⟨⟨g1, g2⟩, ⟨g3, g4⟩, g5, g6, g7⟩ := id hgl
  obtain ⟨n1, n2⟩ := id hgd
  have hrw := rows_le g2 n1
  have g8 := p2_16 g2
  refine lv_iconst (v := nI (0)) hx hb dL_law_771 (by decide) ?_
  refine lv_istore (lv' := [(8, .int (nI (0))), (0, .ref b), (1, .ref (a 0)), (2, .ref (a 30)), (4, .int (nI (w 30 37))), (5, .int (nI (w 30 0 ^ w 30 37))), (6, .ref (a 31))]) hx hb dL_law_772 hl (by decide) rfl (fun ls hl => ?_)
  have L774 : ∀ (n : Nat) (v : Nat → Nat → Nat) (c : Nat → Nat → Int32) (tn : Nat) (p1 : Nat → Nat) (H : Heap) (locs : List Loc) (ls : Array Slot), 4 - tn < n → (XI v) → (tn ≤ 4) → (AL (w 30) v) → (c 2 3 = -1) → (∀ q, q < 24 → p1 q < 8) → (0 < tn → SH1 v c) → va_P D vwCl (jW a cI cJ cZ v c (va_up w 31 (p1))) H → va_D A (jW a cI cJ cZ v c (va_up w 31 (p1))) → va_S A s.heap H locs → lv_has ls 19 [(8, .int (nI (tn))), (0, .ref b), (1, .ref (a 0)), (2, .ref (a 30)), (4, .int (nI (w 30 37))), (5, .int (nI (w 30 0 ^ w 30 37))), (6, .ref (a 31))] → W p l e room_1 s m args below meth c0 H locs 29 706 Q (F0 m 774 ls []) := by
    intro n
    induction n with
    | zero => intro v c tn p1 H locs ls hm; exact absurd hm (Nat.not_lt_zero _)
    | succ n ih774 =>
      intro v c tn p1 H locs ls hm774 hI htn hAL hc3 hp1 hs hP hD hS hl
      refine lv_iload hx hb dL_law_774 (lv_at hl 0 rfl) ?_
      refine lv_iconst (v := nI (4)) hx hb dL_law_776 (by decide) ?_
      refine w_icmp_ge (x := tn) (y := 4) hx hb dL_law_777 (tgt := 1206) (by decide) (by omega) (by omega) (fun c777 => ?_) (fun c777 => ?_)
      · skip
        exact K v c p1 _ _ _ (by exact hI) (by exact hAL) (by exact hc3) (by exact hp1) (by exact hs (by omega)) hP hD hS (lv_sub hl [1, 2, 3, 4, 5, 6] rfl)
      · skip
        refine lv_aload_n hx hb dL_law_780 rfl (lv_at hl 1 rfl) ?_
        refine lv_bipush (v := nI (9)) hx hb dL_law_781 (by decide) ?_
        refine lv_iload hx hb dL_law_783 (lv_at hl 0 rfl) ?_
        refine w_iadd (x := 9) (y := tn) hx hb dL_law_785  ?_
        refine s_cSi (rest := []) hx hb hml hown hts (k_cell l D cI cJ cZ A (jW a cI cJ cZ v c (va_up w 31 (p1))) b L xs (9 + tn) (by omega)) 2 gL_law_L_cell rfl hdL_cell ⟨Nat.le_of_ble_eq_true rfl, Nat.le_of_ble_eq_true rfl⟩ hK hN hX hbl hbA hP hD hS hA rfl hl.1 rfl (Nat.le_of_ble_eq_true rfl) dL_law_786 ⟨Nat.le_of_ble_eq_true rfl, Nat.le_of_ble_eq_true rfl⟩ (fun r_786 u H locs hq hP hD hS => ?_)
        have hP : va_P D vwCl (jW a cI cJ cZ v c (va_up w 31 (p1))) H := hP
        have hD : va_D A (jW a cI cJ cZ v c (va_up w 31 (p1))) := hD
        refine lv_istore (lv' := [(9, .int r_786), (8, .int (nI (tn))), (0, .ref b), (1, .ref (a 0)), (2, .ref (a 30)), (4, .int (nI (w 30 37))), (5, .int (nI (w 30 0 ^ w 30 37))), (6, .ref (a 31))]) hx hb dL_law_789 hl (by decide) rfl (fun ls hl => ?_)
        refine lv_iconst (v := nI (1)) hx hb dL_law_791 (by decide) ?_
        refine lv_iload hx hb dL_law_792 (lv_at hl 0 rfl) ?_
        refine lv_bipush (v := nI (6)) hx hb dL_law_794 (by decide) ?_
        refine w_cSi (rest := [.int (nI (1))]) hx hb hml hown hts (k_some l D cI cJ cZ A (jW a cI cJ cZ v c (va_up w 31 (p1))) r_786 6 (by omega)) 2 gL_law_L_some rfl hdL_some ⟨Nat.le_of_ble_eq_true rfl, Nat.le_of_ble_eq_true rfl⟩ hK hN hP hD hS hA rfl hl.1 rfl (Nat.le_of_ble_eq_true rfl) dL_law_796 ⟨Nat.le_of_ble_eq_true rfl, Nat.le_of_ble_eq_true rfl⟩ (fun r u H locs hq hP hD hS => ?_)
        obtain ⟨j_796, hj_796, rfl⟩ := hq
        have hP : va_P D vwCl (jW a cI cJ cZ v c (va_up w 31 (p1))) H := hP
        have hD : va_D A (jW a cI cJ cZ v c (va_up w 31 (p1))) := hD
        refine w_iadd (x := 1) (y := j_796) hx hb dL_law_799  ?_
        refine lv_istore (lv' := [(10, .int (nI (1 + j_796))), (9, .int r_786), (8, .int (nI (tn))), (0, .ref b), (1, .ref (a 0)), (2, .ref (a 30)), (4, .int (nI (w 30 37))), (5, .int (nI (w 30 0 ^ w 30 37))), (6, .ref (a 31))]) hx hb dL_law_800 hl (by decide) rfl (fun ls hl => ?_)
        refine lv_iload hx hb dL_law_802 (lv_at hl 1 rfl) ?_
        refine lv_iconst (v := nI (3)) hx hb dL_law_804 (by decide) ?_
        refine lv_ishr hx hb dL_law_805 ?_
        refine lv_aload_n hx hb dL_law_806 rfl (lv_at hl 5 rfl) ?_
        refine lv_iconst (v := nI (1)) hx hb dL_law_807 (by decide) ?_
        refine w_iald (f := w 30) hx hb hK hP 26 0 rfl rfl (i := 1) (by first | omega | (have h9 := Nat.mul_le_mul n1 (show k ≤ 5 by omega); omega)) (by decide) dL_law_808 ?_
        refine w_cSi (rest := []) hx hb hml hown hts (k_some l D cI cJ cZ A (jW a cI cJ cZ v c (va_up w 31 (p1))) (r_786 >>> ((nI (3)) &&& 31)) (w 30 1) (by omega)) 2 gL_law_L_some rfl hdL_some ⟨Nat.le_of_ble_eq_true rfl, Nat.le_of_ble_eq_true rfl⟩ hK hN hP hD hS hA rfl hl.1 rfl (Nat.le_of_ble_eq_true rfl) dL_law_809 ⟨Nat.le_of_ble_eq_true rfl, Nat.le_of_ble_eq_true rfl⟩ (fun r u H locs hq hP hD hS => ?_)
        obtain ⟨j_809, hj_809, rfl⟩ := hq
        have hP : va_P D vwCl (jW a cI cJ cZ v c (va_up w 31 (p1))) H := hP
        have hD : va_D A (jW a cI cJ cZ v c (va_up w 31 (p1))) := hD
        refine lv_istore (lv' := [(11, .int (nI (j_809))), (10, .int (nI (1 + j_796))), (9, .int r_786), (8, .int (nI (tn))), (0, .ref b), (1, .ref (a 0)), (2, .ref (a 30)), (4, .int (nI (w 30 37))), (5, .int (nI (w 30 0 ^ w 30 37))), (6, .ref (a 31))]) hx hb dL_law_812 hl (by decide) rfl (fun ls hl => ?_)
        have L842 : ∀ (v : Nat → Nat → Nat) (c : Nat → Nat → Int32) (own : Nat) (H : Heap) (locs : List Loc) (ls : Array Slot), (XI v) → (AL (w 30) v) → (c 2 3 = -1) → (own = 0 ∨ (own = 1 ∧ ∃ st, PY (w 30) j_809 st)) → va_P D vwCl (jW a cI cJ cZ v c (va_up w 31 (p1))) H → va_D A (jW a cI cJ cZ v c (va_up w 31 (p1))) → va_S A s.heap H locs → lv_has ls 19 [(12, .int (nI (own))), (0, .ref b), (1, .ref (a 0)), (2, .ref (a 30)), (4, .int (nI (w 30 37))), (5, .int (nI (w 30 0 ^ w 30 37))), (6, .ref (a 31)), (8, .int (nI (tn))), (9, .int r_786), (10, .int (nI (1 + j_796))), (11, .int (nI (j_809)))] → W p l e room_1 s m args below meth c0 H locs 29 706 Q (F0 m 842 ls []) := by
          intro v c own H locs ls hI hAL hc3 hOW hP hD hS hl
          have L856 : ∀ (bts : Nat) (H : Heap) (locs : List Loc) (ls : Array Slot), ((1 ≤ bts ∧ bts ≤ 6) ∧ (own = 1 → bts = w 30 (9 + j_809))) → va_P D vwCl (jW a cI cJ cZ v c (va_up w 31 (p1))) H → va_D A (jW a cI cJ cZ v c (va_up w 31 (p1))) → va_S A s.heap H locs → lv_has ls 19 [(10, .int (nI (bts))), (0, .ref b), (1, .ref (a 0)), (2, .ref (a 30)), (4, .int (nI (w 30 37))), (5, .int (nI (w 30 0 ^ w 30 37))), (6, .ref (a 31)), (8, .int (nI (tn))), (9, .int r_786), (11, .int (nI (j_809))), (12, .int (nI (own)))] → W p l e room_1 s m args below meth c0 H locs 29 706 Q (F0 m 856 ls []) := by
            intro bts H locs ls hbts hP hD hS hl
            refine lv_aload_n hx hb dL_law_856 rfl (lv_at hl 2 rfl) ?_
            refine lv_iconst (v := nI (1)) hx hb dL_law_857 (by decide) ?_
            refine lv_iconst (v := nI (1)) hx hb dL_law_858 (by decide) ?_
            refine lv_bipush (v := nI (30)) hx hb dL_law_859 (by decide) ?_
            refine l_ciJ (W1 := (xW a cI cJ cZ v c)) (W2 := (lA3 a cI (va_up w 31 (p1)))) (rest := []) hx hb hml hown hts (t_sheet l D a cI cJ cZ (va_A (xW a cI cJ cZ v c) H.size) v c (nI (1)) (nI (1)) (nI (30)) hI) 3 gL_law_X6_sheet rfl hdX6_sheet ⟨Nat.le_of_ble_eq_true rfl, Nat.le_of_ble_eq_true rfl⟩ hK hN hP hD hS hA 0 6 rfl rfl rfl rfl hl.1 rfl (Nat.le_of_ble_eq_true rfl) dL_law_861 ⟨Nat.le_of_ble_eq_true rfl, Nat.le_of_ble_eq_true rfl⟩ (fun r_861 u H locs hq_861 hP hD hS => ?_)
            obtain ⟨v_861, c_861⟩ := u
            have hI_861 : XI v_861 := hq_861.1
            have hP : va_P D vwCl (jW a cI cJ cZ v_861 c_861 (va_up w 31 (p1))) H := hP
            have hD : va_D A (jW a cI cJ cZ v_861 c_861 (va_up w 31 (p1))) := hD
            have o861 := sheet1 hq_861.2 hc3 hAL
            have hr_861 : r_861 = nI (1) := by exact o861.1
            subst hr_861
            refine lv_iconst (v := nI (1)) hx hb dL_law_864 (by decide) ?_
            refine w_icmp_eq (x := 1) (y := 1) hx hb dL_law_865 (tgt := 870) (by decide) (by decide) (by decide) (fun _ => ?_) (fun h => absurd h (by decide))
            refine lv_iconst (v := nI (0)) hx hb dL_law_870 (by decide) ?_
            refine lv_istore (lv' := [(13, .int (nI (0))), (10, .int (nI (bts))), (0, .ref b), (1, .ref (a 0)), (2, .ref (a 30)), (4, .int (nI (w 30 37))), (5, .int (nI (w 30 0 ^ w 30 37))), (6, .ref (a 31)), (8, .int (nI (tn))), (9, .int r_786), (11, .int (nI (j_809))), (12, .int (nI (own)))]) hx hb dL_law_871 hl (by decide) rfl (fun ls hl => ?_)
            have L873 : ∀ (n : Nat) (v : Nat → Nat → Nat) (c : Nat → Nat → Int32) (k : Nat) (p1 : Nat → Nat) (H : Heap) (locs : List Loc) (ls : Array Slot), bts - k < n → (XI v) → (k ≤ bts) → (AL (w 30) v) → (c 2 3 = -1) → (SH1 v c) → (∀ q, q < 24 → p1 q < 8) → (CL (w 30) p1 c (w 30 37 * k)) → va_P D vwCl (jW a cI cJ cZ v c (va_up w 31 (p1))) H → va_D A (jW a cI cJ cZ v c (va_up w 31 (p1))) → va_S A s.heap H locs → lv_has ls 19 [(13, .int (nI (k))), (0, .ref b), (1, .ref (a 0)), (2, .ref (a 30)), (4, .int (nI (w 30 37))), (5, .int (nI (w 30 0 ^ w 30 37))), (6, .ref (a 31)), (8, .int (nI (tn))), (9, .int r_786), (10, .int (nI (bts))), (11, .int (nI (j_809))), (12, .int (nI (own)))] → W p l e room_1 s m args below meth c0 H locs 29 706 Q (F0 m 873 ls []) := by
              intro n
              induction n with
              | zero => intro v c k p1 H locs ls hm; exact absurd hm (Nat.not_lt_zero _)
              | succ n ih873 =>
                intro v c k p1 H locs ls hm873 hI hk hAL hc3 hs hp1 hcl hP hD hS hl
                refine lv_iload hx hb dL_law_873 (lv_at hl 0 rfl) ?_
                refine lv_iload hx hb dL_law_875 (lv_at hl 9 rfl) ?_
                refine w_icmp_ge (x := k) (y := bts) hx hb dL_law_877 (tgt := 1034) (by decide) (by omega) (by omega) (fun c877 => ?_) (fun c877 => ?_)
                · skip
                  have ek : k = bts := by omega
                  have hcb : CL (w 30) p1 c (w 30 37 * bts) := by rw [← ek]; exact hcl
                  refine lv_aload_n hx hb dL_law_1034 rfl (lv_at hl 2 rfl) ?_
                  refine lv_iload hx hb dL_law_1035 (lv_at hl 9 rfl) ?_
                  refine lv_iconst (v := nI (1)) hx hb dL_law_1037 (by decide) ?_
                  refine lv_iconst (v := nI (1)) hx hb dL_law_1038 (by decide) ?_
                  refine lv_iconst (v := nI (3)) hx hb dL_law_1039 (by decide) ?_
                  refine l_ciJ (W1 := (xW a cI cJ cZ v c)) (W2 := (lA3 a cI (va_up w 31 (p1)))) (rest := []) hx hb hml hown hts (t_opens l D a cI cJ cZ (va_A (xW a cI cJ cZ v c) H.size) v c (nI (bts)) (nI (1)) (nI (1)) (nI (3)) hI) 4 gL_law_X6_opens rfl hdX6_opens ⟨Nat.le_of_ble_eq_true rfl, Nat.le_of_ble_eq_true rfl⟩ hK hN hP hD hS hA 0 6 rfl rfl rfl rfl hl.1 rfl (Nat.le_of_ble_eq_true rfl) dL_law_1040 ⟨Nat.le_of_ble_eq_true rfl, Nat.le_of_ble_eq_true rfl⟩ (fun r_1040 u H locs hq_1040 hP hD hS => ?_)
                  obtain ⟨v_1040, c_1040⟩ := u
                  obtain ⟨F_1040, hq_1040, hX_1040⟩ := hq_1040
                  have hI_1040 : XI v_1040 := hX_1040.1
                  have hP : va_P D vwCl (jW a cI cJ cZ v_1040 c_1040 (va_up w 31 (p1))) H := hP
                  have hD : va_D A (jW a cI cJ cZ v_1040 c_1040 (va_up w 31 (p1))) := hD
                  refine lv_aload_n hx hb dL_law_1043 rfl (lv_at hl 3 rfl) ?_
                  refine lv_aload hx hb dL_law_1044 (lv_at hl 6 rfl) ?_
                  refine lv_iload hx hb dL_law_1046 (lv_at hl 9 rfl) ?_
                  refine l_pSi (W1 := (lfW (f2 (a 30) (a 31)) cI cJ cZ (v2 (w 30) (p1)) c_1040)) (rest := [.int r_1040]) hx hb hml hown hts (k_opened l D (f2 (a 30) (a 31)) cI cJ cZ (va_A (lfW (f2 (a 30) (a 31)) cI cJ cZ (v2 (w 30) (p1)) c_1040) H.size) (v2 (w 30) (p1)) c_1040 bts (by exact hgl) (by exact hgd) (by exact hp1) (by omega)) 3 gL_law_L_opened rfl hdL_opened ⟨Nat.le_of_ble_eq_true rfl, Nat.le_of_ble_eq_true rfl⟩ hK hN hP hD hS hA [26, 27] rfl rfl rfl rfl hl.1 rfl (Nat.le_of_ble_eq_true rfl) dL_law_1048 ⟨Nat.le_of_ble_eq_true rfl, Nat.le_of_ble_eq_true rfl⟩ (fun r H locs hq_1048 hP hS => ?_)
                  have ho_1048 : OPD (w 30) (p1) (bts) r := by obtain ⟨rr, er, h9⟩ := hq_1048; rw [er]; exact h9
                  obtain ⟨r_1048, er_1048⟩ : ∃ r9, r9 = r := ⟨_, rfl⟩
                  rw [← er_1048] at ho_1048 ⊢
                  have hP : va_P D vwCl (jW a cI cJ cZ v_1040 c_1040 (va_up w 31 (p1))) H := hP
                  have hD : va_D A (jW a cI cJ cZ v_1040 c_1040 (va_up w 31 (p1))) := hD
                  refine lv_icmp_eq (x := r_1040) (y := r_1048) hx hb dL_law_1051 (tgt := 1056) (by decide) (fun c1051 => ?_) (fun c1051 => absurd c1051 (by exact fun t => t (opens_ok hI hAL hgl hgd hs hbts.1 hcb hq_1040 ho_1048)))
                  refine lv_iconst (v := nI (0)) hx hb dL_law_1056 (by decide) ?_
                  refine lv_istore (lv' := [(13, .int (nI (0))), (0, .ref b), (1, .ref (a 0)), (2, .ref (a 30)), (4, .int (nI (w 30 37))), (5, .int (nI (w 30 0 ^ w 30 37))), (6, .ref (a 31)), (8, .int (nI (tn))), (9, .int r_786), (10, .int (nI (bts))), (11, .int (nI (j_809))), (12, .int (nI (own)))]) hx hb dL_law_1057 hl (by decide) rfl (fun ls hl => ?_)
                  have L1059 : ∀ (n : Nat) (v : Nat → Nat → Nat) (c : Nat → Nat → Int32) (k : Nat) (H : Heap) (locs : List Loc) (ls : Array Slot), bts - k < n → (XI v) → (k ≤ bts) → (AL (w 30) v) → (c 2 3 = -1) → (SH1 v c) → (CL (w 30) p1 c (w 30 37 * bts)) → va_P D vwCl (jW a cI cJ cZ v c (va_up w 31 (p1))) H → va_D A (jW a cI cJ cZ v c (va_up w 31 (p1))) → va_S A s.heap H locs → lv_has ls 19 [(13, .int (nI (k))), (0, .ref b), (1, .ref (a 0)), (2, .ref (a 30)), (4, .int (nI (w 30 37))), (5, .int (nI (w 30 0 ^ w 30 37))), (6, .ref (a 31)), (8, .int (nI (tn))), (9, .int r_786), (10, .int (nI (bts))), (11, .int (nI (j_809))), (12, .int (nI (own)))] → W p l e room_1 s m args below meth c0 H locs 29 706 Q (F0 m 1059 ls []) := by
                    intro n
                    induction n with
                    | zero => intro v c k H locs ls hm; exact absurd hm (Nat.not_lt_zero _)
                    | succ n ih1059 =>
                      intro v c k H locs ls hm1059 hI hk hAL hc3 hs hcl hP hD hS hl
                      refine lv_iload hx hb dL_law_1059 (lv_at hl 0 rfl) ?_
                      refine lv_iload hx hb dL_law_1061 (lv_at hl 9 rfl) ?_
                      refine w_icmp_ge (x := k) (y := bts) hx hb dL_law_1063 (tgt := 1097) (by decide) (by omega) (by omega) (fun c1063 => ?_) (fun c1063 => ?_)
                      · skip
                        refine lv_iconst (v := nI (0)) hx hb dL_law_1097 (by decide) ?_
                        refine lv_istore (lv' := [(13, .int (nI (0))), (0, .ref b), (1, .ref (a 0)), (2, .ref (a 30)), (4, .int (nI (w 30 37))), (5, .int (nI (w 30 0 ^ w 30 37))), (6, .ref (a 31)), (8, .int (nI (tn))), (9, .int r_786), (10, .int (nI (bts))), (11, .int (nI (j_809))), (12, .int (nI (own)))]) hx hb dL_law_1098 hl (by decide) rfl (fun ls hl => ?_)
                        have L1100 : ∀ (n : Nat) (v : Nat → Nat → Nat) (c : Nat → Nat → Int32) (dd : Nat) (H : Heap) (locs : List Loc) (ls : Array Slot), w 30 1 - dd < n → (XI v) → (dd ≤ w 30 1) → (AL (w 30) v) → (c 2 3 = -1) → (SH1 v c) → (CL (w 30) p1 c (w 30 37 * bts)) → va_P D vwCl (jW a cI cJ cZ v c (va_up w 31 (p1))) H → va_D A (jW a cI cJ cZ v c (va_up w 31 (p1))) → va_S A s.heap H locs → lv_has ls 19 [(13, .int (nI (dd))), (0, .ref b), (1, .ref (a 0)), (2, .ref (a 30)), (4, .int (nI (w 30 37))), (5, .int (nI (w 30 0 ^ w 30 37))), (6, .ref (a 31)), (8, .int (nI (tn))), (9, .int r_786), (10, .int (nI (bts))), (11, .int (nI (j_809))), (12, .int (nI (own)))] → W p l e room_1 s m args below meth c0 H locs 29 706 Q (F0 m 1100 ls []) := by
                          intro n
                          induction n with
                          | zero => intro v c dd H locs ls hm; exact absurd hm (Nat.not_lt_zero _)
                          | succ n ih1100 =>
                            intro v c dd H locs ls hm1100 hI hdd hAL hc3 hs hcl hP hD hS hl
                            refine lv_iload hx hb dL_law_1100 (lv_at hl 0 rfl) ?_
                            refine lv_aload_n hx hb dL_law_1102 rfl (lv_at hl 3 rfl) ?_
                            refine lv_iconst (v := nI (1)) hx hb dL_law_1103 (by decide) ?_
                            refine w_iald (f := w 30) hx hb hK hP 26 0 rfl rfl (i := 1) (by first | omega | (have h9 := Nat.mul_le_mul n1 (show k ≤ 5 by omega); omega)) (by decide) dL_law_1104 ?_
                            refine w_icmp_ge (x := dd) (y := w 30 1) hx hb dL_law_1105 (tgt := 1200) (by decide) (by omega) (by omega) (fun c1105 => ?_) (fun c1105 => ?_)
                            · skip
                              refine lv_iinc (v := nI (tn + 1)) (lv' := [(8, .int (nI (tn + 1))), (13, .int (nI (dd))), (0, .ref b), (1, .ref (a 0)), (2, .ref (a 30)), (4, .int (nI (w 30 37))), (5, .int (nI (w 30 0 ^ w 30 37))), (6, .ref (a 31)), (9, .int r_786), (10, .int (nI (bts))), (11, .int (nI (j_809))), (12, .int (nI (own)))]) hx hb dL_law_1200 hl (k := 7) rfl (nI_add tn 1) (by decide) rfl (fun ls hl => ?_)
                              refine lv_goto (tgt := 774) hx hb dL_law_1203 (by decide) ?_
                              exact ih774 v c (tn + 1) p1 _ _ _ (by omega) (by exact hI) (by omega) (by exact hAL) (by exact hc3) (by exact hp1) (by exact fun _ => hs) hP hD hS (lv_sub hl [0, 2, 3, 4, 5, 6, 7] rfl)
                            · skip
                              have hbd := g6 dd c1105
                              refine lv_aload_n hx hb dL_law_1108 rfl (lv_at hl 3 rfl) ?_
                              refine lv_bipush (v := nI (9)) hx hb dL_law_1109 (by decide) ?_
                              refine lv_iload hx hb dL_law_1111 (lv_at hl 0 rfl) ?_
                              refine w_iadd (x := 9) (y := dd) hx hb dL_law_1113  ?_
                              refine w_iald (f := w 30) hx hb hK hP 26 0 rfl rfl (i := 9 + dd) (by first | omega | (have h9 := Nat.mul_le_mul n1 (show k ≤ 5 by omega); omega)) (by decide) dL_law_1114 ?_
                              refine lv_iload hx hb dL_law_1115 (lv_at hl 9 rfl) ?_
                              refine w_icmp_le (x := w 30 (9 + dd)) (y := bts) hx hb dL_law_1117 (tgt := 1123) (by decide) (by omega) (by omega) (fun c1117 => ?_) (fun c1117 => ?_)
                              · skip
                                refine lv_bipush (v := -9) hx hb dL_law_1123 (by decide) ?_
                                refine lv_istore (lv' := [(14, .int (-9)), (13, .int (nI (dd))), (0, .ref b), (1, .ref (a 0)), (2, .ref (a 30)), (4, .int (nI (w 30 37))), (5, .int (nI (w 30 0 ^ w 30 37))), (6, .ref (a 31)), (8, .int (nI (tn))), (9, .int r_786), (10, .int (nI (bts))), (11, .int (nI (j_809))), (12, .int (nI (own)))]) hx hb dL_law_1125 hl (by decide) rfl (fun ls hl => ?_)
                                refine lv_aload_n hx hb dL_law_1127 rfl (lv_at hl 4 rfl) ?_
                                refine lv_bipush (v := nI (9)) hx hb dL_law_1128 (by decide) ?_
                                refine lv_iload hx hb dL_law_1130 (lv_at hl 1 rfl) ?_
                                refine w_iadd (x := 9) (y := dd) hx hb dL_law_1132  ?_
                                refine w_iald (f := w 30) hx hb hK hP 26 0 rfl rfl (i := 9 + dd) (by first | omega | (have h9 := Nat.mul_le_mul n1 (show k ≤ 5 by omega); omega)) (by decide) dL_law_1133 ?_
                                refine lv_iconst (v := nI (1)) hx hb dL_law_1134 (by decide) ?_
                                refine lv_isub hx hb dL_law_1135 ?_
                                refine lv_istore (lv' := [(15, .int ((nI (w 30 (9 + dd))) - (nI (1)))), (14, .int (-9)), (13, .int (nI (dd))), (0, .ref b), (1, .ref (a 0)), (2, .ref (a 30)), (4, .int (nI (w 30 37))), (5, .int (nI (w 30 0 ^ w 30 37))), (6, .ref (a 31)), (8, .int (nI (tn))), (9, .int r_786), (10, .int (nI (bts))), (11, .int (nI (j_809))), (12, .int (nI (own)))]) hx hb dL_law_1136 hl (by decide) rfl (fun ls hl => ?_)
                                have L1138 : ∀ (n : Nat) (z : Int32) (j : Nat) (y : Int32) (H : Heap) (locs : List Loc) (ls : Array Slot), j < n → (j ≤ w 30 (9 + dd)) → (z.toInt = (j : Int) - 1) → (WRi (w 30) p1 dd j y) → va_P D vwCl (jW a cI cJ cZ v c (va_up w 31 (p1))) H → va_D A (jW a cI cJ cZ v c (va_up w 31 (p1))) → va_S A s.heap H locs → lv_has ls 19 [(14, .int y), (15, .int z), (0, .ref b), (1, .ref (a 0)), (2, .ref (a 30)), (4, .int (nI (w 30 37))), (5, .int (nI (w 30 0 ^ w 30 37))), (6, .ref (a 31)), (8, .int (nI (tn))), (9, .int r_786), (10, .int (nI (bts))), (11, .int (nI (j_809))), (12, .int (nI (own))), (13, .int (nI (dd)))] → W p l e room_1 s m args below meth c0 H locs 29 706 Q (F0 m 1138 ls []) := by
                                  intro n
                                  induction n with
                                  | zero => intro z j y H locs ls hm; exact absurd hm (Nat.not_lt_zero _)
                                  | succ n ih1138 =>
                                    intro z j y H locs ls hm1138 hj hz hwr hP hD hS hl
                                    refine lv_iload hx hb dL_law_1138 (lv_at hl 1 rfl) ?_
                                    refine r_if_lt hx hb dL_law_1140 (tgt := 1178) (by decide) (fun c1140 => ?_) (fun c1140 => ?_)
                                    · skip
                                      have ej : j = 0 := by omega
                                      subst ej
                                      refine lv_aload_n hx hb dL_law_1178 rfl (lv_at hl 3 rfl) ?_
                                      refine lv_iload hx hb dL_law_1179 (lv_at hl 13 rfl) ?_
                                      refine lv_iconst (v := nI (1)) hx hb dL_law_1181 (by decide) ?_
                                      refine lv_iconst (v := nI (1)) hx hb dL_law_1182 (by decide) ?_
                                      refine lv_iconst (v := nI (3)) hx hb dL_law_1183 (by decide) ?_
                                      refine l_ciJ (W1 := (xW a cI cJ cZ v c)) (W2 := (lA3 a cI (va_up w 31 (p1)))) (rest := []) hx hb hml hown hts (t_wrong l D a cI cJ cZ (va_A (xW a cI cJ cZ v c) H.size) v c (nI (dd)) (nI (1)) (nI (1)) (nI (3)) hI) 4 gL_law_X6_wrong rfl hdX6_wrong ⟨Nat.le_of_ble_eq_true rfl, Nat.le_of_ble_eq_true rfl⟩ hK hN hP hD hS hA 0 6 rfl rfl rfl rfl hl.1 rfl (Nat.le_of_ble_eq_true rfl) dL_law_1184 ⟨Nat.le_of_ble_eq_true rfl, Nat.le_of_ble_eq_true rfl⟩ (fun r_1184 u H locs hq_1184 hP hD hS => ?_)
                                      obtain ⟨v_1184, c_1184⟩ := u
                                      obtain ⟨F_1184, hq_1184, hX_1184⟩ := hq_1184
                                      have hI_1184 : XI v_1184 := hX_1184.1
                                      have hP : va_P D vwCl (jW a cI cJ cZ v_1184 c_1184 (va_up w 31 (p1))) H := hP
                                      have hD : va_D A (jW a cI cJ cZ v_1184 c_1184 (va_up w 31 (p1))) := hD
                                      refine lv_iload hx hb dL_law_1187 (lv_at hl 0 rfl) ?_
                                      refine lv_icmp_eq (x := r_1184) (y := y) hx hb dL_law_1189 (tgt := 1194) (by decide) (fun c1189 => ?_) (fun c1189 => absurd c1189 (by exact fun t => t (wrong_ok hI hAL hgl hgd hs c1105 (show gBT (w 30) dd ≤ bts from c1117) hcl hq_1184 (WR_end hwr))))
                                      refine lv_iinc (v := nI (dd + 1)) (lv' := [(13, .int (nI (dd + 1))), (14, .int y), (15, .int z), (0, .ref b), (1, .ref (a 0)), (2, .ref (a 30)), (4, .int (nI (w 30 37))), (5, .int (nI (w 30 0 ^ w 30 37))), (6, .ref (a 31)), (8, .int (nI (tn))), (9, .int r_786), (10, .int (nI (bts))), (11, .int (nI (j_809))), (12, .int (nI (own)))]) hx hb dL_law_1194 hl (k := 13) rfl (nI_add dd 1) (by decide) rfl (fun ls hl => ?_)
                                      refine lv_goto (tgt := 1100) hx hb dL_law_1197 (by decide) ?_
                                      exact ih1100 v_1184 c_1184 (dd + 1) _ _ _ (by omega) (by exact hI_1184) (by omega) (by first | exact AL_xs hAL hX_1184 | exact hAL) (by first | exact (congrFun (XS_c hX_1184).1 3).trans hc3 | exact hc3) (by first | exact SH_xs hs hX_1184 | exact hs) (by first | exact CL_xs hcl hX_1184 | exact hcl) hP hD hS (lv_sub hl [0, 3, 4, 5, 6, 7, 8, 9, 10, 11, 12, 13] rfl)
                                    · skip
                                      obtain ⟨z', z'B, rfl⟩ := r_nat c1140
                                      have z'T := n_tI z'B
                                      have hjj : j = z' + 1 := (by omega)
                                      subst hjj
                                      refine lv_aload_n hx hb dL_law_1143 rfl (lv_at hl 4 rfl) ?_
                                      refine lv_aload hx hb dL_law_1144 (lv_at hl 7 rfl) ?_
                                      refine lv_iload hx hb dL_law_1146 (lv_at hl 1 rfl) ?_
                                      refine lv_iconst (v := nI (0)) hx hb dL_law_1148 (by decide) ?_
                                      refine l_pSi (W1 := (lfW (f2 (a 30) (a 31)) cI cJ cZ (v2 (w 30) (p1)) c)) (rest := []) hx hb hml hown hts (k_felt0 l D (f2 (a 30) (a 31)) cI cJ cZ (va_A (lfW (f2 (a 30) (a 31)) cI cJ cZ (v2 (w 30) (p1)) c) H.size) (v2 (w 30) (p1)) c z' (by exact hgl) (by exact hgd) (by exact hp1) (by omega)) 4 gL_law_L_felt rfl hdL_felt ⟨Nat.le_of_ble_eq_true rfl, Nat.le_of_ble_eq_true rfl⟩ hK hN hP hD hS hA [26, 27] rfl rfl rfl rfl hl.1 rfl (Nat.le_of_ble_eq_true rfl) dL_law_1149 ⟨Nat.le_of_ble_eq_true rfl, Nat.le_of_ble_eq_true rfl⟩ (fun r H locs hq_1149 hP hS => ?_)
                                      have hr_1149 : r = nI (fE0 (w 30) (p1) (z')) := hq_1149
                                      subst hr_1149
                                      have hP : va_P D vwCl (jW a cI cJ cZ v c (va_up w 31 (p1))) H := hP
                                      have hD : va_D A (jW a cI cJ cZ v c (va_up w 31 (p1))) := hD
                                      refine lv_aload_n hx hb dL_law_1152 rfl (lv_at hl 4 rfl) ?_
                                      refine lv_bipush (v := nI (13)) hx hb dL_law_1153 (by decide) ?_
                                      refine lv_bipush (v := nI (6)) hx hb dL_law_1155 (by decide) ?_
                                      refine lv_iload hx hb dL_law_1157 (lv_at hl 13 rfl) ?_
                                      refine w_imul (x := 6) (y := dd) hx hb dL_law_1159  ?_
                                      refine w_iadd (x := 13) (y := 6 * dd) hx hb dL_law_1160  ?_
                                      refine lv_iload hx hb dL_law_1161 (lv_at hl 1 rfl) ?_
                                      refine w_iadd (x := 13 + (6 * dd)) (y := z') hx hb dL_law_1163  ?_
                                      refine w_iald (f := w 30) hx hb hK hP 26 0 rfl rfl (i := 13 + (6 * dd) + z') (by first | omega | (have h9 := Nat.mul_le_mul n1 (show k ≤ 5 by omega); omega)) (by decide) dL_law_1164 ?_
                                      have h16 := fE0_lt (p := p1) (k := z') g2
                                      have hfg := g7 dd z' c1105 (by omega)
                                      refine w_icmp_eq (x := fE0 (w 30) (p1) (z')) (y := w 30 (13 + (6 * dd) + z')) hx hb dL_law_1165 (tgt := 1172) (by decide) (by omega) (by omega) (fun c1165 => ?_) (fun c1165 => ?_)
                                      · skip
                                        refine lv_iinc (v := (nI (z')) + -1) (lv' := [(15, .int ((nI (z')) + -1)), (14, .int y), (0, .ref b), (1, .ref (a 0)), (2, .ref (a 30)), (4, .int (nI (w 30 37))), (5, .int (nI (w 30 0 ^ w 30 37))), (6, .ref (a 31)), (8, .int (nI (tn))), (9, .int r_786), (10, .int (nI (bts))), (11, .int (nI (j_809))), (12, .int (nI (own))), (13, .int (nI (dd)))]) hx hb dL_law_1172 hl (k := 1) rfl (rfl) (by decide) rfl (fun ls hl => ?_)
                                        refine lv_goto (tgt := 1138) hx hb dL_law_1175 (by decide) ?_
                                        exact ih1138 ((nI (z')) + -1) z' y _ _ _ (by omega) (by omega) (by have h9 := dec_I (x := z') (by omega); exact h9) (by first | exact WR_n hwr c1165 | exact WR_y hj c1165) hP hD hS (lv_sub hl [1, 0, 2, 3, 4, 5, 6, 7, 8, 9, 10, 11, 12, 13] rfl)
                                      · skip
                                        refine lv_iload hx hb dL_law_1168 (lv_at hl 1 rfl) ?_
                                        refine lv_istore (lv' := [(14, .int (nI (z'))), (15, .int (nI (z'))), (0, .ref b), (1, .ref (a 0)), (2, .ref (a 30)), (4, .int (nI (w 30 37))), (5, .int (nI (w 30 0 ^ w 30 37))), (6, .ref (a 31)), (8, .int (nI (tn))), (9, .int r_786), (10, .int (nI (bts))), (11, .int (nI (j_809))), (12, .int (nI (own))), (13, .int (nI (dd)))]) hx hb dL_law_1170 hl (by decide) rfl (fun ls hl => ?_)
                                        refine lv_iinc (v := (nI (z')) + -1) (lv' := [(15, .int ((nI (z')) + -1)), (14, .int (nI (z'))), (0, .ref b), (1, .ref (a 0)), (2, .ref (a 30)), (4, .int (nI (w 30 37))), (5, .int (nI (w 30 0 ^ w 30 37))), (6, .ref (a 31)), (8, .int (nI (tn))), (9, .int r_786), (10, .int (nI (bts))), (11, .int (nI (j_809))), (12, .int (nI (own))), (13, .int (nI (dd)))]) hx hb dL_law_1172 hl (k := 1) rfl (rfl) (by decide) rfl (fun ls hl => ?_)
                                        refine lv_goto (tgt := 1138) hx hb dL_law_1175 (by decide) ?_
                                        exact ih1138 ((nI (z')) + -1) z' (nI (z')) _ _ _ (by omega) (by omega) (by have h9 := dec_I (x := z') (by omega); exact h9) (by first | exact WR_n hwr c1165 | exact WR_y hj c1165) hP hD hS (lv_sub hl [1, 0, 2, 3, 4, 5, 6, 7, 8, 9, 10, 11, 12, 13] rfl)
                                exact L1138 ((w 30 (9 + dd)) + 1) ((nI (w 30 (9 + dd))) - (nI (1))) (w 30 (9 + dd)) (-9) _ _ _ (Nat.lt_succ_self _) (by omega) (by have h9 := pk_sub_toInt (a := w 30 (9 + dd)) (b := 1) (by omega) (by decide); omega) (by exact WR_0) hP hD hS (lv_sub hl [1, 0, 3, 4, 5, 6, 7, 8, 9, 10, 11, 12, 13, 2] rfl)
                              · skip
                                refine lv_goto (tgt := 1194) hx hb dL_law_1120 (by decide) ?_
                                refine lv_iinc (v := nI (dd + 1)) (lv' := [(13, .int (nI (dd + 1))), (0, .ref b), (1, .ref (a 0)), (2, .ref (a 30)), (4, .int (nI (w 30 37))), (5, .int (nI (w 30 0 ^ w 30 37))), (6, .ref (a 31)), (8, .int (nI (tn))), (9, .int r_786), (10, .int (nI (bts))), (11, .int (nI (j_809))), (12, .int (nI (own)))]) hx hb dL_law_1194 hl (k := 0) rfl (nI_add dd 1) (by decide) rfl (fun ls hl => ?_)
                                refine lv_goto (tgt := 1100) hx hb dL_law_1197 (by decide) ?_
                                exact ih1100 v c (dd + 1) _ _ _ (by omega) (by exact hI) (by omega) (by first | exact AL_xs hAL hX_1184 | exact hAL) (by first | exact (congrFun (XS_c hX_1184).1 3).trans hc3 | exact hc3) (by first | exact SH_xs hs hX_1184 | exact hs) (by first | exact CL_xs hcl hX_1184 | exact hcl) hP hD hS (lv_sub hl [0, 1, 2, 3, 4, 5, 6, 7, 8, 9, 10, 11] rfl)
                        exact L1100 ((w 30 1 - 0) + 1) v c 0 _ _ _ (Nat.lt_succ_self _) (by exact hI) (by omega) (by exact hAL) (by exact hc3) (by exact hs) (by exact hcl) hP hD hS (lv_sub hl [0, 1, 2, 3, 4, 5, 6, 7, 8, 9, 10, 11] rfl)
                      · skip
                        refine lv_aload_n hx hb dL_law_1066 rfl (lv_at hl 2 rfl) ?_
                        refine lv_iload hx hb dL_law_1067 (lv_at hl 9 rfl) ?_
                        refine lv_iload hx hb dL_law_1069 (lv_at hl 0 rfl) ?_
                        refine lv_iconst (v := nI (1)) hx hb dL_law_1071 (by decide) ?_
                        refine lv_iconst (v := nI (1)) hx hb dL_law_1072 (by decide) ?_
                        refine lv_iconst (v := nI (3)) hx hb dL_law_1073 (by decide) ?_
                        refine l_ciJ (W1 := (xW a cI cJ cZ v c)) (W2 := (lA3 a cI (va_up w 31 (p1)))) (rest := []) hx hb hml hown hts (t_felt l D a cI cJ cZ (va_A (xW a cI cJ cZ v c) H.size) v c (nI (bts)) (nI (k)) (nI (1)) (nI (1)) (nI (3)) hI) 5 gL_law_X6_felt rfl hdX6_felt ⟨Nat.le_of_ble_eq_true rfl, Nat.le_of_ble_eq_true rfl⟩ hK hN hP hD hS hA 0 6 rfl rfl rfl rfl hl.1 rfl (Nat.le_of_ble_eq_true rfl) dL_law_1074 ⟨Nat.le_of_ble_eq_true rfl, Nat.le_of_ble_eq_true rfl⟩ (fun r_1074 u H locs hq_1074 hP hD hS => ?_)
                        obtain ⟨v_1074, c_1074⟩ := u
                        obtain ⟨F_1074, hq_1074, hX_1074⟩ := hq_1074
                        have hI_1074 : XI v_1074 := hX_1074.1
                        have hP : va_P D vwCl (jW a cI cJ cZ v_1074 c_1074 (va_up w 31 (p1))) H := hP
                        have hD : va_D A (jW a cI cJ cZ v_1074 c_1074 (va_up w 31 (p1))) := hD
                        refine lv_aload_n hx hb dL_law_1077 rfl (lv_at hl 3 rfl) ?_
                        refine lv_aload hx hb dL_law_1078 (lv_at hl 6 rfl) ?_
                        refine lv_iload hx hb dL_law_1080 (lv_at hl 0 rfl) ?_
                        refine lv_iconst (v := nI (0)) hx hb dL_law_1082 (by decide) ?_
                        refine l_pSi (W1 := (lfW (f2 (a 30) (a 31)) cI cJ cZ (v2 (w 30) (p1)) c_1074)) (rest := [.int r_1074]) hx hb hml hown hts (k_felt0 l D (f2 (a 30) (a 31)) cI cJ cZ (va_A (lfW (f2 (a 30) (a 31)) cI cJ cZ (v2 (w 30) (p1)) c_1074) H.size) (v2 (w 30) (p1)) c_1074 k (by exact hgl) (by exact hgd) (by exact hp1) (by omega)) 4 gL_law_L_felt rfl hdL_felt ⟨Nat.le_of_ble_eq_true rfl, Nat.le_of_ble_eq_true rfl⟩ hK hN hP hD hS hA [26, 27] rfl rfl rfl rfl hl.1 rfl (Nat.le_of_ble_eq_true rfl) dL_law_1083 ⟨Nat.le_of_ble_eq_true rfl, Nat.le_of_ble_eq_true rfl⟩ (fun r H locs hq_1083 hP hS => ?_)
                        have hr_1083 : r = nI (fE0 (w 30) (p1) (k)) := hq_1083
                        subst hr_1083
                        have hP : va_P D vwCl (jW a cI cJ cZ v_1074 c_1074 (va_up w 31 (p1))) H := hP
                        have hD : va_D A (jW a cI cJ cZ v_1074 c_1074 (va_up w 31 (p1))) := hD
                        have h16 := fE0_lt (p := p1) (k := k) g2
                        refine lv_icmp_eq (x := r_1074) (y := nI (fE0 (w 30) (p1) (k))) hx hb dL_law_1086 (tgt := 1091) (by decide) (fun c1086 => ?_) (fun c1086 => absurd c1086 (by exact fun t => t (felt_ok hI hAL hgl hgd hs hbts.1 c1063 hcl hq_1074)))
                        refine lv_iinc (v := nI (k + 1)) (lv' := [(13, .int (nI (k + 1))), (0, .ref b), (1, .ref (a 0)), (2, .ref (a 30)), (4, .int (nI (w 30 37))), (5, .int (nI (w 30 0 ^ w 30 37))), (6, .ref (a 31)), (8, .int (nI (tn))), (9, .int r_786), (10, .int (nI (bts))), (11, .int (nI (j_809))), (12, .int (nI (own)))]) hx hb dL_law_1091 hl (k := 0) rfl (nI_add k 1) (by decide) rfl (fun ls hl => ?_)
                        refine lv_goto (tgt := 1059) hx hb dL_law_1094 (by decide) ?_
                        exact ih1059 v_1074 c_1074 (k + 1) _ _ _ (by omega) (by exact hI_1074) (by omega) (by exact AL_xs hAL hX_1074) (by exact (congrFun (XS_c hX_1074).1 3).trans hc3) (by exact SH_xs hs hX_1074) (by exact CL_xs hcl hX_1074) hP hD hS (lv_sub hl [0, 1, 2, 3, 4, 5, 6, 7, 8, 9, 10, 11] rfl)
                  exact L1059 ((bts - 0) + 1) v_1040 c_1040 0 _ _ _ (Nat.lt_succ_self _) (by exact hI_1040) (by omega) (by exact AL_xs hAL hX_1040) (by exact (congrFun (XS_c hX_1040).1 3).trans hc3) (by exact SH_xs hs hX_1040) (by exact CL_xs hcb hX_1040) hP hD hS (lv_sub hl [0, 1, 2, 3, 4, 5, 6, 7, 8, 9, 10, 11] rfl)
                · skip
                  refine lv_iconst (v := nI (0)) hx hb dL_law_880 (by decide) ?_
                  refine lv_istore (lv' := [(14, .int (nI (0))), (13, .int (nI (k))), (0, .ref b), (1, .ref (a 0)), (2, .ref (a 30)), (4, .int (nI (w 30 37))), (5, .int (nI (w 30 0 ^ w 30 37))), (6, .ref (a 31)), (8, .int (nI (tn))), (9, .int r_786), (10, .int (nI (bts))), (11, .int (nI (j_809))), (12, .int (nI (own)))]) hx hb dL_law_881 hl (by decide) rfl (fun ls hl => ?_)
                  have L883 : ∀ (n : Nat) (v : Nat → Nat → Nat) (c : Nat → Nat → Int32) (d : Nat) (p1 : Nat → Nat) (H : Heap) (locs : List Loc) (ls : Array Slot), w 30 37 - d < n → (XI v) → (d ≤ w 30 37) → (AL (w 30) v) → (c 2 3 = -1) → (SH1 v c) → (∀ q, q < 24 → p1 q < 8) → (CL (w 30) p1 c (w 30 37 * k + d)) → va_P D vwCl (jW a cI cJ cZ v c (va_up w 31 (p1))) H → va_D A (jW a cI cJ cZ v c (va_up w 31 (p1))) → va_S A s.heap H locs → lv_has ls 19 [(14, .int (nI (d))), (0, .ref b), (1, .ref (a 0)), (2, .ref (a 30)), (4, .int (nI (w 30 37))), (5, .int (nI (w 30 0 ^ w 30 37))), (6, .ref (a 31)), (8, .int (nI (tn))), (9, .int r_786), (10, .int (nI (bts))), (11, .int (nI (j_809))), (12, .int (nI (own))), (13, .int (nI (k)))] → W p l e room_1 s m args below meth c0 H locs 29 706 Q (F0 m 883 ls []) := by
                    intro n
                    induction n with
                    | zero => intro v c d p1 H locs ls hm; exact absurd hm (Nat.not_lt_zero _)
                    | succ n ih883 =>
                      intro v c d p1 H locs ls hm883 hI hd hAL hc3 hs hp1 hcl hP hD hS hl
                      refine lv_iload hx hb dL_law_883 (lv_at hl 0 rfl) ?_
                      refine lv_iload hx hb dL_law_885 (lv_at hl 4 rfl) ?_
                      refine w_icmp_ge (x := d) (y := w 30 37) hx hb dL_law_887 (tgt := 1028) (by decide) (by omega) (by omega) (fun c887 => ?_) (fun c887 => ?_)
                      · skip
                        refine lv_iinc (v := nI (k + 1)) (lv' := [(13, .int (nI (k + 1))), (14, .int (nI (d))), (0, .ref b), (1, .ref (a 0)), (2, .ref (a 30)), (4, .int (nI (w 30 37))), (5, .int (nI (w 30 0 ^ w 30 37))), (6, .ref (a 31)), (8, .int (nI (tn))), (9, .int r_786), (10, .int (nI (bts))), (11, .int (nI (j_809))), (12, .int (nI (own)))]) hx hb dL_law_1028 hl (k := 12) rfl (nI_add k 1) (by decide) rfl (fun ls hl => ?_)
                        refine lv_goto (tgt := 873) hx hb dL_law_1031 (by decide) ?_
                        exact ih873 v c (k + 1) p1 _ _ _ (by omega) (by exact hI) (by omega) (by exact hAL) (by exact hc3) (by exact hs) (by exact hp1) (by rw [Nat.mul_succ]; have ed : d = w 30 37 := (by omega); rw [ed] at hcl; exact hcl) hP hD hS (lv_sub hl [0, 2, 3, 4, 5, 6, 7, 8, 9, 10, 11, 12] rfl)
                      · skip
                        have hd3 : d < w 30 37 := c887
                        have hk5 : k ≤ 5 := by omega
                        refine lv_aload hx hb dL_law_890 (lv_at hl 6 rfl) ?_
                        have L944 : ∀ (v : Nat → Nat → Nat) (c : Nat → Nat → Int32) (p3 : Nat → Nat) (H : Heap) (locs : List Loc) (ls : Array Slot), (XI v) → (AL (w 30) v) → (c 2 3 = -1) → (SH1 v c) → (∀ q, q < 24 → p3 q < 8) → (CL (w 30) p3 c (w 30 37 * k + d)) → (p3 (w 30 37 * k + d) < w 30 0) → va_P D vwCl (jW a cI cJ cZ v c (va_up w 31 (p3))) H → va_D A (jW a cI cJ cZ v c (va_up w 31 (p3))) → va_S A s.heap H locs → lv_has ls 19 [(0, .ref b), (1, .ref (a 0)), (2, .ref (a 30)), (4, .int (nI (w 30 37))), (5, .int (nI (w 30 0 ^ w 30 37))), (6, .ref (a 31)), (8, .int (nI (tn))), (9, .int r_786), (10, .int (nI (bts))), (11, .int (nI (j_809))), (12, .int (nI (own))), (13, .int (nI (k))), (14, .int (nI (d)))] → W p l e room_1 s m args below meth c0 H locs 29 706 Q (F0 m 944 ls []) := by
                          intro v c p3 H locs ls hI hAL hc3 hs hp3 hcl hpd hP hD hS hl
                          have L990 : ∀ (p4 : Nat → Nat) (H : Heap) (locs : List Loc) (ls : Array Slot), (∀ q, q < 24 → p4 q < 8) → (CL (w 30) p4 c (w 30 37 * k + d)) → (p4 (w 30 37 * k + d) < w 30 0) → va_P D vwCl (jW a cI cJ cZ v c (va_up w 31 (p4))) H → va_D A (jW a cI cJ cZ v c (va_up w 31 (p4))) → va_S A s.heap H locs → lv_has ls 19 [(0, .ref b), (1, .ref (a 0)), (2, .ref (a 30)), (4, .int (nI (w 30 37))), (5, .int (nI (w 30 0 ^ w 30 37))), (6, .ref (a 31)), (8, .int (nI (tn))), (9, .int r_786), (10, .int (nI (bts))), (11, .int (nI (j_809))), (12, .int (nI (own))), (13, .int (nI (k))), (14, .int (nI (d)))] → W p l e room_1 s m args below meth c0 H locs 29 706 Q (F0 m 990 ls []) := by
                            intro p4 H locs ls hp4 hcl hpd hP hD hS hl
                            refine lv_aload_n hx hb dL_law_990 rfl (lv_at hl 1 rfl) ?_
                            refine lv_iconst (v := nI (1)) hx hb dL_law_991 (by decide) ?_
                            refine lv_iconst (v := nI (3)) hx hb dL_law_992 (by decide) ?_
                            refine lv_iload hx hb dL_law_993 (lv_at hl 3 rfl) ?_
                            refine lv_iload hx hb dL_law_995 (lv_at hl 11 rfl) ?_
                            refine w_imul (x := w 30 37) (y := k) hx hb dL_law_997  ?_
                            refine w_iadd (x := 3) (y := (w 30 37) * k) hx hb dL_law_998  ?_
                            refine lv_iload hx hb dL_law_999 (lv_at hl 12 rfl) ?_
                            refine w_iadd (x := 3 + ((w 30 37) * k)) (y := d) hx hb dL_law_1001  ?_
                            refine lv_aload hx hb dL_law_1002 (lv_at hl 5 rfl) ?_
                            refine lv_iload hx hb dL_law_1004 (lv_at hl 3 rfl) ?_
                            refine lv_iload hx hb dL_law_1006 (lv_at hl 11 rfl) ?_
                            refine w_imul (x := w 30 37) (y := k) hx hb dL_law_1008  ?_
                            refine lv_iload hx hb dL_law_1009 (lv_at hl 12 rfl) ?_
                            refine w_iadd (x := (w 30 37) * k) (y := d) hx hb dL_law_1011  ?_
                            refine w_iald (f := p4) hx hb hK hP 27 0 rfl rfl (i := (w 30 37) * k + d) (by first | omega | (have h9 := Nat.mul_le_mul n1 (show k ≤ 5 by omega); omega)) (by decide) dL_law_1012 ?_
                            rw [show (nI (3 + ((w 30 37) * k) + d)) = (nI (3 + (w 30 37 * k + d))) from by rw [Nat.add_assoc]]
                            refine l_ciJ (W1 := (xW a cI cJ cZ v c)) (W2 := (lA3 a cI (va_up w 31 (p4)))) (rest := []) hx hb hml hown hts (t_put l D a cI cJ cZ (va_A (xW a cI cJ cZ v c) H.size) v c (nI (1)) (nI (3 + (w 30 37 * k + d))) (nI (p4 ((w 30 37) * k + d))) hI) 3 gL_law_X6_put rfl hdX6_put ⟨Nat.le_of_ble_eq_true rfl, Nat.le_of_ble_eq_true rfl⟩ hK hN hP hD hS hA 0 6 rfl rfl rfl rfl hl.1 rfl (Nat.le_of_ble_eq_true rfl) dL_law_1013 ⟨Nat.le_of_ble_eq_true rfl, Nat.le_of_ble_eq_true rfl⟩ (fun r_1013 u H locs hq_1013 hP hD hS => ?_)
                            obtain ⟨v_1013, c_1013⟩ := u
                            have hI_1013 : XI v_1013 := hq_1013.1
                            have hP : va_P D vwCl (jW a cI cJ cZ v_1013 c_1013 (va_up w 31 (p4))) H := hP
                            have hD : va_D A (jW a cI cJ cZ v_1013 c_1013 (va_up w 31 (p4))) := hD
                            have o1013 := put1 hq_1013.2 hs hAL (by have h9 := Nat.mul_le_mul n1 (show k ≤ 5 by omega); omega) (by omega)
                            have hr_1013 : r_1013 = nI (1) := by exact o1013.1
                            subst hr_1013
                            refine lv_iconst (v := nI (1)) hx hb dL_law_1016 (by decide) ?_
                            refine w_icmp_eq (x := 1) (y := 1) hx hb dL_law_1017 (tgt := 1022) (by decide) (by decide) (by decide) (fun _ => ?_) (fun h => absurd h (by decide))
                            refine lv_iinc (v := nI (d + 1)) (lv' := [(14, .int (nI (d + 1))), (0, .ref b), (1, .ref (a 0)), (2, .ref (a 30)), (4, .int (nI (w 30 37))), (5, .int (nI (w 30 0 ^ w 30 37))), (6, .ref (a 31)), (8, .int (nI (tn))), (9, .int r_786), (10, .int (nI (bts))), (11, .int (nI (j_809))), (12, .int (nI (own))), (13, .int (nI (k)))]) hx hb dL_law_1022 hl (k := 12) rfl (nI_add d 1) (by decide) rfl (fun ls hl => ?_)
                            refine lv_goto (tgt := 883) hx hb dL_law_1025 (by decide) ?_
                            exact ih883 v_1013 c_1013 (d + 1) p4 _ _ _ (by omega) (by exact hI_1013) (by omega) (by exact o1013.2.2.2.1) (by exact (congrFun o1013.2.2.1 3).trans hc3) (by exact o1013.2.1) (by exact hp4) (by exact CL_s hcl o1013.2.2.2.2.2 o1013.2.2.2.2.1 hpd) hP hD hS (lv_sub hl [0, 1, 2, 3, 4, 5, 6, 7, 8, 9, 10, 11, 12] rfl)
                          refine lv_iload hx hb dL_law_944 (lv_at hl 10 rfl) ?_
                          refine w_if_eq (x := own) hx hb dL_law_946 (tgt := 990) (by decide) (by rcases hOW with t | t <;> omega) (fun c946 => ?_) (fun c946 => ?_)
                          · skip
                            exact L990 p3 _ _ _ (by first | exact hp3 | exact up8 hp3 (by omega)) (by first | exact hcl | exact CL_cg hcl (fun q hq => up_ne (by omega))) (by first | exact hpd | (rw [up_eq]; assumption)) hP hD hS (lv_sub hl [0, 1, 2, 3, 4, 5, 6, 7, 8, 9, 10, 11, 12] rfl)
                          · skip
                            refine lv_iload hx hb dL_law_949 (lv_at hl 7 rfl) ?_
                            refine lv_bipush (v := nI (8)) hx hb dL_law_951 (by decide) ?_
                            refine lv_iload hx hb dL_law_953 (lv_at hl 11 rfl) ?_
                            refine w_iadd (x := 8) (y := k) hx hb dL_law_955  ?_
                            refine lv_ishr hx hb dL_law_956 ?_
                            refine lv_bipush (v := nI (9)) hx hb dL_law_957 (by decide) ?_
                            refine w_cSi (rest := []) hx hb hml hown hts (k_some l D cI cJ cZ A (jW a cI cJ cZ v c (va_up w 31 (p3))) (r_786 >>> ((nI (8 + k)) &&& 31)) 9 (by omega)) 2 gL_law_L_some rfl hdL_some ⟨Nat.le_of_ble_eq_true rfl, Nat.le_of_ble_eq_true rfl⟩ hK hN hP hD hS hA rfl hl.1 rfl (Nat.le_of_ble_eq_true rfl) dL_law_959 ⟨Nat.le_of_ble_eq_true rfl, Nat.le_of_ble_eq_true rfl⟩ (fun r u H locs hq hP hD hS => ?_)
                            obtain ⟨j_959, hj_959, rfl⟩ := hq
                            have hP : va_P D vwCl (jW a cI cJ cZ v c (va_up w 31 (p3))) H := hP
                            have hD : va_D A (jW a cI cJ cZ v c (va_up w 31 (p3))) := hD
                            refine w_if_ne (x := j_959) hx hb dL_law_962 (tgt := 990) (by decide) (by omega) (fun c962 => ?_) (fun c962 => ?_)
                            · skip
                              exact L990 p3 _ _ _ (by first | exact hp3 | exact up8 hp3 (by omega)) (by first | exact hcl | exact CL_cg hcl (fun q hq => up_ne (by omega))) (by first | exact hpd | (rw [up_eq]; assumption)) hP hD hS (lv_sub hl [0, 1, 2, 3, 4, 5, 6, 7, 8, 9, 10, 11, 12] rfl)
                            · skip
                              refine lv_aload hx hb dL_law_965 (lv_at hl 5 rfl) ?_
                              refine lv_iload hx hb dL_law_967 (lv_at hl 3 rfl) ?_
                              refine lv_iload hx hb dL_law_969 (lv_at hl 11 rfl) ?_
                              refine w_imul (x := w 30 37) (y := k) hx hb dL_law_971  ?_
                              refine lv_iload hx hb dL_law_972 (lv_at hl 12 rfl) ?_
                              refine w_iadd (x := (w 30 37) * k) (y := d) hx hb dL_law_974  ?_
                              refine lv_iload hx hb dL_law_975 (lv_at hl 7 rfl) ?_
                              refine lv_bipush (v := nI (9)) hx hb dL_law_977 (by decide) ?_
                              refine lv_iload hx hb dL_law_979 (lv_at hl 12 rfl) ?_
                              refine w_iadd (x := 9) (y := d) hx hb dL_law_981  ?_
                              refine lv_ishr hx hb dL_law_982 ?_
                              refine lv_aload_n hx hb dL_law_983 rfl (lv_at hl 2 rfl) ?_
                              refine lv_iconst (v := nI (0)) hx hb dL_law_984 (by decide) ?_
                              refine w_iald (f := w 30) hx hb hK hP 26 0 rfl rfl (i := 0) (by first | omega | (have h9 := Nat.mul_le_mul n1 (show k ≤ 5 by omega); omega)) (by decide) dL_law_985 ?_
                              refine w_cSi (rest := [.int (nI ((w 30 37) * k + d)), .ref (a 31)]) hx hb hml hown hts (k_some l D cI cJ cZ A (jW a cI cJ cZ v c (va_up w 31 (p3))) (r_786 >>> ((nI (9 + d)) &&& 31)) (w 30 0) (by omega)) 2 gL_law_L_some rfl hdL_some ⟨Nat.le_of_ble_eq_true rfl, Nat.le_of_ble_eq_true rfl⟩ hK hN hP hD hS hA rfl hl.1 rfl (Nat.le_of_ble_eq_true rfl) dL_law_986 ⟨Nat.le_of_ble_eq_true rfl, Nat.le_of_ble_eq_true rfl⟩ (fun r u H locs hq hP hD hS => ?_)
                              obtain ⟨j_986, hj_986, rfl⟩ := hq
                              have hP : va_P D vwCl (jW a cI cJ cZ v c (va_up w 31 (p3))) H := hP
                              have hD : va_D A (jW a cI cJ cZ v c (va_up w 31 (p3))) := hD
                              refine w_iast (f := p3) (w := j_986) hx hb hK hP hD hS 27 0 rfl rfl (i := (w 30 37) * k + d) (by first | omega | (have h9 := Nat.mul_le_mul n1 (show k ≤ 5 by omega); omega)) (by decide) dL_law_989 (fun H locs hP hD hS => ?_)
                              have hP : va_P D vwCl (jW a cI cJ cZ v c (va_up w 31 (va_up p3 ((w 30 37) * k + d) j_986))) H := hP
                              have hD : va_D A (jW a cI cJ cZ v c (va_up w 31 (va_up p3 ((w 30 37) * k + d) j_986))) := hD
                              exact L990 (va_up p3 ((w 30 37) * k + d) j_986) _ _ _ (by first | exact hp3 | exact up8 hp3 (by omega)) (by first | exact hcl | exact CL_cg hcl (fun q hq => up_ne (by omega))) (by first | exact hpd | (rw [up_eq]; assumption)) hP hD hS (lv_sub hl [0, 1, 2, 3, 4, 5, 6, 7, 8, 9, 10, 11, 12] rfl)
                        refine lv_iload hx hb dL_law_892 (lv_at hl 4 rfl) ?_
                        refine lv_iload hx hb dL_law_894 (lv_at hl 12 rfl) ?_
                        refine w_imul (x := w 30 37) (y := k) hx hb dL_law_896  ?_
                        refine lv_iload hx hb dL_law_897 (lv_at hl 0 rfl) ?_
                        refine w_iadd (x := (w 30 37) * k) (y := d) hx hb dL_law_899  ?_
                        refine lv_iload hx hb dL_law_900 (lv_at hl 11 rfl) ?_
                        refine w_if_eq (x := own) hx hb dL_law_902 (tgt := 918) (by decide) (by rcases hOW with t | t <;> omega) (fun c902 => ?_) (fun c902 => ?_)
                        · skip
                          refine lv_aload_n hx hb dL_law_918 rfl (lv_at hl 1 rfl) ?_
                          refine lv_bipush (v := nI (13)) hx hb dL_law_919 (by decide) ?_
                          refine lv_iload hx hb dL_law_921 (lv_at hl 7 rfl) ?_
                          refine w_iadd (x := 13) (y := tn) hx hb dL_law_923  ?_
                          refine s_cSi (rest := [.int (nI ((w 30 37) * k + d)), .ref (a 31)]) hx hb hml hown hts (k_cell l D cI cJ cZ A (jW a cI cJ cZ v c (va_up w 31 (p1))) b L xs (13 + tn) (by omega)) 2 gL_law_L_cell rfl hdL_cell ⟨Nat.le_of_ble_eq_true rfl, Nat.le_of_ble_eq_true rfl⟩ hK hN hX hbl hbA hP hD hS hA rfl hl.1 rfl (Nat.le_of_ble_eq_true rfl) dL_law_924 ⟨Nat.le_of_ble_eq_true rfl, Nat.le_of_ble_eq_true rfl⟩ (fun r_924 u H locs hq hP hD hS => ?_)
                          have hP : va_P D vwCl (jW a cI cJ cZ v c (va_up w 31 (p1))) H := hP
                          have hD : va_D A (jW a cI cJ cZ v c (va_up w 31 (p1))) := hD
                          refine lv_iconst (v := nI (2)) hx hb dL_law_927 (by decide) ?_
                          refine lv_iload hx hb dL_law_928 (lv_at hl 12 rfl) ?_
                          refine w_imul (x := 2) (y := k) hx hb dL_law_930  ?_
                          refine lv_iconst (v := nI (3)) hx hb dL_law_931 (by decide) ?_
                          refine lv_iload hx hb dL_law_932 (lv_at hl 0 rfl) ?_
                          refine w_imul (x := 3) (y := d) hx hb dL_law_934  ?_
                          refine w_iadd (x := 2 * k) (y := 3 * d) hx hb dL_law_935  ?_
                          refine lv_ishr hx hb dL_law_936 ?_
                          refine lv_aload_n hx hb dL_law_937 rfl (lv_at hl 3 rfl) ?_
                          refine lv_iconst (v := nI (0)) hx hb dL_law_938 (by decide) ?_
                          refine w_iald (f := w 30) hx hb hK hP 26 0 rfl rfl (i := 0) (by first | omega | (have h9 := Nat.mul_le_mul n1 (show k ≤ 5 by omega); omega)) (by decide) dL_law_939 ?_
                          refine w_cSi (rest := [.int (nI ((w 30 37) * k + d)), .ref (a 31)]) hx hb hml hown hts (k_some l D cI cJ cZ A (jW a cI cJ cZ v c (va_up w 31 (p1))) (r_924 >>> ((nI (2 * k + (3 * d))) &&& 31)) (w 30 0) (by omega)) 2 gL_law_L_some rfl hdL_some ⟨Nat.le_of_ble_eq_true rfl, Nat.le_of_ble_eq_true rfl⟩ hK hN hP hD hS hA rfl hl.1 rfl (Nat.le_of_ble_eq_true rfl) dL_law_940 ⟨Nat.le_of_ble_eq_true rfl, Nat.le_of_ble_eq_true rfl⟩ (fun r u H locs hq hP hD hS => ?_)
                          obtain ⟨j_940, hj_940, rfl⟩ := hq
                          have hP : va_P D vwCl (jW a cI cJ cZ v c (va_up w 31 (p1))) H := hP
                          have hD : va_D A (jW a cI cJ cZ v c (va_up w 31 (p1))) := hD
                          refine w_iast (f := p1) (w := j_940) hx hb hK hP hD hS 27 0 rfl rfl (i := (w 30 37) * k + d) (by first | omega | (have h9 := Nat.mul_le_mul n1 (show k ≤ 5 by omega); omega)) (by decide) dL_law_943 (fun H locs hP hD hS => ?_)
                          have hP : va_P D vwCl (jW a cI cJ cZ v c (va_up w 31 (va_up p1 ((w 30 37) * k + d) j_940))) H := hP
                          have hD : va_D A (jW a cI cJ cZ v c (va_up w 31 (va_up p1 ((w 30 37) * k + d) j_940))) := hD
                          exact L944 v c (va_up p1 ((w 30 37) * k + d) j_940) _ _ _ (by exact hI) (by first | exact AL_xs hAL hX_912 | exact hAL) (by first | exact (congrFun (XS_c hX_912).1 3).trans hc3 | exact hc3) (by first | exact SH_xs hs hX_912 | exact hs) (by exact up8 hp1 (by omega)) (by first | exact CL_xs (CL_cg hcl (fun q hq => up_ne (by omega))) hX_912 | exact CL_cg hcl (fun q hq => up_ne (by omega))) (by rw [up_eq]; assumption) hP hD hS (lv_sub hl [1, 2, 3, 4, 5, 6, 7, 8, 9, 10, 11, 12, 0] rfl)
                        · skip
                          refine lv_aload_n hx hb dL_law_905 rfl (lv_at hl 2 rfl) ?_
                          refine lv_iload hx hb dL_law_906 (lv_at hl 10 rfl) ?_
                          refine lv_iload hx hb dL_law_908 (lv_at hl 12 rfl) ?_
                          refine lv_iload hx hb dL_law_910 (lv_at hl 0 rfl) ?_
                          refine l_ciJ (W1 := (xW a cI cJ cZ v c)) (W2 := (lA3 a cI (va_up w 31 (p1)))) (rest := [.int (nI ((w 30 37) * k + d)), .ref (a 31)]) hx hb hml hown hts (t_plan l D a cI cJ cZ (va_A (xW a cI cJ cZ v c) H.size) v c (nI (j_809)) (nI (k)) (nI (d)) hI) 3 gL_law_X6_plan rfl hdX6_plan ⟨Nat.le_of_ble_eq_true rfl, Nat.le_of_ble_eq_true rfl⟩ hK hN hP hD hS hA 0 6 rfl rfl rfl rfl hl.1 rfl (Nat.le_of_ble_eq_true rfl) dL_law_912 ⟨Nat.le_of_ble_eq_true rfl, Nat.le_of_ble_eq_true rfl⟩ (fun r_912 u H locs hq_912 hP hD hS => ?_)
                          obtain ⟨v_912, c_912⟩ := u
                          have hX_912 : XS v c (v_912, c_912) _ := hq_912.2
                          have hI_912 : XI v_912 := hX_912.1
                          have hP : va_P D vwCl (jW a cI cJ cZ v_912 c_912 (va_up w 31 (p1))) H := hP
                          have hD : va_D A (jW a cI cJ cZ v_912 c_912 (va_up w 31 (p1))) := hD
                          have hOW1 := hOW.resolve_left c902
                          obtain ⟨pv, hpv, erv⟩ := plan_lt hI hAL (by omega) hj_809 (show k < gBT (w 30) j_809 by have h9 := hbts.2 hOW1.1; show k < w 30 (9 + j_809); omega) hd3 hq_912.1 hOW1.2
                          have hr_912 : r_912 = nI (pv) := by exact erv
                          subst hr_912
                          refine lv_goto (tgt := 943) hx hb dL_law_915 (by decide) ?_
                          refine w_iast (f := p1) (w := pv) hx hb hK hP hD hS 27 0 rfl rfl (i := (w 30 37) * k + d) (by first | omega | (have h9 := Nat.mul_le_mul n1 (show k ≤ 5 by omega); omega)) (by decide) dL_law_943 (fun H locs hP hD hS => ?_)
                          have hP : va_P D vwCl (jW a cI cJ cZ v_912 c_912 (va_up w 31 (va_up p1 ((w 30 37) * k + d) pv))) H := hP
                          have hD : va_D A (jW a cI cJ cZ v_912 c_912 (va_up w 31 (va_up p1 ((w 30 37) * k + d) pv))) := hD
                          exact L944 v_912 c_912 (va_up p1 ((w 30 37) * k + d) pv) _ _ _ (by exact hI_912) (by first | exact AL_xs hAL hX_912 | exact hAL) (by first | exact (congrFun (XS_c hX_912).1 3).trans hc3 | exact hc3) (by first | exact SH_xs hs hX_912 | exact hs) (by exact up8 hp1 (by omega)) (by first | exact CL_xs (CL_cg hcl (fun q hq => up_ne (by omega))) hX_912 | exact CL_cg hcl (fun q hq => up_ne (by omega))) (by rw [up_eq]; assumption) hP hD hS (lv_sub hl [1, 2, 3, 4, 5, 6, 7, 8, 9, 10, 11, 12, 0] rfl)
                  exact L883 ((w 30 37 - 0) + 1) v c 0 p1 _ _ _ (Nat.lt_succ_self _) (by exact hI) (by omega) (by exact hAL) (by exact hc3) (by exact hs) (by exact hp1) (by exact hcl) hP hD hS (lv_sub hl [0, 2, 3, 4, 5, 6, 7, 8, 9, 10, 11, 12, 1] rfl)
            exact L873 ((bts - 0) + 1) v_861 c_861 0 p1 _ _ _ (Nat.lt_succ_self _) (by exact hI_861) (by omega) (by exact o861.2.2.2) (by exact o861.2.2.1) (by exact o861.2.1) (by exact hp1) (by exact fun q hq => absurd hq (by rw [Nat.mul_zero]; exact Nat.not_lt_zero _)) hP hD hS (lv_sub hl [0, 2, 3, 4, 5, 6, 7, 8, 9, 1, 10, 11] rfl)
          refine lv_iload hx hb dL_law_842 (lv_at hl 0 rfl) ?_
          refine w_if_eq (x := own) hx hb dL_law_844 (tgt := 856) (by decide) (by rcases hOW with t | t <;> omega) (fun c844 => ?_) (fun c844 => ?_)
          · skip
            exact L856 (1 + j_796) _ _ _ (by first | omega | exact ⟨g6 _ hj_809, fun _ => rfl⟩ | exact ⟨⟨by omega, by omega⟩, fun z => absurd z (by omega)⟩) hP hD hS (lv_sub hl [9, 1, 2, 3, 4, 5, 6, 7, 8, 10, 0] rfl)
          · skip
            refine lv_aload_n hx hb dL_law_847 rfl (lv_at hl 3 rfl) ?_
            refine lv_bipush (v := nI (9)) hx hb dL_law_848 (by decide) ?_
            refine lv_iload hx hb dL_law_850 (lv_at hl 10 rfl) ?_
            refine w_iadd (x := 9) (y := j_809) hx hb dL_law_852  ?_
            refine w_iald (f := w 30) hx hb hK hP 26 0 rfl rfl (i := 9 + j_809) (by first | omega | (have h9 := Nat.mul_le_mul n1 (show k ≤ 5 by omega); omega)) (by decide) dL_law_853 ?_
            refine lv_istore (lv' := [(10, .int (nI (w 30 (9 + j_809)))), (12, .int (nI (own))), (0, .ref b), (1, .ref (a 0)), (2, .ref (a 30)), (4, .int (nI (w 30 37))), (5, .int (nI (w 30 0 ^ w 30 37))), (6, .ref (a 31)), (8, .int (nI (tn))), (9, .int r_786), (11, .int (nI (j_809)))]) hx hb dL_law_854 hl (by decide) rfl (fun ls hl => ?_)
            exact L856 (w 30 (9 + j_809)) _ _ _ (by first | omega | exact ⟨g6 _ hj_809, fun _ => rfl⟩ | exact ⟨⟨by omega, by omega⟩, fun z => absurd z (by omega)⟩) hP hD hS (lv_sub hl [0, 2, 3, 4, 5, 6, 7, 8, 9, 10, 1] rfl)
        refine lv_iload hx hb dL_law_814 (lv_at hl 2 rfl) ?_
        refine lv_iconst (v := nI (5)) hx hb dL_law_816 (by decide) ?_
        refine lv_ishr hx hb dL_law_817 ?_
        refine lv_iconst (v := nI (2)) hx hb dL_law_818 (by decide) ?_
        refine w_cSi (rest := []) hx hb hml hown hts (k_some l D cI cJ cZ A (jW a cI cJ cZ v c (va_up w 31 (p1))) (r_786 >>> ((nI (5)) &&& 31)) 2 (by omega)) 2 gL_law_L_some rfl hdL_some ⟨Nat.le_of_ble_eq_true rfl, Nat.le_of_ble_eq_true rfl⟩ hK hN hP hD hS hA rfl hl.1 rfl (Nat.le_of_ble_eq_true rfl) dL_law_819 ⟨Nat.le_of_ble_eq_true rfl, Nat.le_of_ble_eq_true rfl⟩ (fun r u H locs hq hP hD hS => ?_)
        obtain ⟨j_819, hj_819, rfl⟩ := hq
        have hP : va_P D vwCl (jW a cI cJ cZ v c (va_up w 31 (p1))) H := hP
        have hD : va_D A (jW a cI cJ cZ v c (va_up w 31 (p1))) := hD
        refine w_if_ne (x := j_819) hx hb dL_law_822 (tgt := 839) (by decide) (by omega) (fun c822 => ?_) (fun c822 => ?_)
        · skip
          refine lv_iconst (v := nI (0)) hx hb dL_law_839 (by decide) ?_
          refine lv_istore (lv' := [(12, .int (nI (0))), (11, .int (nI (j_809))), (10, .int (nI (1 + j_796))), (9, .int r_786), (8, .int (nI (tn))), (0, .ref b), (1, .ref (a 0)), (2, .ref (a 30)), (4, .int (nI (w 30 37))), (5, .int (nI (w 30 0 ^ w 30 37))), (6, .ref (a 31))]) hx hb dL_law_840 hl (by decide) rfl (fun ls hl => ?_)
          exact L842 v c 0 _ _ _ (by exact hI) (by first | exact AL_xs hAL hX_828 | exact hAL) (by first | exact (congrFun (XS_c hX_828).1 3).trans hc3 | exact hc3) (by first | exact Or.inr ⟨rfl, can_1 hI hAL hj_809 hq_828.1 c832⟩ | exact Or.inl rfl) hP hD hS (lv_sub hl [0, 5, 6, 7, 8, 9, 10, 4, 3, 2, 1] rfl)
        · skip
          refine lv_aload_n hx hb dL_law_825 rfl (lv_at hl 5 rfl) ?_
          refine lv_iload hx hb dL_law_826 (lv_at hl 0 rfl) ?_
          refine l_ciJ (W1 := (xW a cI cJ cZ v c)) (W2 := (lA3 a cI (va_up w 31 (p1)))) (rest := []) hx hb hml hown hts (t_can l D a cI cJ cZ (va_A (xW a cI cJ cZ v c) H.size) v c (nI (j_809)) hI) 1 gL_law_X6_can rfl hdX6_can ⟨Nat.le_of_ble_eq_true rfl, Nat.le_of_ble_eq_true rfl⟩ hK hN hP hD hS hA 0 6 rfl rfl rfl rfl hl.1 rfl (Nat.le_of_ble_eq_true rfl) dL_law_828 ⟨Nat.le_of_ble_eq_true rfl, Nat.le_of_ble_eq_true rfl⟩ (fun r_828 u H locs hq_828 hP hD hS => ?_)
          obtain ⟨v_828, c_828⟩ := u
          have hX_828 : XS v c (v_828, c_828) _ := hq_828.2
          have hI_828 : XI v_828 := hX_828.1
          have hP : va_P D vwCl (jW a cI cJ cZ v_828 c_828 (va_up w 31 (p1))) H := hP
          have hD : va_D A (jW a cI cJ cZ v_828 c_828 (va_up w 31 (p1))) := hD
          refine lv_iconst (v := nI (1)) hx hb dL_law_831 (by decide) ?_
          refine lv_icmp_ne (x := r_828) (y := nI (1)) hx hb dL_law_832 (tgt := 839) (by decide) (fun c832 => ?_) (fun c832 => ?_)
          · skip
            refine lv_iconst (v := nI (0)) hx hb dL_law_839 (by decide) ?_
            refine lv_istore (lv' := [(12, .int (nI (0))), (11, .int (nI (j_809))), (10, .int (nI (1 + j_796))), (9, .int r_786), (8, .int (nI (tn))), (0, .ref b), (1, .ref (a 0)), (2, .ref (a 30)), (4, .int (nI (w 30 37))), (5, .int (nI (w 30 0 ^ w 30 37))), (6, .ref (a 31))]) hx hb dL_law_840 hl (by decide) rfl (fun ls hl => ?_)
            exact L842 v_828 c_828 0 _ _ _ (by exact hI_828) (by first | exact AL_xs hAL hX_828 | exact hAL) (by first | exact (congrFun (XS_c hX_828).1 3).trans hc3 | exact hc3) (by first | exact Or.inr ⟨rfl, can_1 hI hAL hj_809 hq_828.1 c832⟩ | exact Or.inl rfl) hP hD hS (lv_sub hl [0, 5, 6, 7, 8, 9, 10, 4, 3, 2, 1] rfl)
          · skip
            refine lv_iconst (v := nI (1)) hx hb dL_law_835 (by decide) ?_
            refine lv_goto (tgt := 840) hx hb dL_law_836 (by decide) ?_
            refine lv_istore (lv' := [(12, .int (nI (1))), (11, .int (nI (j_809))), (10, .int (nI (1 + j_796))), (9, .int r_786), (8, .int (nI (tn))), (0, .ref b), (1, .ref (a 0)), (2, .ref (a 30)), (4, .int (nI (w 30 37))), (5, .int (nI (w 30 0 ^ w 30 37))), (6, .ref (a 31))]) hx hb dL_law_840 hl (by decide) rfl (fun ls hl => ?_)
            exact L842 v_828 c_828 1 _ _ _ (by exact hI_828) (by first | exact AL_xs hAL hX_828 | exact hAL) (by first | exact (congrFun (XS_c hX_828).1 3).trans hc3 | exact hc3) (by first | exact Or.inr ⟨rfl, can_1 hI hAL hj_809 hq_828.1 c832⟩ | exact Or.inl rfl) hP hD hS (lv_sub hl [0, 5, 6, 7, 8, 9, 10, 4, 3, 2, 1] rfl)
  exact L774 ((4 - 0) + 1) v c 0 p1 _ _ _ (Nat.lt_succ_self _) (by exact hI) (by omega) (by exact hAL) (by exact hc3) (by exact hp1) (by exact fun z => absurd z (Nat.lt_irrefl _)) hP hD hS (lv_sub hl [0, 1, 2, 3, 4, 5, 6] rfl)
