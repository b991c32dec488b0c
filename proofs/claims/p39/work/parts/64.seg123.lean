/-! ===== the law: its lock, its dancers ===== -/
set_option maxHeartbeats 8000000 in
set_option maxRecDepth 100000 in
theorem sg_1 {p : Program} {l : Launch} {e : Env} {s : State} {m : MethodId} {args : Array Value} {below : List Frame} {meth : Method} {c0 : Code} {H : Heap} {locs : List Loc} {Q : State → Prop} {ls : Array Slot} {D : va_G} {a : Nat → Nat} {cI cJ cZ : ClassId} {A : Nat → Prop} {b L : Nat} {xs : Nat → Int32} {v : Nat → Nat → Nat} {c : Nat → Nat → Int32} {w : Nat → Nat → Nat}
    (hx : p.tables.exec = Jvm.exec) (hb : c0.code = cL_law) (hml : c0.maxLocals = 19) (hown : s.vm.findClass RL = some m.cls) (hts : ∀ w ∈ wsL_law, w.before args s = true) (hK : va_K D vwCl (xT cI cJ cZ) s) (hN : gN s) (hA : ∀ q : Nat, s.heap.size ≤ q → A q) (hX : va_X b L xs s s.heap) (hbl : b < s.heap.size) (hbA : ¬ A b) (hL2 : L < 2147483648)
     (t : Nat) (S : pS) (hI : XI v) (hT : TXx v c) (h5 : 5 ≤ t) (ht80 : t ≤ 80) (h37 : w 30 37 = 0) (hgl : GL (w 30)) (htk : TKN (c 4) t (w 30 0) (gND (w 30)) S) (hs1 : S.1 = w 30 1) (hs2 : PSs (w 30) S (w 30 1))
    (hP : va_P D vwCl (pW a cI cJ cZ v c w) H) (hD : va_D A (pW a cI cJ cZ v c w)) (hS : va_S A s.heap H locs) (hl : lv_has ls 19 [(0, .ref b), (1, .ref (a 0)), (2, .ref (a 30)), (3, .int (nI (t)))])
    (K : ∀ (v1 : Nat → Nat → Nat) (c1 : Nat → Nat → Int32) (n : Nat) (g : Nat → Nat) (H : Heap) (locs : List Loc) (ls : Array Slot), (XI v1) → (g 37 = n) → (GL g) → (GD g) → (AL g v1) → (c1 2 3 = -1) → va_P D vwCl (pW a cI cJ cZ v1 c1 (va_up w 30 (g))) H → va_D A (pW a cI cJ cZ v1 c1 (va_up w 30 (g))) → va_S A s.heap H locs → lv_has ls 19 [(0, .ref b), (1, .ref (a 0)), (2, .ref (a 30)), (4, .int (nI (n)))] → W p l e room_1 s m args below meth c0 H locs 27 658 Q (F0 m 89 ls [])) :
    W p l e room_1 s m args below meth c0 H locs 27 658 Q (F0 m 22 ls []) := by
  refine lv_iload_n hx hb dL_law_22 rfl (lv_at hl 3 rfl) ?_
  refine lv_iconst (v := nI (5)) hx hb dL_law_23 (by decide) ?_
  refine w_icmp_lt (x := t) (y := 5) hx hb dL_law_24 (tgt := 41) (by decide) (by omega) (by omega) (fun c24 => absurd c24 (by omega)) (fun c24 => ?_)
  refine lv_aload_n hx hb dL_law_27 rfl (lv_at hl 1 rfl) ?_
  refine lv_iconst (v := nI (0)) hx hb dL_law_28 (by decide) ?_
  refine lv_iconst (v := nI (0)) hx hb dL_law_29 (by decide) ?_
  refine lv_iconst (v := nI (0)) hx hb dL_law_30 (by decide) ?_
  refine lv_iload_n hx hb dL_law_31 rfl (lv_at hl 3 rfl) ?_
  refine l_ciJ (W1 := (xW a cI cJ cZ v c)) (W2 := (gA a cI w)) (rest := []) hx hb hml hown hts (t_lock l D a cI cJ cZ (va_A (xW a cI cJ cZ v c) H.size) v c (nI (0)) (nI (0)) (nI (0)) (nI (t)) hI) 4 gL_law_X6_lock rfl hdX6_lock ⟨Nat.le_of_ble_eq_true rfl, Nat.le_of_ble_eq_true rfl⟩ hK hN hP hD hS hA 0 6 rfl rfl rfl rfl hl.1 rfl (Nat.le_of_ble_eq_true rfl) dL_law_32 ⟨Nat.le_of_ble_eq_true rfl, Nat.le_of_ble_eq_true rfl⟩ (fun r_32 u H locs hq_32 hP hD hS => ?_)
  obtain ⟨v_32, c_32⟩ := u
  have hI_32 : XI v_32 := hq_32.1
  have hP : va_P D vwCl (pW a cI cJ cZ v_32 c_32 w) H := hP
  have hD : va_D A (pW a cI cJ cZ v_32 c_32 w) := hD
  obtain ⟨o1, hA_32, o3⟩ := lock_ok hq_32.2 hT ht80 hgl h37 htk hs1 hs2
  have o3 : c_32 2 = c 2 := o3
  have hC_32 : c_32 2 3 = -1 := by rw [o3]; exact hT.2.2
  have hr_32 : r_32 = nI (w 30 1) := by exact o1
  subst hr_32
  refine lv_aload_n hx hb dL_law_35 rfl (lv_at hl 2 rfl) ?_
  refine lv_iconst (v := nI (1)) hx hb dL_law_36 (by decide) ?_
  refine w_iald (f := w 30) hx hb hK hP 26 0 rfl rfl (i := 1) (by omega) (by decide) dL_law_37 ?_
  refine w_icmp_eq (x := w 30 1) (y := w 30 1) hx hb dL_law_38 (tgt := 43) (by decide) (by have h9 := hgl.2.1.2; omega) (by have h9 := hgl.2.1.2; omega) (fun c38 => ?_) (fun c38 => absurd c38 (by exact fun z => z rfl))
  refine lv_aload_n hx hb dL_law_43 rfl (lv_at hl 0 rfl) ?_
  refine lv_iconst (v := nI (5)) hx hb dL_law_44 (by decide) ?_
  refine s_cSi (rest := []) hx hb hml hown hts (k_cell l D cI cJ cZ A (pW a cI cJ cZ v_32 c_32 w) b L xs 5 (by omega)) 2 gL_law_L_cell rfl hdL_cell ⟨Nat.le_of_ble_eq_true rfl, Nat.le_of_ble_eq_true rfl⟩ hK hN hX hbl hbA hP hD hS hA rfl hl.1 rfl (Nat.le_of_ble_eq_true rfl) dL_law_45 ⟨Nat.le_of_ble_eq_true rfl, Nat.le_of_ble_eq_true rfl⟩ (fun r_45 u H locs hq hP hD hS => ?_)
  have hP : va_P D vwCl (pW a cI cJ cZ v_32 c_32 w) H := hP
  have hD : va_D A (pW a cI cJ cZ v_32 c_32 w) := hD
  refine lv_iconst (v := nI (4)) hx hb dL_law_48 (by decide) ?_
  refine w_cSi (rest := []) hx hb hml hown hts (k_some l D cI cJ cZ A (pW a cI cJ cZ v_32 c_32 w) r_45 4 (by omega)) 2 gL_law_L_some rfl hdL_some ⟨Nat.le_of_ble_eq_true rfl, Nat.le_of_ble_eq_true rfl⟩ hK hN hP hD hS hA rfl hl.1 rfl (Nat.le_of_ble_eq_true rfl) dL_law_49 ⟨Nat.le_of_ble_eq_true rfl, Nat.le_of_ble_eq_true rfl⟩ (fun r u H locs hq hP hD hS => ?_)
  obtain ⟨j_49, hj_49, rfl⟩ := hq
  have hP : va_P D vwCl (pW a cI cJ cZ v_32 c_32 w) H := hP
  have hD : va_D A (pW a cI cJ cZ v_32 c_32 w) := hD
  refine lv_istore (lv' := [(4, .int (nI (j_49))), (0, .ref b), (1, .ref (a 0)), (2, .ref (a 30)), (3, .int (nI (t)))]) hx hb dL_law_52 hl (by decide) rfl (fun ls hl => ?_)
  refine lv_iconst (v := nI (0)) hx hb dL_law_54 (by decide) ?_
  refine lv_istore (lv' := [(5, .int (nI (0))), (4, .int (nI (j_49))), (0, .ref b), (1, .ref (a 0)), (2, .ref (a 30)), (3, .int (nI (t)))]) hx hb dL_law_55 hl (by decide) rfl (fun ls hl => ?_)
  have L57 : ∀ (n : Nat) (v : Nat → Nat → Nat) (c : Nat → Nat → Int32) (dn : Nat) (g : Nat → Nat) (H : Heap) (locs : List Loc) (ls : Array Slot), j_49 - dn < n → (XI v) → (dn ≤ j_49) → (GL g) → (GD g) → (AL g v) → (g 37 = dn) → (c 2 3 = -1) → va_P D vwCl (pW a cI cJ cZ v c (va_up w 30 (g))) H → va_D A (pW a cI cJ cZ v c (va_up w 30 (g))) → va_S A s.heap H locs → lv_has ls 19 [(5, .int (nI (dn))), (0, .ref b), (1, .ref (a 0)), (2, .ref (a 30)), (3, .int (nI (t))), (4, .int (nI (j_49)))] → W p l e room_1 s m args below meth c0 H locs 27 658 Q (F0 m 57 ls []) := by
    intro n
    induction n with
    | zero => intro v c dn g H locs ls hm; exact absurd hm (Nat.not_lt_zero _)
    | succ n ih57 =>
      intro v c dn g H locs ls hm57 hI hdn hgl hgd hAL h37 hc3 hP hD hS hl
      refine lv_iload hx hb dL_law_57 (lv_at hl 0 rfl) ?_
      refine lv_iload hx hb dL_law_59 (lv_at hl 5 rfl) ?_
      refine w_icmp_ge (x := dn) (y := j_49) hx hb dL_law_61 (tgt := 89) (by decide) (by omega) (by omega) (fun c61 => ?_) (fun c61 => ?_)
      · skip
        exact K v c j_49 g _ _ _ (by exact hI) (by omega) (by exact hgl) (by exact hgd) (by exact hAL) (by exact hc3) hP hD hS (lv_sub hl [1, 2, 3, 5] rfl)
      · skip
        refine lv_aload_n hx hb dL_law_64 rfl (lv_at hl 2 rfl) ?_
        refine lv_aload_n hx hb dL_law_65 rfl (lv_at hl 1 rfl) ?_
        refine lv_bipush (v := nI (6)) hx hb dL_law_66 (by decide) ?_
        refine lv_iload hx hb dL_law_68 (lv_at hl 0 rfl) ?_
        refine w_iadd (x := 6) (y := dn) hx hb dL_law_70  ?_
        refine s_cSi (rest := [.ref (a 0)]) hx hb hml hown hts (k_cell l D cI cJ cZ A (pW a cI cJ cZ v c (va_up w 30 (g))) b L xs (6 + dn) (by omega)) 2 gL_law_L_cell rfl hdL_cell ⟨Nat.le_of_ble_eq_true rfl, Nat.le_of_ble_eq_true rfl⟩ hK hN hX hbl hbA hP hD hS hA rfl hl.1 rfl (Nat.le_of_ble_eq_true rfl) dL_law_71 ⟨Nat.le_of_ble_eq_true rfl, Nat.le_of_ble_eq_true rfl⟩ (fun r_71 u H locs hq hP hD hS => ?_)
        have hP : va_P D vwCl (pW a cI cJ cZ v c (va_up w 30 (g))) H := hP
        have hD : va_D A (pW a cI cJ cZ v c (va_up w 30 (g))) := hD
        refine lv_aload_n hx hb dL_law_74 rfl (lv_at hl 3 rfl) ?_
        have hn3 : g 37 < 3 := by omega
        refine w_cSi (rest := []) hx hb hml hown hts (k_dancer l D a cI cJ cZ A v c (va_up w 30 (g)) r_71 hI hgl hgd hn3 hAL) 3 gL_law_L_dancer rfl hdL_dancer ⟨Nat.le_of_ble_eq_true rfl, Nat.le_of_ble_eq_true rfl⟩ hK hN hP hD hS hA rfl hl.1 rfl (Nat.le_of_ble_eq_true rfl) dL_law_75 ⟨Nat.le_of_ble_eq_true rfl, Nat.le_of_ble_eq_true rfl⟩ (fun r u H locs hq hP hD hS => ?_)
        obtain ⟨v_75, c_75, w_75⟩ := u
        obtain ⟨er, hI_75, hc2_75, g_75, ew, hgl_75, hgd_75, hA_75, h37_75⟩ := hq
        subst er
        have ew : w_75 = va_up (va_up w 30 (g)) 30 g_75 := ew
        subst ew
        have h37_75 : g_75 37 = g 37 + 1 := h37_75
        have hc2_75 : c_75 2 = c 2 := hc2_75
        have hP : va_P D vwCl (pW a cI cJ cZ v_75 c_75 (va_up w 30 (g_75))) H := hP
        have hD : va_D A (pW a cI cJ cZ v_75 c_75 (va_up w 30 (g_75))) := hD
        refine w_if_ne (x := 1) hx hb dL_law_78 (tgt := 83) (by decide) (by decide) (fun _ => ?_) (fun h => absurd h (by decide))
        refine lv_iinc (v := nI (dn + 1)) (lv' := [(5, .int (nI (dn + 1))), (0, .ref b), (1, .ref (a 0)), (2, .ref (a 30)), (3, .int (nI (t))), (4, .int (nI (j_49)))]) hx hb dL_law_83 hl (k := 0) rfl (nI_add dn 1) (by decide) rfl (fun ls hl => ?_)
        refine lv_goto (tgt := 57) hx hb dL_law_86 (by decide) ?_
        exact ih57 v_75 c_75 (dn + 1) g_75 _ _ _ (by omega) (by exact hI_75) (by omega) (by exact hgl_75) (by exact hgd_75) (by exact hA_75) (by omega) (by rw [hc2_75]; exact hc3) hP hD hS (lv_sub hl [0, 1, 2, 3, 4, 5] rfl)
  exact L57 ((j_49 - 0) + 1) v_32 c_32 0 (w 30) _ _ _ (Nat.lt_succ_self _) (by exact hI_32) (by omega) (by exact hgl) (by exact ⟨by omega, fun d hd => absurd hd (by omega)⟩) (by exact hA_32) (by exact h37) (by exact hC_32) hP hD hS (lv_sub hl [0, 2, 3, 4, 5, 1] rfl)

set_option maxHeartbeats 8000000 in
set_option maxRecDepth 100000 in
theorem sg_2 {p : Program} {l : Launch} {e : Env} {s : State} {m : MethodId} {args : Array Value} {below : List Frame} {meth : Method} {c0 : Code} {H : Heap} {locs : List Loc} {Q : State → Prop} {ls : Array Slot} {D : va_G} {a : Nat → Nat} {cI cJ cZ : ClassId} {A : Nat → Prop} {b L : Nat} {xs : Nat → Int32} {v : Nat → Nat → Nat} {c : Nat → Nat → Int32} {w : Nat → Nat → Nat}
    (hx : p.tables.exec = Jvm.exec) (hb : c0.code = cL_law) (hml : c0.maxLocals = 19) (hown : s.vm.findClass RL = some m.cls) (hts : ∀ w ∈ wsL_law, w.before args s = true) (hK : va_K D vwCl (xT cI cJ cZ) s) (hN : gN s) (hA : ∀ q : Nat, s.heap.size ≤ q → A q) (hX : va_X b L xs s s.heap) (hbl : b < s.heap.size) (hbA : ¬ A b) (hL2 : L < 2147483648)
     (hI : XI v) (hgl : GL (w 30)) (hgd : GD (w 30)) (hAL : AL (w 30) v) (hc3 : c 2 3 = -1)
    (hP : va_P D vwCl (pW a cI cJ cZ v c w) H) (hD : va_D A (pW a cI cJ cZ v c w)) (hS : va_S A s.heap H locs) (hl : lv_has ls 19 [(0, .ref b), (1, .ref (a 0)), (2, .ref (a 30)), (4, .int (nI (w 30 37)))])
    (K : ∀ (v1 : Nat → Nat → Nat) (c1 : Nat → Nat → Int32) (H : Heap) (locs : List Loc) (ls : Array Slot), (XI v1) → (AL (w 30) v1) → (c1 2 3 = -1) → va_P D vwCl (pW a cI cJ cZ v1 c1 w) H → va_D A (pW a cI cJ cZ v1 c1 w) → va_S A s.heap H locs → lv_has ls 19 [(0, .ref b), (1, .ref (a 0)), (2, .ref (a 30)), (4, .int (nI (w 30 37)))] → W p l e room_1 s m args below meth c0 H locs 27 658 Q (F0 m 181 ls [])) :
    W p l e room_1 s m args below meth c0 H locs 27 658 Q (F0 m 89 ls []) := by
  obtain ⟨⟨g1, g2⟩, ⟨g3, g4⟩, g5, g6, g7⟩ := id hgl
  obtain ⟨n1, n2⟩ := id hgd
  have hrw := rows_le g2 n1
  have g8 := p2_16 g2
  refine lv_iconst (v := nI (0)) hx hb dL_law_89 (by decide) ?_
  refine lv_istore (lv' := [(5, .int (nI (0))), (0, .ref b), (1, .ref (a 0)), (2, .ref (a 30)), (4, .int (nI (w 30 37)))]) hx hb dL_law_90 hl (by decide) rfl (fun ls hl => ?_)
  have L92 : ∀ (n : Nat) (d : Nat) (H : Heap) (locs : List Loc) (ls : Array Slot), w 30 37 - d < n → (d ≤ w 30 37) → va_P D vwCl (pW a cI cJ cZ v c w) H → va_D A (pW a cI cJ cZ v c w) → va_S A s.heap H locs → lv_has ls 19 [(5, .int (nI (d))), (0, .ref b), (1, .ref (a 0)), (2, .ref (a 30)), (4, .int (nI (w 30 37)))] → W p l e room_1 s m args below meth c0 H locs 27 658 Q (F0 m 92 ls []) := by
    intro n
    induction n with
    | zero => intro d H locs ls hm; exact absurd hm (Nat.not_lt_zero _)
    | succ n ih92 =>
      intro d H locs ls hm92 hd hP hD hS hl
      refine lv_iload hx hb dL_law_92 (lv_at hl 0 rfl) ?_
      refine lv_iload hx hb dL_law_94 (lv_at hl 4 rfl) ?_
      refine w_icmp_ge (x := d) (y := w 30 37) hx hb dL_law_96 (tgt := 181) (by decide) (by omega) (by omega) (fun c96 => ?_) (fun c96 => ?_)
      · skip
        exact K v c _ _ _ (by exact hI) (by exact hAL) (by exact hc3) hP hD hS (lv_sub hl [1, 2, 3, 4] rfl)
      · skip
        have hnd := n2 d c96
        refine lv_aload_n hx hb dL_law_99 rfl (lv_at hl 2 rfl) ?_
        refine lv_iload hx hb dL_law_100 (lv_at hl 0 rfl) ?_
        refine lv_iconst (v := nI (0)) hx hb dL_law_102 (by decide) ?_
        refine l_ciJ (W1 := (xW a cI cJ cZ v c)) (W2 := (gA a cI w)) (rest := []) hx hb hml hown hts (t_ofDancer l D a cI cJ cZ (va_A (xW a cI cJ cZ v c) H.size) v c (nI (d)) (nI (0)) hI) 2 gL_law_X6_ofDancer rfl hdX6_ofDancer ⟨Nat.le_of_ble_eq_true rfl, Nat.le_of_ble_eq_true rfl⟩ hK hN hP hD hS hA 0 6 rfl rfl rfl rfl hl.1 rfl (Nat.le_of_ble_eq_true rfl) dL_law_103 ⟨Nat.le_of_ble_eq_true rfl, Nat.le_of_ble_eq_true rfl⟩ (fun r_103 u H locs hq_103 hP hD hS => ?_)
        have hP : va_P D vwCl (pW a cI cJ cZ v c w) H := hP
        have hD : va_D A (pW a cI cJ cZ v c w) := hD
        have hr_103 : r_103 = nI (w 30 (38 + d)) := by exact od_g hI hAL hq_103 (Or.inl ⟨d, c96, rfl, Or.inl ⟨rfl, rfl⟩⟩)
        subst hr_103
        refine lv_aload_n hx hb dL_law_106 rfl (lv_at hl 3 rfl) ?_
        refine lv_bipush (v := nI (38)) hx hb dL_law_107 (by decide) ?_
        refine lv_iload hx hb dL_law_109 (lv_at hl 0 rfl) ?_
        refine w_iadd (x := 38) (y := d) hx hb dL_law_111  ?_
        refine w_iald (f := w 30) hx hb hK hP 26 0 rfl rfl (i := 38 + d) (by omega) (by decide) dL_law_112 ?_
        refine w_icmp_ne (x := w 30 (38 + d)) (y := w 30 (38 + d)) hx hb dL_law_113 (tgt := 173) (by decide) (by omega) (by omega) (fun c113 => absurd c113 (by exact fun z => z rfl)) (fun c113 => ?_)
        refine lv_aload_n hx hb dL_law_116 rfl (lv_at hl 2 rfl) ?_
        refine lv_iload hx hb dL_law_117 (lv_at hl 0 rfl) ?_
        refine lv_iconst (v := nI (1)) hx hb dL_law_119 (by decide) ?_
        refine l_ciJ (W1 := (xW a cI cJ cZ v c)) (W2 := (gA a cI w)) (rest := []) hx hb hml hown hts (t_ofDancer l D a cI cJ cZ (va_A (xW a cI cJ cZ v c) H.size) v c (nI (d)) (nI (1)) hI) 2 gL_law_X6_ofDancer rfl hdX6_ofDancer ⟨Nat.le_of_ble_eq_true rfl, Nat.le_of_ble_eq_true rfl⟩ hK hN hP hD hS hA 0 6 rfl rfl rfl rfl hl.1 rfl (Nat.le_of_ble_eq_true rfl) dL_law_120 ⟨Nat.le_of_ble_eq_true rfl, Nat.le_of_ble_eq_true rfl⟩ (fun r_120 u H locs hq_120 hP hD hS => ?_)
        have hP : va_P D vwCl (pW a cI cJ cZ v c w) H := hP
        have hD : va_D A (pW a cI cJ cZ v c w) := hD
        have hr_120 : r_120 = nI (w 30 (42 + d)) := by exact od_g hI hAL hq_120 (Or.inl ⟨d, c96, rfl, Or.inr (Or.inl ⟨rfl, rfl⟩)⟩)
        subst hr_120
        refine lv_aload_n hx hb dL_law_123 rfl (lv_at hl 3 rfl) ?_
        refine lv_bipush (v := nI (42)) hx hb dL_law_124 (by decide) ?_
        refine lv_iload hx hb dL_law_126 (lv_at hl 0 rfl) ?_
        refine w_iadd (x := 42) (y := d) hx hb dL_law_128  ?_
        refine w_iald (f := w 30) hx hb hK hP 26 0 rfl rfl (i := 42 + d) (by omega) (by decide) dL_law_129 ?_
        refine w_icmp_ne (x := w 30 (42 + d)) (y := w 30 (42 + d)) hx hb dL_law_130 (tgt := 173) (by decide) (by omega) (by omega) (fun c130 => absurd c130 (by exact fun z => z rfl)) (fun c130 => ?_)
        refine lv_aload_n hx hb dL_law_133 rfl (lv_at hl 2 rfl) ?_
        refine lv_iload hx hb dL_law_134 (lv_at hl 0 rfl) ?_
        refine lv_iconst (v := nI (2)) hx hb dL_law_136 (by decide) ?_
        refine l_ciJ (W1 := (xW a cI cJ cZ v c)) (W2 := (gA a cI w)) (rest := []) hx hb hml hown hts (t_ofDancer l D a cI cJ cZ (va_A (xW a cI cJ cZ v c) H.size) v c (nI (d)) (nI (2)) hI) 2 gL_law_X6_ofDancer rfl hdX6_ofDancer ⟨Nat.le_of_ble_eq_true rfl, Nat.le_of_ble_eq_true rfl⟩ hK hN hP hD hS hA 0 6 rfl rfl rfl rfl hl.1 rfl (Nat.le_of_ble_eq_true rfl) dL_law_137 ⟨Nat.le_of_ble_eq_true rfl, Nat.le_of_ble_eq_true rfl⟩ (fun r_137 u H locs hq_137 hP hD hS => ?_)
        have hP : va_P D vwCl (pW a cI cJ cZ v c w) H := hP
        have hD : va_D A (pW a cI cJ cZ v c w) := hD
        have hr_137 : r_137 = nI (pA (gKD (w 30)) (gWT (w 30)) d) := by exact od_g hI hAL hq_137 (Or.inl ⟨d, c96, rfl, Or.inr (Or.inr (Or.inl ⟨rfl, rfl⟩))⟩)
        subst hr_137
        refine lv_aload_n hx hb dL_law_140 rfl (lv_at hl 3 rfl) ?_
        refine lv_bipush (v := nI (38)) hx hb dL_law_141 (by decide) ?_
        refine lv_iload hx hb dL_law_143 (lv_at hl 0 rfl) ?_
        refine w_iadd (x := 38) (y := d) hx hb dL_law_145  ?_
        refine w_iald (f := w 30) hx hb hK hP 26 0 rfl rfl (i := 38 + d) (by omega) (by decide) dL_law_146 ?_
        refine lv_iconst (v := nI (2)) hx hb dL_law_147 (by decide) ?_
        refine w_icmp_ne (x := w 30 (38 + d)) (y := 2) hx hb dL_law_148 (tgt := 163) (by decide) (by omega) (by omega) (fun c148 => ?_) (fun c148 => ?_)
        · skip
          refine lv_aload_n hx hb dL_law_163 rfl (lv_at hl 3 rfl) ?_
          refine lv_bipush (v := nI (42)) hx hb dL_law_164 (by decide) ?_
          refine lv_iload hx hb dL_law_166 (lv_at hl 0 rfl) ?_
          refine w_iadd (x := 42) (y := d) hx hb dL_law_168  ?_
          refine w_iald (f := w 30) hx hb hK hP 26 0 rfl rfl (i := 42 + d) (by omega) (by decide) dL_law_169 ?_
          refine w_icmp_eq (x := pA (gKD (w 30)) (gWT (w 30)) d) (y := w 30 (42 + d)) hx hb dL_law_170 (tgt := 175) (by decide) (by have h9 := pA_le9 (g := w 30) (d := d) hnd.2.2; omega) (by omega) (fun c170 => ?_) (fun c170 => absurd c170 (by first | exact fun z => z (pA2 c148) | exact fun z => z (pA1 c148)))
          refine lv_iinc (v := nI (d + 1)) (lv' := [(5, .int (nI (d + 1))), (0, .ref b), (1, .ref (a 0)), (2, .ref (a 30)), (4, .int (nI (w 30 37)))]) hx hb dL_law_175 hl (k := 0) rfl (nI_add d 1) (by decide) rfl (fun ls hl => ?_)
          refine lv_goto (tgt := 92) hx hb dL_law_178 (by decide) ?_
          exact ih92 (d + 1) _ _ _ (by omega) (by omega) hP hD hS (lv_sub hl [0, 1, 2, 3, 4] rfl)
        · skip
          refine lv_aload_n hx hb dL_law_151 rfl (lv_at hl 3 rfl) ?_
          refine lv_bipush (v := nI (42)) hx hb dL_law_152 (by decide) ?_
          refine lv_iload hx hb dL_law_154 (lv_at hl 0 rfl) ?_
          refine w_iadd (x := 42) (y := d) hx hb dL_law_156  ?_
          refine w_iald (f := w 30) hx hb hK hP 26 0 rfl rfl (i := 42 + d) (by omega) (by decide) dL_law_157 ?_
          refine lv_iconst (v := nI (2)) hx hb dL_law_158 (by decide) ?_
          refine w_idiv (x := w 30 (42 + d)) (y := 2) hx hb dL_law_159 (by omega) (by omega) (by omega) ?_
          refine lv_goto (tgt := 170) hx hb dL_law_160 (by decide) ?_
          refine w_icmp_eq (x := pA (gKD (w 30)) (gWT (w 30)) d) (y := (w 30 (42 + d)) / 2) hx hb dL_law_170 (tgt := 175) (by decide) (by have h9 := pA_le9 (g := w 30) (d := d) hnd.2.2; omega) (by omega) (fun c170 => ?_) (fun c170 => absurd c170 (by first | exact fun z => z (pA2 c148) | exact fun z => z (pA1 c148)))
          refine lv_iinc (v := nI (d + 1)) (lv' := [(5, .int (nI (d + 1))), (0, .ref b), (1, .ref (a 0)), (2, .ref (a 30)), (4, .int (nI (w 30 37)))]) hx hb dL_law_175 hl (k := 0) rfl (nI_add d 1) (by decide) rfl (fun ls hl => ?_)
          refine lv_goto (tgt := 92) hx hb dL_law_178 (by decide) ?_
          exact ih92 (d + 1) _ _ _ (by omega) (by omega) hP hD hS (lv_sub hl [0, 1, 2, 3, 4] rfl)
  exact L92 ((w 30 37 - 0) + 1) 0 _ _ _ (Nat.lt_succ_self _) (by omega) hP hD hS (lv_sub hl [0, 1, 2, 3, 4] rfl)

set_option maxHeartbeats 8000000 in
set_option maxRecDepth 100000 in
theorem sg_3 {p : Program} {l : Launch} {e : Env} {s : State} {m : MethodId} {args : Array Value} {below : List Frame} {meth : Method} {c0 : Code} {H : Heap} {locs : List Loc} {Q : State → Prop} {ls : Array Slot} {D : va_G} {a : Nat → Nat} {cI cJ cZ : ClassId} {A : Nat → Prop} {b L : Nat} {xs : Nat → Int32} {v : Nat → Nat → Nat} {c : Nat → Nat → Int32} {w : Nat → Nat → Nat}
    (hx : p.tables.exec = Jvm.exec) (hb : c0.code = cL_law) (hml : c0.maxLocals = 19) (hown : s.vm.findClass RL = some m.cls) (hts : ∀ w ∈ wsL_law, w.before args s = true) (hK : va_K D vwCl (xT cI cJ cZ) s) (hN : gN s) (hA : ∀ q : Nat, s.heap.size ≤ q → A q) (hX : va_X b L xs s s.heap) (hbl : b < s.heap.size) (hbA : ¬ A b) (hL2 : L < 2147483648)
     (hI : XI v) (hgl : GL (w 30)) (hgd : GD (w 30)) (hAL : AL (w 30) v) (hc3 : c 2 3 = -1)
    (hP : va_P D vwCl (pW a cI cJ cZ v c w) H) (hD : va_D A (pW a cI cJ cZ v c w)) (hS : va_S A s.heap H locs) (hl : lv_has ls 19 [(0, .ref b), (1, .ref (a 0)), (2, .ref (a 30)), (4, .int (nI (w 30 37)))])
    (K : ∀ (v1 : Nat → Nat → Nat) (c1 : Nat → Nat → Int32) (rw1 : Nat) (H : Heap) (locs : List Loc) (ls : Array Slot), (XI v1) → (AL (w 30) v1) → (c1 2 3 = -1) → (rw1 = w 30 0 ^ w 30 37) → va_P D vwCl (pW a cI cJ cZ v1 c1 w) H → va_D A (pW a cI cJ cZ v1 c1 w) → va_S A s.heap H locs → lv_has ls 19 [(0, .ref b), (1, .ref (a 0)), (2, .ref (a 30)), (4, .int (nI (w 30 37))), (5, .int (nI (rw1)))] → W p l e room_1 s m args below meth c0 H locs 27 658 Q (F0 m 208 ls [])) :
    W p l e room_1 s m args below meth c0 H locs 27 658 Q (F0 m 181 ls []) := by
  obtain ⟨⟨g1, g2⟩, ⟨g3, g4⟩, g5, g6, g7⟩ := id hgl
  obtain ⟨n1, n2⟩ := id hgd
  have hrw := rows_le g2 n1
  have g8 := p2_16 g2
  refine lv_iconst (v := nI (1)) hx hb dL_law_181 (by decide) ?_
  refine lv_istore (lv' := [(5, .int (nI (1))), (0, .ref b), (1, .ref (a 0)), (2, .ref (a 30)), (4, .int (nI (w 30 37)))]) hx hb dL_law_182 hl (by decide) rfl (fun ls hl => ?_)
  refine lv_iconst (v := nI (0)) hx hb dL_law_184 (by decide) ?_
  refine lv_istore (lv' := [(6, .int (nI (0))), (5, .int (nI (1))), (0, .ref b), (1, .ref (a 0)), (2, .ref (a 30)), (4, .int (nI (w 30 37)))]) hx hb dL_law_185 hl (by decide) rfl (fun ls hl => ?_)
  have L187 : ∀ (n : Nat) (q : Nat) (i : Nat) (H : Heap) (locs : List Loc) (ls : Array Slot), w 30 37 - i < n → (i ≤ w 30 37) → (q = w 30 0 ^ i) → va_P D vwCl (pW a cI cJ cZ v c w) H → va_D A (pW a cI cJ cZ v c w) → va_S A s.heap H locs → lv_has ls 19 [(5, .int (nI (q))), (6, .int (nI (i))), (0, .ref b), (1, .ref (a 0)), (2, .ref (a 30)), (4, .int (nI (w 30 37)))] → W p l e room_1 s m args below meth c0 H locs 27 658 Q (F0 m 187 ls []) := by
    intro n
    induction n with
    | zero => intro q i H locs ls hm; exact absurd hm (Nat.not_lt_zero _)
    | succ n ih187 =>
      intro q i H locs ls hm187 hi hq hP hD hS hl
      refine lv_iload hx hb dL_law_187 (lv_at hl 1 rfl) ?_
      refine lv_iload hx hb dL_law_189 (lv_at hl 5 rfl) ?_
      refine w_icmp_ge (x := i) (y := w 30 37) hx hb dL_law_191 (tgt := 208) (by decide) (by omega) (by omega) (fun c191 => ?_) (fun c191 => ?_)
      · skip
        exact K v c q _ _ _ (by exact hI) (by exact hAL) (by exact hc3) (by have e : i = w 30 37 := (by omega); rw [hq, e]) hP hD hS (lv_sub hl [2, 3, 4, 5, 0] rfl)
      · skip
        refine lv_iload hx hb dL_law_194 (lv_at hl 0 rfl) ?_
        refine lv_aload_n hx hb dL_law_196 rfl (lv_at hl 4 rfl) ?_
        refine lv_iconst (v := nI (0)) hx hb dL_law_197 (by decide) ?_
        refine w_iald (f := w 30) hx hb hK hP 26 0 rfl rfl (i := 0) (by omega) (by decide) dL_law_198 ?_
        refine w_imul (x := q) (y := w 30 0) hx hb dL_law_199  ?_
        refine lv_istore (lv' := [(5, .int (nI (q * (w 30 0)))), (6, .int (nI (i))), (0, .ref b), (1, .ref (a 0)), (2, .ref (a 30)), (4, .int (nI (w 30 37)))]) hx hb dL_law_200 hl (by decide) rfl (fun ls hl => ?_)
        refine lv_iinc (v := nI (i + 1)) (lv' := [(6, .int (nI (i + 1))), (5, .int (nI (q * (w 30 0)))), (0, .ref b), (1, .ref (a 0)), (2, .ref (a 30)), (4, .int (nI (w 30 37)))]) hx hb dL_law_202 hl (k := 1) rfl (nI_add i 1) (by decide) rfl (fun ls hl => ?_)
        refine lv_goto (tgt := 187) hx hb dL_law_205 (by decide) ?_
        exact ih187 (q * (w 30 0)) (i + 1) _ _ _ (by omega) (by omega) (by rw [hq, Nat.pow_succ]) hP hD hS (lv_sub hl [1, 0, 2, 3, 4, 5] rfl)
  exact L187 ((w 30 37 - 0) + 1) 1 0 _ _ _ (Nat.lt_succ_self _) (by omega) (by exact (Nat.pow_zero _).symm) hP hD hS (lv_sub hl [1, 0, 2, 3, 4, 5] rfl)
