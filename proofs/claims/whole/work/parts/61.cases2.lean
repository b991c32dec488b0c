/-! ===== the law's calls ===== -/
set_option maxHeartbeats 4000000 in
set_option maxRecDepth 100000 in
theorem lc_18 {p : Program} {l : Launch} {e : Env} {s : State} {m : MethodId} {below : List Frame} {meth : Method} {c0 : Code} {H : Heap} {locs : List Loc} {Q : State → Prop} {ls : Array Slot} {D : va_G} {a bb : Nat → Nat} {cI cJ cZ : ClassId} {b L i : Nat} {xs : Nat → Int32} {v w : Nat → Nat → Nat} {c d : Nat → Nat → Int32}
    (hx : p.tables.exec = Jvm.exec) (hb : c0.code = cL_law) (hml : c0.maxLocals = 4) (hown : s.vm.findClass RL = some m.cls) (htl : ∀ w ∈ wsL_law, w.before #[Value.ref b] s = true) (hX : va_X b L xs s s.heap) (hbl : b < s.heap.size) (hK : va_K D vwCl (xT cI cJ cZ) s) (hN : gN s) (hiL : i + 6 ≤ L) (hL : L ≤ 3072)
    (hI : XI v) (hM : MI w d) (hR : ALK v c (vM w) (cM d)) (hP1 : va_P D vwCl (xW a cI cJ cZ v c) H) (hP2 : va_P D vwCl (mW bb cI cJ cZ w d) H) (hD : va_D (fun q : Nat => s.heap.size ≤ q) (xW a cI cJ cZ v c ++ mW bb cI cJ cZ w d)) (hS : va_S (fun q : Nat => s.heap.size ≤ q) s.heap H locs)
    (hl : lv_has ls 4 [(3, .int (nI (i))), (2, .ref (bb 0)), (1, .ref (a 0)), (0, .ref b)])
    (K : ∀ (v1 w1 : Nat → Nat → Nat) (c1 d1 : Nat → Nat → Int32) (H1 : Heap) (locs1 : List Loc), XI v1 → MI w1 d1 → ALK v1 c1 (vM w1) (cM d1) → va_P D vwCl (xW a cI cJ cZ v1 c1) H1 → va_P D vwCl (mW bb cI cJ cZ w1 d1) H1 → va_D (fun q : Nat => s.heap.size ≤ q) (xW a cI cJ cZ v1 c1 ++ mW bb cI cJ cZ w1 d1) → va_S (fun q : Nat => s.heap.size ≤ q) s.heap H1 locs1 → W p l e room_1 s m #[Value.ref b] below meth c0 H1 locs1 41 3466 Q (F0 m 1402 ls [])) : W p l e room_1 s m #[Value.ref b] below meth c0 H locs 41 3466 Q (F0 m 816 ls []) := by
  have hbA : ¬ (fun q : Nat => s.heap.size ≤ q) b := Nat.not_le.mpr hbl
  refine lv_aload_n hx hb dL_law_816 rfl (lv_at hl 2 rfl) ?_
  refine lv_aload_n hx hb dL_law_817 rfl (lv_at hl 3 rfl) ?_
  refine lv_iload_n hx hb dL_law_818 rfl (lv_at hl 0 rfl) ?_
  refine lv_iconst (v := nI 1) hx hb dL_law_819 (by decide) ?_
  refine w_iadd (x := i) (y := 1) hx hb dL_law_820 ?_
  refine l_sld (i := i) (k := 1) hx hb hX hbl hbA hS (by omega) hL dL_law_821 ?_
  refine l_ci (rest := []) hx hb hml hown htl (t_evenings l D a cI cJ cZ (va_A (xW a cI cJ cZ v c) H.size) v c (xs (i + 1)) hI) 1 gL_law_X6_evenings rfl hdX6_evenings ⟨Nat.le_of_ble_eq_true rfl, Nat.le_of_ble_eq_true rfl⟩ hK hN hP1 hP2 hD hS (fun _ h => h) 0 6 rfl rfl rfl rfl hl.1 rfl (Nat.le_of_ble_eq_true rfl) dL_law_822 ⟨Nat.le_of_ble_eq_true rfl, Nat.le_of_ble_eq_true rfl⟩ (fun r1 u1 H locs hq1 hP1 hP2 hD hS => ?_)
  refine lv_aload_n hx hb dL_law_825 rfl (lv_at hl 1 rfl) ?_
  refine lv_aload_n hx hb dL_law_826 rfl (lv_at hl 3 rfl) ?_
  refine lv_iload_n hx hb dL_law_827 rfl (lv_at hl 0 rfl) ?_
  refine lv_iconst (v := nI 1) hx hb dL_law_828 (by decide) ?_
  refine w_iadd (x := i) (y := 1) hx hb dL_law_829 ?_
  refine l_sld (i := i) (k := 1) hx hb hX hbl hbA hS (by omega) hL dL_law_830 ?_
  refine l_ci (rest := [.int r1]) hx hb hml hown htl (s_evenings l D bb cI cJ cZ (va_A (mW bb cI cJ cZ w d) H.size) w d (xs (i + 1)) hM) 1 gL_law_X7_evenings rfl hdX7_evenings ⟨Nat.le_of_ble_eq_true rfl, Nat.le_of_ble_eq_true rfl⟩ hK hN hP2 hP1 (j_sw hD) hS (fun _ h => h) 0 7 rfl rfl rfl rfl hl.1 rfl (Nat.le_of_ble_eq_true rfl) dL_law_831 ⟨Nat.le_of_ble_eq_true rfl, Nat.le_of_ble_eq_true rfl⟩ (fun r2 u2 H locs hq2 hP2 hP1 hD hS => ?_)
  have hD := j_sw hD
  refine lv_icmp_eq hx hb dL_law_834 (tgt := 1402) (by decide) (fun _ => ?_) (fun h9 => absurd (pr_evenings hI hM.1 hR hq1 hq2) h9)
  exact K v w c d H locs hI hM hR hP1 hP2 hD hS

set_option maxHeartbeats 4000000 in
set_option maxRecDepth 100000 in
theorem lc_19 {p : Program} {l : Launch} {e : Env} {s : State} {m : MethodId} {below : List Frame} {meth : Method} {c0 : Code} {H : Heap} {locs : List Loc} {Q : State → Prop} {ls : Array Slot} {D : va_G} {a bb : Nat → Nat} {cI cJ cZ : ClassId} {b L i : Nat} {xs : Nat → Int32} {v w : Nat → Nat → Nat} {c d : Nat → Nat → Int32}
    (hx : p.tables.exec = Jvm.exec) (hb : c0.code = cL_law) (hml : c0.maxLocals = 4) (hown : s.vm.findClass RL = some m.cls) (htl : ∀ w ∈ wsL_law, w.before #[Value.ref b] s = true) (hX : va_X b L xs s s.heap) (hbl : b < s.heap.size) (hK : va_K D vwCl (xT cI cJ cZ) s) (hN : gN s) (hiL : i + 6 ≤ L) (hL : L ≤ 3072)
    (hI : XI v) (hM : MI w d) (hR : ALK v c (vM w) (cM d)) (hP1 : va_P D vwCl (xW a cI cJ cZ v c) H) (hP2 : va_P D vwCl (mW bb cI cJ cZ w d) H) (hD : va_D (fun q : Nat => s.heap.size ≤ q) (xW a cI cJ cZ v c ++ mW bb cI cJ cZ w d)) (hS : va_S (fun q : Nat => s.heap.size ≤ q) s.heap H locs)
    (hl : lv_has ls 4 [(3, .int (nI (i))), (2, .ref (bb 0)), (1, .ref (a 0)), (0, .ref b)])
    (K : ∀ (v1 w1 : Nat → Nat → Nat) (c1 d1 : Nat → Nat → Int32) (H1 : Heap) (locs1 : List Loc), XI v1 → MI w1 d1 → ALK v1 c1 (vM w1) (cM d1) → va_P D vwCl (xW a cI cJ cZ v1 c1) H1 → va_P D vwCl (mW bb cI cJ cZ w1 d1) H1 → va_D (fun q : Nat => s.heap.size ≤ q) (xW a cI cJ cZ v1 c1 ++ mW bb cI cJ cZ w1 d1) → va_S (fun q : Nat => s.heap.size ≤ q) s.heap H1 locs1 → W p l e room_1 s m #[Value.ref b] below meth c0 H1 locs1 41 3466 Q (F0 m 1402 ls [])) : W p l e room_1 s m #[Value.ref b] below meth c0 H locs 41 3466 Q (F0 m 839 ls []) := by
  have hbA : ¬ (fun q : Nat => s.heap.size ≤ q) b := Nat.not_le.mpr hbl
  refine lv_aload_n hx hb dL_law_839 rfl (lv_at hl 2 rfl) ?_
  refine lv_aload_n hx hb dL_law_840 rfl (lv_at hl 3 rfl) ?_
  refine lv_iload_n hx hb dL_law_841 rfl (lv_at hl 0 rfl) ?_
  refine lv_iconst (v := nI 1) hx hb dL_law_842 (by decide) ?_
  refine w_iadd (x := i) (y := 1) hx hb dL_law_843 ?_
  refine l_sld (i := i) (k := 1) hx hb hX hbl hbA hS (by omega) hL dL_law_844 ?_
  refine lv_aload_n hx hb dL_law_845 rfl (lv_at hl 3 rfl) ?_
  refine lv_iload_n hx hb dL_law_846 rfl (lv_at hl 0 rfl) ?_
  refine lv_iconst (v := nI 2) hx hb dL_law_847 (by decide) ?_
  refine w_iadd (x := i) (y := 2) hx hb dL_law_848 ?_
  refine l_sld (i := i) (k := 2) hx hb hX hbl hbA hS (by omega) hL dL_law_849 ?_
  refine lv_aload_n hx hb dL_law_850 rfl (lv_at hl 3 rfl) ?_
  refine lv_iload_n hx hb dL_law_851 rfl (lv_at hl 0 rfl) ?_
  refine lv_iconst (v := nI 3) hx hb dL_law_852 (by decide) ?_
  refine w_iadd (x := i) (y := 3) hx hb dL_law_853 ?_
  refine l_sld (i := i) (k := 3) hx hb hX hbl hbA hS (by omega) hL dL_law_854 ?_
  refine lv_aload_n hx hb dL_law_855 rfl (lv_at hl 3 rfl) ?_
  refine lv_iload_n hx hb dL_law_856 rfl (lv_at hl 0 rfl) ?_
  refine lv_iconst (v := nI 4) hx hb dL_law_857 (by decide) ?_
  refine w_iadd (x := i) (y := 4) hx hb dL_law_858 ?_
  refine l_sld (i := i) (k := 4) hx hb hX hbl hbA hS (by omega) hL dL_law_859 ?_
  refine lv_aload_n hx hb dL_law_860 rfl (lv_at hl 3 rfl) ?_
  refine lv_iload_n hx hb dL_law_861 rfl (lv_at hl 0 rfl) ?_
  refine lv_iconst (v := nI 5) hx hb dL_law_862 (by decide) ?_
  refine w_iadd (x := i) (y := 5) hx hb dL_law_863 ?_
  refine l_sld (i := i) (k := 5) hx hb hX hbl hbA hS (by omega) hL dL_law_864 ?_
  refine l_ci (rest := []) hx hb hml hown htl (t_seen l D a cI cJ cZ (va_A (xW a cI cJ cZ v c) H.size) v c (xs (i + 1)) (xs (i + 2)) (xs (i + 3)) (xs (i + 4)) (xs (i + 5)) hI) 5 gL_law_X6_seen rfl hdX6_seen ⟨Nat.le_of_ble_eq_true rfl, Nat.le_of_ble_eq_true rfl⟩ hK hN hP1 hP2 hD hS (fun _ h => h) 0 6 rfl rfl rfl rfl hl.1 rfl (Nat.le_of_ble_eq_true rfl) dL_law_865 ⟨Nat.le_of_ble_eq_true rfl, Nat.le_of_ble_eq_true rfl⟩ (fun r1 u1 H locs hq1 hP1 hP2 hD hS => ?_)
  refine lv_aload_n hx hb dL_law_868 rfl (lv_at hl 1 rfl) ?_
  refine lv_aload_n hx hb dL_law_869 rfl (lv_at hl 3 rfl) ?_
  refine lv_iload_n hx hb dL_law_870 rfl (lv_at hl 0 rfl) ?_
  refine lv_iconst (v := nI 1) hx hb dL_law_871 (by decide) ?_
  refine w_iadd (x := i) (y := 1) hx hb dL_law_872 ?_
  refine l_sld (i := i) (k := 1) hx hb hX hbl hbA hS (by omega) hL dL_law_873 ?_
  refine lv_aload_n hx hb dL_law_874 rfl (lv_at hl 3 rfl) ?_
  refine lv_iload_n hx hb dL_law_875 rfl (lv_at hl 0 rfl) ?_
  refine lv_iconst (v := nI 2) hx hb dL_law_876 (by decide) ?_
  refine w_iadd (x := i) (y := 2) hx hb dL_law_877 ?_
  refine l_sld (i := i) (k := 2) hx hb hX hbl hbA hS (by omega) hL dL_law_878 ?_
  refine lv_aload_n hx hb dL_law_879 rfl (lv_at hl 3 rfl) ?_
  refine lv_iload_n hx hb dL_law_880 rfl (lv_at hl 0 rfl) ?_
  refine lv_iconst (v := nI 3) hx hb dL_law_881 (by decide) ?_
  refine w_iadd (x := i) (y := 3) hx hb dL_law_882 ?_
  refine l_sld (i := i) (k := 3) hx hb hX hbl hbA hS (by omega) hL dL_law_883 ?_
  refine lv_aload_n hx hb dL_law_884 rfl (lv_at hl 3 rfl) ?_
  refine lv_iload_n hx hb dL_law_885 rfl (lv_at hl 0 rfl) ?_
  refine lv_iconst (v := nI 4) hx hb dL_law_886 (by decide) ?_
  refine w_iadd (x := i) (y := 4) hx hb dL_law_887 ?_
  refine l_sld (i := i) (k := 4) hx hb hX hbl hbA hS (by omega) hL dL_law_888 ?_
  refine lv_aload_n hx hb dL_law_889 rfl (lv_at hl 3 rfl) ?_
  refine lv_iload_n hx hb dL_law_890 rfl (lv_at hl 0 rfl) ?_
  refine lv_iconst (v := nI 5) hx hb dL_law_891 (by decide) ?_
  refine w_iadd (x := i) (y := 5) hx hb dL_law_892 ?_
  refine l_sld (i := i) (k := 5) hx hb hX hbl hbA hS (by omega) hL dL_law_893 ?_
  refine l_ci (rest := [.int r1]) hx hb hml hown htl (s_seen l D bb cI cJ cZ (va_A (mW bb cI cJ cZ w d) H.size) w d (xs (i + 1)) (xs (i + 2)) (xs (i + 3)) (xs (i + 4)) (xs (i + 5)) hM) 5 gL_law_X7_seen rfl hdX7_seen ⟨Nat.le_of_ble_eq_true rfl, Nat.le_of_ble_eq_true rfl⟩ hK hN hP2 hP1 (j_sw hD) hS (fun _ h => h) 0 7 rfl rfl rfl rfl hl.1 rfl (Nat.le_of_ble_eq_true rfl) dL_law_894 ⟨Nat.le_of_ble_eq_true rfl, Nat.le_of_ble_eq_true rfl⟩ (fun r2 u2 H locs hq2 hP2 hP1 hD hS => ?_)
  have hD := j_sw hD
  refine lv_icmp_eq hx hb dL_law_897 (tgt := 1402) (by decide) (fun _ => ?_) (fun h9 => absurd (pr_seen hI hM.1 hR hq1 hq2.2).1 h9)
  exact K u1.1 u2.1 u1.2 u2.2 H locs hq1.choose_spec.2.1 hq2.1 (pr_seen hI hM.1 hR hq1 hq2.2).2 hP1 hP2 hD hS

set_option maxHeartbeats 4000000 in
set_option maxRecDepth 100000 in
theorem lc_20 {p : Program} {l : Launch} {e : Env} {s : State} {m : MethodId} {below : List Frame} {meth : Method} {c0 : Code} {H : Heap} {locs : List Loc} {Q : State → Prop} {ls : Array Slot} {D : va_G} {a bb : Nat → Nat} {cI cJ cZ : ClassId} {b L i : Nat} {xs : Nat → Int32} {v w : Nat → Nat → Nat} {c d : Nat → Nat → Int32}
    (hx : p.tables.exec = Jvm.exec) (hb : c0.code = cL_law) (hml : c0.maxLocals = 4) (hown : s.vm.findClass RL = some m.cls) (htl : ∀ w ∈ wsL_law, w.before #[Value.ref b] s = true) (hX : va_X b L xs s s.heap) (hbl : b < s.heap.size) (hK : va_K D vwCl (xT cI cJ cZ) s) (hN : gN s) (hiL : i + 6 ≤ L) (hL : L ≤ 3072)
    (hI : XI v) (hM : MI w d) (hR : ALK v c (vM w) (cM d)) (hP1 : va_P D vwCl (xW a cI cJ cZ v c) H) (hP2 : va_P D vwCl (mW bb cI cJ cZ w d) H) (hD : va_D (fun q : Nat => s.heap.size ≤ q) (xW a cI cJ cZ v c ++ mW bb cI cJ cZ w d)) (hS : va_S (fun q : Nat => s.heap.size ≤ q) s.heap H locs)
    (hl : lv_has ls 4 [(3, .int (nI (i))), (2, .ref (bb 0)), (1, .ref (a 0)), (0, .ref b)])
    (K : ∀ (v1 w1 : Nat → Nat → Nat) (c1 d1 : Nat → Nat → Int32) (H1 : Heap) (locs1 : List Loc), XI v1 → MI w1 d1 → ALK v1 c1 (vM w1) (cM d1) → va_P D vwCl (xW a cI cJ cZ v1 c1) H1 → va_P D vwCl (mW bb cI cJ cZ w1 d1) H1 → va_D (fun q : Nat => s.heap.size ≤ q) (xW a cI cJ cZ v1 c1 ++ mW bb cI cJ cZ w1 d1) → va_S (fun q : Nat => s.heap.size ≤ q) s.heap H1 locs1 → W p l e room_1 s m #[Value.ref b] below meth c0 H1 locs1 41 3466 Q (F0 m 1402 ls [])) : W p l e room_1 s m #[Value.ref b] below meth c0 H locs 41 3466 Q (F0 m 902 ls []) := by
  have hbA : ¬ (fun q : Nat => s.heap.size ≤ q) b := Nat.not_le.mpr hbl
  refine lv_aload_n hx hb dL_law_902 rfl (lv_at hl 2 rfl) ?_
  refine lv_aload_n hx hb dL_law_903 rfl (lv_at hl 3 rfl) ?_
  refine lv_iload_n hx hb dL_law_904 rfl (lv_at hl 0 rfl) ?_
  refine lv_iconst (v := nI 1) hx hb dL_law_905 (by decide) ?_
  refine w_iadd (x := i) (y := 1) hx hb dL_law_906 ?_
  refine l_sld (i := i) (k := 1) hx hb hX hbl hbA hS (by omega) hL dL_law_907 ?_
  refine lv_aload_n hx hb dL_law_908 rfl (lv_at hl 3 rfl) ?_
  refine lv_iload_n hx hb dL_law_909 rfl (lv_at hl 0 rfl) ?_
  refine lv_iconst (v := nI 2) hx hb dL_law_910 (by decide) ?_
  refine w_iadd (x := i) (y := 2) hx hb dL_law_911 ?_
  refine l_sld (i := i) (k := 2) hx hb hX hbl hbA hS (by omega) hL dL_law_912 ?_
  refine lv_aload_n hx hb dL_law_913 rfl (lv_at hl 3 rfl) ?_
  refine lv_iload_n hx hb dL_law_914 rfl (lv_at hl 0 rfl) ?_
  refine lv_iconst (v := nI 3) hx hb dL_law_915 (by decide) ?_
  refine w_iadd (x := i) (y := 3) hx hb dL_law_916 ?_
  refine l_sld (i := i) (k := 3) hx hb hX hbl hbA hS (by omega) hL dL_law_917 ?_
  refine lv_aload_n hx hb dL_law_918 rfl (lv_at hl 3 rfl) ?_
  refine lv_iload_n hx hb dL_law_919 rfl (lv_at hl 0 rfl) ?_
  refine lv_iconst (v := nI 4) hx hb dL_law_920 (by decide) ?_
  refine w_iadd (x := i) (y := 4) hx hb dL_law_921 ?_
  refine l_sld (i := i) (k := 4) hx hb hX hbl hbA hS (by omega) hL dL_law_922 ?_
  refine l_ci (rest := []) hx hb hml hown htl (t_part l D a cI cJ cZ (va_A (xW a cI cJ cZ v c) H.size) v c (xs (i + 1)) (xs (i + 2)) (xs (i + 3)) (xs (i + 4)) hI) 4 gL_law_X6_part rfl hdX6_part ⟨Nat.le_of_ble_eq_true rfl, Nat.le_of_ble_eq_true rfl⟩ hK hN hP1 hP2 hD hS (fun _ h => h) 0 6 rfl rfl rfl rfl hl.1 rfl (Nat.le_of_ble_eq_true rfl) dL_law_923 ⟨Nat.le_of_ble_eq_true rfl, Nat.le_of_ble_eq_true rfl⟩ (fun r1 u1 H locs hq1 hP1 hP2 hD hS => ?_)
  refine lv_aload_n hx hb dL_law_926 rfl (lv_at hl 1 rfl) ?_
  refine lv_aload_n hx hb dL_law_927 rfl (lv_at hl 3 rfl) ?_
  refine lv_iload_n hx hb dL_law_928 rfl (lv_at hl 0 rfl) ?_
  refine lv_iconst (v := nI 1) hx hb dL_law_929 (by decide) ?_
  refine w_iadd (x := i) (y := 1) hx hb dL_law_930 ?_
  refine l_sld (i := i) (k := 1) hx hb hX hbl hbA hS (by omega) hL dL_law_931 ?_
  refine lv_aload_n hx hb dL_law_932 rfl (lv_at hl 3 rfl) ?_
  refine lv_iload_n hx hb dL_law_933 rfl (lv_at hl 0 rfl) ?_
  refine lv_iconst (v := nI 2) hx hb dL_law_934 (by decide) ?_
  refine w_iadd (x := i) (y := 2) hx hb dL_law_935 ?_
  refine l_sld (i := i) (k := 2) hx hb hX hbl hbA hS (by omega) hL dL_law_936 ?_
  refine lv_aload_n hx hb dL_law_937 rfl (lv_at hl 3 rfl) ?_
  refine lv_iload_n hx hb dL_law_938 rfl (lv_at hl 0 rfl) ?_
  refine lv_iconst (v := nI 3) hx hb dL_law_939 (by decide) ?_
  refine w_iadd (x := i) (y := 3) hx hb dL_law_940 ?_
  refine l_sld (i := i) (k := 3) hx hb hX hbl hbA hS (by omega) hL dL_law_941 ?_
  refine lv_aload_n hx hb dL_law_942 rfl (lv_at hl 3 rfl) ?_
  refine lv_iload_n hx hb dL_law_943 rfl (lv_at hl 0 rfl) ?_
  refine lv_iconst (v := nI 4) hx hb dL_law_944 (by decide) ?_
  refine w_iadd (x := i) (y := 4) hx hb dL_law_945 ?_
  refine l_sld (i := i) (k := 4) hx hb hX hbl hbA hS (by omega) hL dL_law_946 ?_
  refine l_ci (rest := [.int r1]) hx hb hml hown htl (s_part l D bb cI cJ cZ (va_A (mW bb cI cJ cZ w d) H.size) w d (xs (i + 1)) (xs (i + 2)) (xs (i + 3)) (xs (i + 4)) hM) 4 gL_law_X7_part rfl hdX7_part ⟨Nat.le_of_ble_eq_true rfl, Nat.le_of_ble_eq_true rfl⟩ hK hN hP2 hP1 (j_sw hD) hS (fun _ h => h) 0 7 rfl rfl rfl rfl hl.1 rfl (Nat.le_of_ble_eq_true rfl) dL_law_947 ⟨Nat.le_of_ble_eq_true rfl, Nat.le_of_ble_eq_true rfl⟩ (fun r2 u2 H locs hq2 hP2 hP1 hD hS => ?_)
  have hD := j_sw hD
  refine lv_icmp_eq hx hb dL_law_950 (tgt := 1402) (by decide) (fun _ => ?_) (fun h9 => absurd (pr_part hI hM.1 hR hq1 hq2.2).1 h9)
  exact K u1.1 u2.1 u1.2 u2.2 H locs hq1.choose_spec.2.1 hq2.1 (pr_part hI hM.1 hR hq1 hq2.2).2 hP1 hP2 hD hS

set_option maxHeartbeats 4000000 in
set_option maxRecDepth 100000 in
theorem lc_21 {p : Program} {l : Launch} {e : Env} {s : State} {m : MethodId} {below : List Frame} {meth : Method} {c0 : Code} {H : Heap} {locs : List Loc} {Q : State → Prop} {ls : Array Slot} {D : va_G} {a bb : Nat → Nat} {cI cJ cZ : ClassId} {b L i : Nat} {xs : Nat → Int32} {v w : Nat → Nat → Nat} {c d : Nat → Nat → Int32}
    (hx : p.tables.exec = Jvm.exec) (hb : c0.code = cL_law) (hml : c0.maxLocals = 4) (hown : s.vm.findClass RL = some m.cls) (htl : ∀ w ∈ wsL_law, w.before #[Value.ref b] s = true) (hX : va_X b L xs s s.heap) (hbl : b < s.heap.size) (hK : va_K D vwCl (xT cI cJ cZ) s) (hN : gN s) (hiL : i + 6 ≤ L) (hL : L ≤ 3072)
    (hI : XI v) (hM : MI w d) (hR : ALK v c (vM w) (cM d)) (hP1 : va_P D vwCl (xW a cI cJ cZ v c) H) (hP2 : va_P D vwCl (mW bb cI cJ cZ w d) H) (hD : va_D (fun q : Nat => s.heap.size ≤ q) (xW a cI cJ cZ v c ++ mW bb cI cJ cZ w d)) (hS : va_S (fun q : Nat => s.heap.size ≤ q) s.heap H locs)
    (hl : lv_has ls 4 [(3, .int (nI (i))), (2, .ref (bb 0)), (1, .ref (a 0)), (0, .ref b)])
    (K : ∀ (v1 w1 : Nat → Nat → Nat) (c1 d1 : Nat → Nat → Int32) (H1 : Heap) (locs1 : List Loc), XI v1 → MI w1 d1 → ALK v1 c1 (vM w1) (cM d1) → va_P D vwCl (xW a cI cJ cZ v1 c1) H1 → va_P D vwCl (mW bb cI cJ cZ w1 d1) H1 → va_D (fun q : Nat => s.heap.size ≤ q) (xW a cI cJ cZ v1 c1 ++ mW bb cI cJ cZ w1 d1) → va_S (fun q : Nat => s.heap.size ≤ q) s.heap H1 locs1 → W p l e room_1 s m #[Value.ref b] below meth c0 H1 locs1 41 3466 Q (F0 m 1402 ls [])) : W p l e room_1 s m #[Value.ref b] below meth c0 H locs 41 3466 Q (F0 m 955 ls []) := by
  have hbA : ¬ (fun q : Nat => s.heap.size ≤ q) b := Nat.not_le.mpr hbl
  refine lv_aload_n hx hb dL_law_955 rfl (lv_at hl 2 rfl) ?_
  refine lv_aload_n hx hb dL_law_956 rfl (lv_at hl 3 rfl) ?_
  refine lv_iload_n hx hb dL_law_957 rfl (lv_at hl 0 rfl) ?_
  refine lv_iconst (v := nI 1) hx hb dL_law_958 (by decide) ?_
  refine w_iadd (x := i) (y := 1) hx hb dL_law_959 ?_
  refine l_sld (i := i) (k := 1) hx hb hX hbl hbA hS (by omega) hL dL_law_960 ?_
  refine lv_aload_n hx hb dL_law_961 rfl (lv_at hl 3 rfl) ?_
  refine lv_iload_n hx hb dL_law_962 rfl (lv_at hl 0 rfl) ?_
  refine lv_iconst (v := nI 2) hx hb dL_law_963 (by decide) ?_
  refine w_iadd (x := i) (y := 2) hx hb dL_law_964 ?_
  refine l_sld (i := i) (k := 2) hx hb hX hbl hbA hS (by omega) hL dL_law_965 ?_
  refine l_ci (rest := []) hx hb hml hown htl (t_apart l D a cI cJ cZ (va_A (xW a cI cJ cZ v c) H.size) v c (xs (i + 1)) (xs (i + 2)) hI) 2 gL_law_X6_apart rfl hdX6_apart ⟨Nat.le_of_ble_eq_true rfl, Nat.le_of_ble_eq_true rfl⟩ hK hN hP1 hP2 hD hS (fun _ h => h) 0 6 rfl rfl rfl rfl hl.1 rfl (Nat.le_of_ble_eq_true rfl) dL_law_966 ⟨Nat.le_of_ble_eq_true rfl, Nat.le_of_ble_eq_true rfl⟩ (fun r1 u1 H locs hq1 hP1 hP2 hD hS => ?_)
  refine lv_aload_n hx hb dL_law_969 rfl (lv_at hl 1 rfl) ?_
  refine lv_aload_n hx hb dL_law_970 rfl (lv_at hl 3 rfl) ?_
  refine lv_iload_n hx hb dL_law_971 rfl (lv_at hl 0 rfl) ?_
  refine lv_iconst (v := nI 1) hx hb dL_law_972 (by decide) ?_
  refine w_iadd (x := i) (y := 1) hx hb dL_law_973 ?_
  refine l_sld (i := i) (k := 1) hx hb hX hbl hbA hS (by omega) hL dL_law_974 ?_
  refine lv_aload_n hx hb dL_law_975 rfl (lv_at hl 3 rfl) ?_
  refine lv_iload_n hx hb dL_law_976 rfl (lv_at hl 0 rfl) ?_
  refine lv_iconst (v := nI 2) hx hb dL_law_977 (by decide) ?_
  refine w_iadd (x := i) (y := 2) hx hb dL_law_978 ?_
  refine l_sld (i := i) (k := 2) hx hb hX hbl hbA hS (by omega) hL dL_law_979 ?_
  refine l_ci (rest := [.int r1]) hx hb hml hown htl (s_apart l D bb cI cJ cZ (va_A (mW bb cI cJ cZ w d) H.size) w d (xs (i + 1)) (xs (i + 2)) hM) 2 gL_law_X7_apart rfl hdX7_apart ⟨Nat.le_of_ble_eq_true rfl, Nat.le_of_ble_eq_true rfl⟩ hK hN hP2 hP1 (j_sw hD) hS (fun _ h => h) 0 7 rfl rfl rfl rfl hl.1 rfl (Nat.le_of_ble_eq_true rfl) dL_law_980 ⟨Nat.le_of_ble_eq_true rfl, Nat.le_of_ble_eq_true rfl⟩ (fun r2 u2 H locs hq2 hP2 hP1 hD hS => ?_)
  have hD := j_sw hD
  refine lv_icmp_eq hx hb dL_law_983 (tgt := 1402) (by decide) (fun _ => ?_) (fun h9 => absurd (pr_apart hI hM.1 hR hq1 hq2) h9)
  exact K v w c d H locs hI hM hR hP1 hP2 hD hS

set_option maxHeartbeats 4000000 in
set_option maxRecDepth 100000 in
theorem lc_22 {p : Program} {l : Launch} {e : Env} {s : State} {m : MethodId} {below : List Frame} {meth : Method} {c0 : Code} {H : Heap} {locs : List Loc} {Q : State → Prop} {ls : Array Slot} {D : va_G} {a bb : Nat → Nat} {cI cJ cZ : ClassId} {b L i : Nat} {xs : Nat → Int32} {v w : Nat → Nat → Nat} {c d : Nat → Nat → Int32}
    (hx : p.tables.exec = Jvm.exec) (hb : c0.code = cL_law) (hml : c0.maxLocals = 4) (hown : s.vm.findClass RL = some m.cls) (htl : ∀ w ∈ wsL_law, w.before #[Value.ref b] s = true) (hX : va_X b L xs s s.heap) (hbl : b < s.heap.size) (hK : va_K D vwCl (xT cI cJ cZ) s) (hN : gN s) (hiL : i + 6 ≤ L) (hL : L ≤ 3072)
    (hI : XI v) (hM : MI w d) (hR : ALK v c (vM w) (cM d)) (hP1 : va_P D vwCl (xW a cI cJ cZ v c) H) (hP2 : va_P D vwCl (mW bb cI cJ cZ w d) H) (hD : va_D (fun q : Nat => s.heap.size ≤ q) (xW a cI cJ cZ v c ++ mW bb cI cJ cZ w d)) (hS : va_S (fun q : Nat => s.heap.size ≤ q) s.heap H locs)
    (hl : lv_has ls 4 [(3, .int (nI (i))), (2, .ref (bb 0)), (1, .ref (a 0)), (0, .ref b)])
    (K : ∀ (v1 w1 : Nat → Nat → Nat) (c1 d1 : Nat → Nat → Int32) (H1 : Heap) (locs1 : List Loc), XI v1 → MI w1 d1 → ALK v1 c1 (vM w1) (cM d1) → va_P D vwCl (xW a cI cJ cZ v1 c1) H1 → va_P D vwCl (mW bb cI cJ cZ w1 d1) H1 → va_D (fun q : Nat => s.heap.size ≤ q) (xW a cI cJ cZ v1 c1 ++ mW bb cI cJ cZ w1 d1) → va_S (fun q : Nat => s.heap.size ≤ q) s.heap H1 locs1 → W p l e room_1 s m #[Value.ref b] below meth c0 H1 locs1 41 3466 Q (F0 m 1402 ls [])) : W p l e room_1 s m #[Value.ref b] below meth c0 H locs 41 3466 Q (F0 m 988 ls []) := by
  have hbA : ¬ (fun q : Nat => s.heap.size ≤ q) b := Nat.not_le.mpr hbl
  refine lv_aload_n hx hb dL_law_988 rfl (lv_at hl 2 rfl) ?_
  refine lv_aload_n hx hb dL_law_989 rfl (lv_at hl 3 rfl) ?_
  refine lv_iload_n hx hb dL_law_990 rfl (lv_at hl 0 rfl) ?_
  refine lv_iconst (v := nI 1) hx hb dL_law_991 (by decide) ?_
  refine w_iadd (x := i) (y := 1) hx hb dL_law_992 ?_
  refine l_sld (i := i) (k := 1) hx hb hX hbl hbA hS (by omega) hL dL_law_993 ?_
  refine l_ci (rest := []) hx hb hml hown htl (t_nearest l D a cI cJ cZ (va_A (xW a cI cJ cZ v c) H.size) v c (xs (i + 1)) hI) 1 gL_law_X6_nearest rfl hdX6_nearest ⟨Nat.le_of_ble_eq_true rfl, Nat.le_of_ble_eq_true rfl⟩ hK hN hP1 hP2 hD hS (fun _ h => h) 0 6 rfl rfl rfl rfl hl.1 rfl (Nat.le_of_ble_eq_true rfl) dL_law_994 ⟨Nat.le_of_ble_eq_true rfl, Nat.le_of_ble_eq_true rfl⟩ (fun r1 u1 H locs hq1 hP1 hP2 hD hS => ?_)
  refine lv_aload_n hx hb dL_law_997 rfl (lv_at hl 1 rfl) ?_
  refine lv_aload_n hx hb dL_law_998 rfl (lv_at hl 3 rfl) ?_
  refine lv_iload_n hx hb dL_law_999 rfl (lv_at hl 0 rfl) ?_
  refine lv_iconst (v := nI 1) hx hb dL_law_1000 (by decide) ?_
  refine w_iadd (x := i) (y := 1) hx hb dL_law_1001 ?_
  refine l_sld (i := i) (k := 1) hx hb hX hbl hbA hS (by omega) hL dL_law_1002 ?_
  refine l_ci (rest := [.int r1]) hx hb hml hown htl (s_nearest l D bb cI cJ cZ (va_A (mW bb cI cJ cZ w d) H.size) w d (xs (i + 1)) hM) 1 gL_law_X7_nearest rfl hdX7_nearest ⟨Nat.le_of_ble_eq_true rfl, Nat.le_of_ble_eq_true rfl⟩ hK hN hP2 hP1 (j_sw hD) hS (fun _ h => h) 0 7 rfl rfl rfl rfl hl.1 rfl (Nat.le_of_ble_eq_true rfl) dL_law_1003 ⟨Nat.le_of_ble_eq_true rfl, Nat.le_of_ble_eq_true rfl⟩ (fun r2 u2 H locs hq2 hP2 hP1 hD hS => ?_)
  have hD := j_sw hD
  refine lv_icmp_eq hx hb dL_law_1006 (tgt := 1402) (by decide) (fun _ => ?_) (fun h9 => absurd (pr_nearest hI hM.1 hR hq1 hq2) h9)
  exact K v w c d H locs hI hM hR hP1 hP2 hD hS

set_option maxHeartbeats 4000000 in
set_option maxRecDepth 100000 in
theorem lc_23 {p : Program} {l : Launch} {e : Env} {s : State} {m : MethodId} {below : List Frame} {meth : Method} {c0 : Code} {H : Heap} {locs : List Loc} {Q : State → Prop} {ls : Array Slot} {D : va_G} {a bb : Nat → Nat} {cI cJ cZ : ClassId} {b L i : Nat} {xs : Nat → Int32} {v w : Nat → Nat → Nat} {c d : Nat → Nat → Int32}
    (hx : p.tables.exec = Jvm.exec) (hb : c0.code = cL_law) (hml : c0.maxLocals = 4) (hown : s.vm.findClass RL = some m.cls) (htl : ∀ w ∈ wsL_law, w.before #[Value.ref b] s = true) (hX : va_X b L xs s s.heap) (hbl : b < s.heap.size) (hK : va_K D vwCl (xT cI cJ cZ) s) (hN : gN s) (hiL : i + 6 ≤ L) (hL : L ≤ 3072)
    (hI : XI v) (hM : MI w d) (hR : ALK v c (vM w) (cM d)) (hP1 : va_P D vwCl (xW a cI cJ cZ v c) H) (hP2 : va_P D vwCl (mW bb cI cJ cZ w d) H) (hD : va_D (fun q : Nat => s.heap.size ≤ q) (xW a cI cJ cZ v c ++ mW bb cI cJ cZ w d)) (hS : va_S (fun q : Nat => s.heap.size ≤ q) s.heap H locs)
    (hl : lv_has ls 4 [(3, .int (nI (i))), (2, .ref (bb 0)), (1, .ref (a 0)), (0, .ref b)])
    (K : ∀ (v1 w1 : Nat → Nat → Nat) (c1 d1 : Nat → Nat → Int32) (H1 : Heap) (locs1 : List Loc), XI v1 → MI w1 d1 → ALK v1 c1 (vM w1) (cM d1) → va_P D vwCl (xW a cI cJ cZ v1 c1) H1 → va_P D vwCl (mW bb cI cJ cZ w1 d1) H1 → va_D (fun q : Nat => s.heap.size ≤ q) (xW a cI cJ cZ v1 c1 ++ mW bb cI cJ cZ w1 d1) → va_S (fun q : Nat => s.heap.size ≤ q) s.heap H1 locs1 → W p l e room_1 s m #[Value.ref b] below meth c0 H1 locs1 41 3466 Q (F0 m 1402 ls [])) : W p l e room_1 s m #[Value.ref b] below meth c0 H locs 41 3466 Q (F0 m 1011 ls []) := by
  have hbA : ¬ (fun q : Nat => s.heap.size ≤ q) b := Nat.not_le.mpr hbl
  refine lv_aload_n hx hb dL_law_1011 rfl (lv_at hl 2 rfl) ?_
  refine l_ci (rest := []) hx hb hml hown htl (t_safe l D a cI cJ cZ (va_A (xW a cI cJ cZ v c) H.size) v c  hI) 0 gL_law_X6_safe rfl hdX6_safe ⟨Nat.le_of_ble_eq_true rfl, Nat.le_of_ble_eq_true rfl⟩ hK hN hP1 hP2 hD hS (fun _ h => h) 0 6 rfl rfl rfl rfl hl.1 rfl (Nat.le_of_ble_eq_true rfl) dL_law_1012 ⟨Nat.le_of_ble_eq_true rfl, Nat.le_of_ble_eq_true rfl⟩ (fun r1 u1 H locs hq1 hP1 hP2 hD hS => ?_)
  refine lv_aload_n hx hb dL_law_1015 rfl (lv_at hl 1 rfl) ?_
  refine l_ci (rest := [.int r1]) hx hb hml hown htl (s_safe l D bb cI cJ cZ (va_A (mW bb cI cJ cZ w d) H.size) w d  hM) 0 gL_law_X7_safe rfl hdX7_safe ⟨Nat.le_of_ble_eq_true rfl, Nat.le_of_ble_eq_true rfl⟩ hK hN hP2 hP1 (j_sw hD) hS (fun _ h => h) 0 7 rfl rfl rfl rfl hl.1 rfl (Nat.le_of_ble_eq_true rfl) dL_law_1016 ⟨Nat.le_of_ble_eq_true rfl, Nat.le_of_ble_eq_true rfl⟩ (fun r2 u2 H locs hq2 hP2 hP1 hD hS => ?_)
  have hD := j_sw hD
  refine lv_icmp_eq hx hb dL_law_1019 (tgt := 1402) (by decide) (fun _ => ?_) (fun h9 => absurd (pr_safe hI hM.1 hR hq1 hq2) h9)
  exact K v w c d H locs hI hM hR hP1 hP2 hD hS

set_option maxHeartbeats 4000000 in
set_option maxRecDepth 100000 in
theorem lc_24 {p : Program} {l : Launch} {e : Env} {s : State} {m : MethodId} {below : List Frame} {meth : Method} {c0 : Code} {H : Heap} {locs : List Loc} {Q : State → Prop} {ls : Array Slot} {D : va_G} {a bb : Nat → Nat} {cI cJ cZ : ClassId} {b L i : Nat} {xs : Nat → Int32} {v w : Nat → Nat → Nat} {c d : Nat → Nat → Int32}
    (hx : p.tables.exec = Jvm.exec) (hb : c0.code = cL_law) (hml : c0.maxLocals = 4) (hown : s.vm.findClass RL = some m.cls) (htl : ∀ w ∈ wsL_law, w.before #[Value.ref b] s = true) (hX : va_X b L xs s s.heap) (hbl : b < s.heap.size) (hK : va_K D vwCl (xT cI cJ cZ) s) (hN : gN s) (hiL : i + 6 ≤ L) (hL : L ≤ 3072)
    (hI : XI v) (hM : MI w d) (hR : ALK v c (vM w) (cM d)) (hP1 : va_P D vwCl (xW a cI cJ cZ v c) H) (hP2 : va_P D vwCl (mW bb cI cJ cZ w d) H) (hD : va_D (fun q : Nat => s.heap.size ≤ q) (xW a cI cJ cZ v c ++ mW bb cI cJ cZ w d)) (hS : va_S (fun q : Nat => s.heap.size ≤ q) s.heap H locs)
    (hl : lv_has ls 4 [(3, .int (nI (i))), (2, .ref (bb 0)), (1, .ref (a 0)), (0, .ref b)])
    (K : ∀ (v1 w1 : Nat → Nat → Nat) (c1 d1 : Nat → Nat → Int32) (H1 : Heap) (locs1 : List Loc), XI v1 → MI w1 d1 → ALK v1 c1 (vM w1) (cM d1) → va_P D vwCl (xW a cI cJ cZ v1 c1) H1 → va_P D vwCl (mW bb cI cJ cZ w1 d1) H1 → va_D (fun q : Nat => s.heap.size ≤ q) (xW a cI cJ cZ v1 c1 ++ mW bb cI cJ cZ w1 d1) → va_S (fun q : Nat => s.heap.size ≤ q) s.heap H1 locs1 → W p l e room_1 s m #[Value.ref b] below meth c0 H1 locs1 41 3466 Q (F0 m 1402 ls [])) : W p l e room_1 s m #[Value.ref b] below meth c0 H locs 41 3466 Q (F0 m 1024 ls []) := by
  have hbA : ¬ (fun q : Nat => s.heap.size ≤ q) b := Nat.not_le.mpr hbl
  refine lv_aload_n hx hb dL_law_1024 rfl (lv_at hl 2 rfl) ?_
  refine lv_aload_n hx hb dL_law_1025 rfl (lv_at hl 3 rfl) ?_
  refine lv_iload_n hx hb dL_law_1026 rfl (lv_at hl 0 rfl) ?_
  refine lv_iconst (v := nI 1) hx hb dL_law_1027 (by decide) ?_
  refine w_iadd (x := i) (y := 1) hx hb dL_law_1028 ?_
  refine l_sld (i := i) (k := 1) hx hb hX hbl hbA hS (by omega) hL dL_law_1029 ?_
  refine lv_aload_n hx hb dL_law_1030 rfl (lv_at hl 3 rfl) ?_
  refine lv_iload_n hx hb dL_law_1031 rfl (lv_at hl 0 rfl) ?_
  refine lv_iconst (v := nI 2) hx hb dL_law_1032 (by decide) ?_
  refine w_iadd (x := i) (y := 2) hx hb dL_law_1033 ?_
  refine l_sld (i := i) (k := 2) hx hb hX hbl hbA hS (by omega) hL dL_law_1034 ?_
  refine l_cl (rest := []) hx hb hml hown htl (t_plans l D a cI cJ cZ (va_A (xW a cI cJ cZ v c) H.size) v c (xs (i + 1)) (xs (i + 2)) hI) 2 gL_law_X6_plans rfl hdX6_plans ⟨Nat.le_of_ble_eq_true rfl, Nat.le_of_ble_eq_true rfl⟩ hK hN hP1 hP2 hD hS (fun _ h => h) 0 6 rfl rfl rfl rfl hl.1 rfl (Nat.le_of_ble_eq_true rfl) dL_law_1035 ⟨Nat.le_of_ble_eq_true rfl, Nat.le_of_ble_eq_true rfl⟩ (fun r1 u1 H locs hq1 hP1 hP2 hD hS => ?_)
  refine lv_aload_n hx hb dL_law_1038 rfl (lv_at hl 1 rfl) ?_
  refine lv_aload_n hx hb dL_law_1039 rfl (lv_at hl 3 rfl) ?_
  refine lv_iload_n hx hb dL_law_1040 rfl (lv_at hl 0 rfl) ?_
  refine lv_iconst (v := nI 1) hx hb dL_law_1041 (by decide) ?_
  refine w_iadd (x := i) (y := 1) hx hb dL_law_1042 ?_
  refine l_sld (i := i) (k := 1) hx hb hX hbl hbA hS (by omega) hL dL_law_1043 ?_
  refine lv_aload_n hx hb dL_law_1044 rfl (lv_at hl 3 rfl) ?_
  refine lv_iload_n hx hb dL_law_1045 rfl (lv_at hl 0 rfl) ?_
  refine lv_iconst (v := nI 2) hx hb dL_law_1046 (by decide) ?_
  refine w_iadd (x := i) (y := 2) hx hb dL_law_1047 ?_
  refine l_sld (i := i) (k := 2) hx hb hX hbl hbA hS (by omega) hL dL_law_1048 ?_
  refine l_cl (rest := [.long r1]) hx hb hml hown htl (s_plans l D bb cI cJ cZ (va_A (mW bb cI cJ cZ w d) H.size) w d (xs (i + 1)) (xs (i + 2)) hM) 2 gL_law_X7_plans rfl hdX7_plans ⟨Nat.le_of_ble_eq_true rfl, Nat.le_of_ble_eq_true rfl⟩ hK hN hP2 hP1 (j_sw hD) hS (fun _ h => h) 0 7 rfl rfl rfl rfl hl.1 rfl (Nat.le_of_ble_eq_true rfl) dL_law_1049 ⟨Nat.le_of_ble_eq_true rfl, Nat.le_of_ble_eq_true rfl⟩ (fun r2 u2 H locs hq2 hP2 hP1 hD hS => ?_)
  have hD := j_sw hD
  refine W.lcmp hx hb dL_law_1052 ?_
  refine lv_if_eq hx hb dL_law_1053 (tgt := 1402) (by decide) (fun _ => ?_) (fun h9 => absurd (lcmp_0 (pr_plans hI hM.1 hR hq1 hq2.2).1) h9)
  exact K u1.1 u2.1 u1.2 u2.2 H locs hq1.2.1 hq2.1 (pr_plans hI hM.1 hR hq1 hq2.2).2 hP1 hP2 hD hS

set_option maxHeartbeats 4000000 in
set_option maxRecDepth 100000 in
theorem lc_25 {p : Program} {l : Launch} {e : Env} {s : State} {m : MethodId} {below : List Frame} {meth : Method} {c0 : Code} {H : Heap} {locs : List Loc} {Q : State → Prop} {ls : Array Slot} {D : va_G} {a bb : Nat → Nat} {cI cJ cZ : ClassId} {b L i : Nat} {xs : Nat → Int32} {v w : Nat → Nat → Nat} {c d : Nat → Nat → Int32}
    (hx : p.tables.exec = Jvm.exec) (hb : c0.code = cL_law) (hml : c0.maxLocals = 4) (hown : s.vm.findClass RL = some m.cls) (htl : ∀ w ∈ wsL_law, w.before #[Value.ref b] s = true) (hX : va_X b L xs s s.heap) (hbl : b < s.heap.size) (hK : va_K D vwCl (xT cI cJ cZ) s) (hN : gN s) (hiL : i + 6 ≤ L) (hL : L ≤ 3072)
    (hI : XI v) (hM : MI w d) (hR : ALK v c (vM w) (cM d)) (hP1 : va_P D vwCl (xW a cI cJ cZ v c) H) (hP2 : va_P D vwCl (mW bb cI cJ cZ w d) H) (hD : va_D (fun q : Nat => s.heap.size ≤ q) (xW a cI cJ cZ v c ++ mW bb cI cJ cZ w d)) (hS : va_S (fun q : Nat => s.heap.size ≤ q) s.heap H locs)
    (hl : lv_has ls 4 [(3, .int (nI (i))), (2, .ref (bb 0)), (1, .ref (a 0)), (0, .ref b)])
    (K : ∀ (v1 w1 : Nat → Nat → Nat) (c1 d1 : Nat → Nat → Int32) (H1 : Heap) (locs1 : List Loc), XI v1 → MI w1 d1 → ALK v1 c1 (vM w1) (cM d1) → va_P D vwCl (xW a cI cJ cZ v1 c1) H1 → va_P D vwCl (mW bb cI cJ cZ w1 d1) H1 → va_D (fun q : Nat => s.heap.size ≤ q) (xW a cI cJ cZ v1 c1 ++ mW bb cI cJ cZ w1 d1) → va_S (fun q : Nat => s.heap.size ≤ q) s.heap H1 locs1 → W p l e room_1 s m #[Value.ref b] below meth c0 H1 locs1 41 3466 Q (F0 m 1402 ls [])) : W p l e room_1 s m #[Value.ref b] below meth c0 H locs 41 3466 Q (F0 m 1058 ls []) := by
  have hbA : ¬ (fun q : Nat => s.heap.size ≤ q) b := Nat.not_le.mpr hbl
  refine lv_aload_n hx hb dL_law_1058 rfl (lv_at hl 2 rfl) ?_
  refine lv_aload_n hx hb dL_law_1059 rfl (lv_at hl 3 rfl) ?_
  refine lv_iload_n hx hb dL_law_1060 rfl (lv_at hl 0 rfl) ?_
  refine lv_iconst (v := nI 1) hx hb dL_law_1061 (by decide) ?_
  refine w_iadd (x := i) (y := 1) hx hb dL_law_1062 ?_
  refine l_sld (i := i) (k := 1) hx hb hX hbl hbA hS (by omega) hL dL_law_1063 ?_
  refine lv_aload_n hx hb dL_law_1064 rfl (lv_at hl 3 rfl) ?_
  refine lv_iload_n hx hb dL_law_1065 rfl (lv_at hl 0 rfl) ?_
  refine lv_iconst (v := nI 2) hx hb dL_law_1066 (by decide) ?_
  refine w_iadd (x := i) (y := 2) hx hb dL_law_1067 ?_
  refine l_sld (i := i) (k := 2) hx hb hX hbl hbA hS (by omega) hL dL_law_1068 ?_
  refine lv_aload_n hx hb dL_law_1069 rfl (lv_at hl 3 rfl) ?_
  refine lv_iload_n hx hb dL_law_1070 rfl (lv_at hl 0 rfl) ?_
  refine lv_iconst (v := nI 3) hx hb dL_law_1071 (by decide) ?_
  refine w_iadd (x := i) (y := 3) hx hb dL_law_1072 ?_
  refine l_sld (i := i) (k := 3) hx hb hX hbl hbA hS (by omega) hL dL_law_1073 ?_
  refine l_ci (rest := []) hx hb hml hown htl (t_sheet l D a cI cJ cZ (va_A (xW a cI cJ cZ v c) H.size) v c (xs (i + 1)) (xs (i + 2)) (xs (i + 3)) hI) 3 gL_law_X6_sheet rfl hdX6_sheet ⟨Nat.le_of_ble_eq_true rfl, Nat.le_of_ble_eq_true rfl⟩ hK hN hP1 hP2 hD hS (fun _ h => h) 0 6 rfl rfl rfl rfl hl.1 rfl (Nat.le_of_ble_eq_true rfl) dL_law_1074 ⟨Nat.le_of_ble_eq_true rfl, Nat.le_of_ble_eq_true rfl⟩ (fun r1 u1 H locs hq1 hP1 hP2 hD hS => ?_)
  refine lv_aload_n hx hb dL_law_1077 rfl (lv_at hl 1 rfl) ?_
  refine lv_aload_n hx hb dL_law_1078 rfl (lv_at hl 3 rfl) ?_
  refine lv_iload_n hx hb dL_law_1079 rfl (lv_at hl 0 rfl) ?_
  refine lv_iconst (v := nI 1) hx hb dL_law_1080 (by decide) ?_
  refine w_iadd (x := i) (y := 1) hx hb dL_law_1081 ?_
  refine l_sld (i := i) (k := 1) hx hb hX hbl hbA hS (by omega) hL dL_law_1082 ?_
  refine lv_aload_n hx hb dL_law_1083 rfl (lv_at hl 3 rfl) ?_
  refine lv_iload_n hx hb dL_law_1084 rfl (lv_at hl 0 rfl) ?_
  refine lv_iconst (v := nI 2) hx hb dL_law_1085 (by decide) ?_
  refine w_iadd (x := i) (y := 2) hx hb dL_law_1086 ?_
  refine l_sld (i := i) (k := 2) hx hb hX hbl hbA hS (by omega) hL dL_law_1087 ?_
  refine lv_aload_n hx hb dL_law_1088 rfl (lv_at hl 3 rfl) ?_
  refine lv_iload_n hx hb dL_law_1089 rfl (lv_at hl 0 rfl) ?_
  refine lv_iconst (v := nI 3) hx hb dL_law_1090 (by decide) ?_
  refine w_iadd (x := i) (y := 3) hx hb dL_law_1091 ?_
  refine l_sld (i := i) (k := 3) hx hb hX hbl hbA hS (by omega) hL dL_law_1092 ?_
  refine l_ci (rest := [.int r1]) hx hb hml hown htl (s_sheet l D bb cI cJ cZ (va_A (mW bb cI cJ cZ w d) H.size) w d (xs (i + 1)) (xs (i + 2)) (xs (i + 3)) hM) 3 gL_law_X7_sheet rfl hdX7_sheet ⟨Nat.le_of_ble_eq_true rfl, Nat.le_of_ble_eq_true rfl⟩ hK hN hP2 hP1 (j_sw hD) hS (fun _ h => h) 0 7 rfl rfl rfl rfl hl.1 rfl (Nat.le_of_ble_eq_true rfl) dL_law_1093 ⟨Nat.le_of_ble_eq_true rfl, Nat.le_of_ble_eq_true rfl⟩ (fun r2 u2 H locs hq2 hP2 hP1 hD hS => ?_)
  have hD := j_sw hD
  refine lv_icmp_eq hx hb dL_law_1096 (tgt := 1402) (by decide) (fun _ => ?_) (fun h9 => absurd (pr_sheet hI hM.1 hR hq1.2 hq2.2).1 h9)
  exact K u1.1 u2.1 u1.2 u2.2 H locs hq1.1 hq2.1 (pr_sheet hI hM.1 hR hq1.2 hq2.2).2 hP1 hP2 hD hS

set_option maxHeartbeats 4000000 in
set_option maxRecDepth 100000 in
theorem lc_26 {p : Program} {l : Launch} {e : Env} {s : State} {m : MethodId} {below : List Frame} {meth : Method} {c0 : Code} {H : Heap} {locs : List Loc} {Q : State → Prop} {ls : Array Slot} {D : va_G} {a bb : Nat → Nat} {cI cJ cZ : ClassId} {b L i : Nat} {xs : Nat → Int32} {v w : Nat → Nat → Nat} {c d : Nat → Nat → Int32}
    (hx : p.tables.exec = Jvm.exec) (hb : c0.code = cL_law) (hml : c0.maxLocals = 4) (hown : s.vm.findClass RL = some m.cls) (htl : ∀ w ∈ wsL_law, w.before #[Value.ref b] s = true) (hX : va_X b L xs s s.heap) (hbl : b < s.heap.size) (hK : va_K D vwCl (xT cI cJ cZ) s) (hN : gN s) (hiL : i + 6 ≤ L) (hL : L ≤ 3072)
    (hI : XI v) (hM : MI w d) (hR : ALK v c (vM w) (cM d)) (hP1 : va_P D vwCl (xW a cI cJ cZ v c) H) (hP2 : va_P D vwCl (mW bb cI cJ cZ w d) H) (hD : va_D (fun q : Nat => s.heap.size ≤ q) (xW a cI cJ cZ v c ++ mW bb cI cJ cZ w d)) (hS : va_S (fun q : Nat => s.heap.size ≤ q) s.heap H locs)
    (hl : lv_has ls 4 [(3, .int (nI (i))), (2, .ref (bb 0)), (1, .ref (a 0)), (0, .ref b)])
    (K : ∀ (v1 w1 : Nat → Nat → Nat) (c1 d1 : Nat → Nat → Int32) (H1 : Heap) (locs1 : List Loc), XI v1 → MI w1 d1 → ALK v1 c1 (vM w1) (cM d1) → va_P D vwCl (xW a cI cJ cZ v1 c1) H1 → va_P D vwCl (mW bb cI cJ cZ w1 d1) H1 → va_D (fun q : Nat => s.heap.size ≤ q) (xW a cI cJ cZ v1 c1 ++ mW bb cI cJ cZ w1 d1) → va_S (fun q : Nat => s.heap.size ≤ q) s.heap H1 locs1 → W p l e room_1 s m #[Value.ref b] below meth c0 H1 locs1 41 3466 Q (F0 m 1402 ls [])) : W p l e room_1 s m #[Value.ref b] below meth c0 H locs 41 3466 Q (F0 m 1101 ls []) := by
  have hbA : ¬ (fun q : Nat => s.heap.size ≤ q) b := Nat.not_le.mpr hbl
  refine lv_aload_n hx hb dL_law_1101 rfl (lv_at hl 2 rfl) ?_
  refine lv_aload_n hx hb dL_law_1102 rfl (lv_at hl 3 rfl) ?_
  refine lv_iload_n hx hb dL_law_1103 rfl (lv_at hl 0 rfl) ?_
  refine lv_iconst (v := nI 1) hx hb dL_law_1104 (by decide) ?_
  refine w_iadd (x := i) (y := 1) hx hb dL_law_1105 ?_
  refine l_sld (i := i) (k := 1) hx hb hX hbl hbA hS (by omega) hL dL_law_1106 ?_
  refine l_ci (rest := []) hx hb hml hown htl (t_lose l D a cI cJ cZ (va_A (xW a cI cJ cZ v c) H.size) v c (xs (i + 1)) hI) 1 gL_law_X6_lose rfl hdX6_lose ⟨Nat.le_of_ble_eq_true rfl, Nat.le_of_ble_eq_true rfl⟩ hK hN hP1 hP2 hD hS (fun _ h => h) 0 6 rfl rfl rfl rfl hl.1 rfl (Nat.le_of_ble_eq_true rfl) dL_law_1107 ⟨Nat.le_of_ble_eq_true rfl, Nat.le_of_ble_eq_true rfl⟩ (fun r1 u1 H locs hq1 hP1 hP2 hD hS => ?_)
  refine lv_aload_n hx hb dL_law_1110 rfl (lv_at hl 1 rfl) ?_
  refine lv_aload_n hx hb dL_law_1111 rfl (lv_at hl 3 rfl) ?_
  refine lv_iload_n hx hb dL_law_1112 rfl (lv_at hl 0 rfl) ?_
  refine lv_iconst (v := nI 1) hx hb dL_law_1113 (by decide) ?_
  refine w_iadd (x := i) (y := 1) hx hb dL_law_1114 ?_
  refine l_sld (i := i) (k := 1) hx hb hX hbl hbA hS (by omega) hL dL_law_1115 ?_
  refine l_ci (rest := [.int r1]) hx hb hml hown htl (s_lose l D bb cI cJ cZ (va_A (mW bb cI cJ cZ w d) H.size) w d (xs (i + 1)) hM) 1 gL_law_X7_lose rfl hdX7_lose ⟨Nat.le_of_ble_eq_true rfl, Nat.le_of_ble_eq_true rfl⟩ hK hN hP2 hP1 (j_sw hD) hS (fun _ h => h) 0 7 rfl rfl rfl rfl hl.1 rfl (Nat.le_of_ble_eq_true rfl) dL_law_1116 ⟨Nat.le_of_ble_eq_true rfl, Nat.le_of_ble_eq_true rfl⟩ (fun r2 u2 H locs hq2 hP2 hP1 hD hS => ?_)
  have hD := j_sw hD
  refine lv_icmp_eq hx hb dL_law_1119 (tgt := 1402) (by decide) (fun _ => ?_) (fun h9 => absurd (pr_lose hI hM.1 hR hq1.2 hq2.2).1 h9)
  exact K u1.1 u2.1 u1.2 u2.2 H locs hq1.1 hq2.1 (pr_lose hI hM.1 hR hq1.2 hq2.2).2 hP1 hP2 hD hS
