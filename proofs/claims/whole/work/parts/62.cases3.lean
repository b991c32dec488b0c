/-! ===== the law's calls ===== -/
set_option maxHeartbeats 4000000 in
set_option maxRecDepth 100000 in
theorem lc_27 {p : Program} {l : Launch} {e : Env} {s : State} {m : MethodId} {below : List Frame} {meth : Method} {c0 : Code} {H : Heap} {locs : List Loc} {Q : State → Prop} {ls : Array Slot} {D : va_G} {a bb : Nat → Nat} {cI cJ cZ : ClassId} {b L i : Nat} {xs : Nat → Int32} {v w : Nat → Nat → Nat} {c d : Nat → Nat → Int32}
    (hx : p.tables.exec = Jvm.exec) (hb : c0.code = cL_law) (hml : c0.maxLocals = 4) (hown : s.vm.findClass RL = some m.cls) (htl : ∀ w ∈ wsL_law, w.before #[Value.ref b] s = true) (hX : va_X b L xs s s.heap) (hbl : b < s.heap.size) (hK : va_K D vwCl (xT cI cJ cZ) s) (hN : gN s) (hiL : i + 6 ≤ L) (hL : L ≤ 3072)
    (hI : XI v) (hM : MI w d) (hR : ALK v c (vM w) (cM d)) (hP1 : va_P D vwCl (xW a cI cJ cZ v c) H) (hP2 : va_P D vwCl (mW bb cI cJ cZ w d) H) (hD : va_D (fun q : Nat => s.heap.size ≤ q) (xW a cI cJ cZ v c ++ mW bb cI cJ cZ w d)) (hS : va_S (fun q : Nat => s.heap.size ≤ q) s.heap H locs)
    (hl : lv_has ls 4 [(3, .int (nI (i))), (2, .ref (bb 0)), (1, .ref (a 0)), (0, .ref b)])
    (K : ∀ (v1 w1 : Nat → Nat → Nat) (c1 d1 : Nat → Nat → Int32) (H1 : Heap) (locs1 : List Loc), XI v1 → MI w1 d1 → ALK v1 c1 (vM w1) (cM d1) → va_P D vwCl (xW a cI cJ cZ v1 c1) H1 → va_P D vwCl (mW bb cI cJ cZ w1 d1) H1 → va_D (fun q : Nat => s.heap.size ≤ q) (xW a cI cJ cZ v1 c1 ++ mW bb cI cJ cZ w1 d1) → va_S (fun q : Nat => s.heap.size ≤ q) s.heap H1 locs1 → W p l e room_1 s m #[Value.ref b] below meth c0 H1 locs1 41 3466 Q (F0 m 1402 ls [])) : W p l e room_1 s m #[Value.ref b] below meth c0 H locs 41 3466 Q (F0 m 1124 ls []) := by
  have hbA : ¬ (fun q : Nat => s.heap.size ≤ q) b := Nat.not_le.mpr hbl
  refine lv_aload_n hx hb dL_law_1124 rfl (lv_at hl 2 rfl) ?_
  refine lv_aload_n hx hb dL_law_1125 rfl (lv_at hl 3 rfl) ?_
  refine lv_iload_n hx hb dL_law_1126 rfl (lv_at hl 0 rfl) ?_
  refine lv_iconst (v := nI 1) hx hb dL_law_1127 (by decide) ?_
  refine w_iadd (x := i) (y := 1) hx hb dL_law_1128 ?_
  refine l_sld (i := i) (k := 1) hx hb hX hbl hbA hS (by omega) hL dL_law_1129 ?_
  refine lv_aload_n hx hb dL_law_1130 rfl (lv_at hl 3 rfl) ?_
  refine lv_iload_n hx hb dL_law_1131 rfl (lv_at hl 0 rfl) ?_
  refine lv_iconst (v := nI 2) hx hb dL_law_1132 (by decide) ?_
  refine w_iadd (x := i) (y := 2) hx hb dL_law_1133 ?_
  refine l_sld (i := i) (k := 2) hx hb hX hbl hbA hS (by omega) hL dL_law_1134 ?_
  refine lv_aload_n hx hb dL_law_1135 rfl (lv_at hl 3 rfl) ?_
  refine lv_iload_n hx hb dL_law_1136 rfl (lv_at hl 0 rfl) ?_
  refine lv_iconst (v := nI 3) hx hb dL_law_1137 (by decide) ?_
  refine w_iadd (x := i) (y := 3) hx hb dL_law_1138 ?_
  refine l_sld (i := i) (k := 3) hx hb hX hbl hbA hS (by omega) hL dL_law_1139 ?_
  refine l_ci (rest := []) hx hb hml hown htl (t_put l D a cI cJ cZ (va_A (xW a cI cJ cZ v c) H.size) v c (xs (i + 1)) (xs (i + 2)) (xs (i + 3)) hI) 3 gL_law_X6_put rfl hdX6_put ⟨Nat.le_of_ble_eq_true rfl, Nat.le_of_ble_eq_true rfl⟩ hK hN hP1 hP2 hD hS (fun _ h => h) 0 6 rfl rfl rfl rfl hl.1 rfl (Nat.le_of_ble_eq_true rfl) dL_law_1140 ⟨Nat.le_of_ble_eq_true rfl, Nat.le_of_ble_eq_true rfl⟩ (fun r1 u1 H locs hq1 hP1 hP2 hD hS => ?_)
  refine lv_aload_n hx hb dL_law_1143 rfl (lv_at hl 1 rfl) ?_
  refine lv_aload_n hx hb dL_law_1144 rfl (lv_at hl 3 rfl) ?_
  refine lv_iload_n hx hb dL_law_1145 rfl (lv_at hl 0 rfl) ?_
  refine lv_iconst (v := nI 1) hx hb dL_law_1146 (by decide) ?_
  refine w_iadd (x := i) (y := 1) hx hb dL_law_1147 ?_
  refine l_sld (i := i) (k := 1) hx hb hX hbl hbA hS (by omega) hL dL_law_1148 ?_
  refine lv_aload_n hx hb dL_law_1149 rfl (lv_at hl 3 rfl) ?_
  refine lv_iload_n hx hb dL_law_1150 rfl (lv_at hl 0 rfl) ?_
  refine lv_iconst (v := nI 2) hx hb dL_law_1151 (by decide) ?_
  refine w_iadd (x := i) (y := 2) hx hb dL_law_1152 ?_
  refine l_sld (i := i) (k := 2) hx hb hX hbl hbA hS (by omega) hL dL_law_1153 ?_
  refine lv_aload_n hx hb dL_law_1154 rfl (lv_at hl 3 rfl) ?_
  refine lv_iload_n hx hb dL_law_1155 rfl (lv_at hl 0 rfl) ?_
  refine lv_iconst (v := nI 3) hx hb dL_law_1156 (by decide) ?_
  refine w_iadd (x := i) (y := 3) hx hb dL_law_1157 ?_
  refine l_sld (i := i) (k := 3) hx hb hX hbl hbA hS (by omega) hL dL_law_1158 ?_
  refine l_ci (rest := [.int r1]) hx hb hml hown htl (s_put l D bb cI cJ cZ (va_A (mW bb cI cJ cZ w d) H.size) w d (xs (i + 1)) (xs (i + 2)) (xs (i + 3)) hM) 3 gL_law_X7_put rfl hdX7_put ⟨Nat.le_of_ble_eq_true rfl, Nat.le_of_ble_eq_true rfl⟩ hK hN hP2 hP1 (j_sw hD) hS (fun _ h => h) 0 7 rfl rfl rfl rfl hl.1 rfl (Nat.le_of_ble_eq_true rfl) dL_law_1159 ⟨Nat.le_of_ble_eq_true rfl, Nat.le_of_ble_eq_true rfl⟩ (fun r2 u2 H locs hq2 hP2 hP1 hD hS => ?_)
  have hD := j_sw hD
  refine lv_icmp_eq hx hb dL_law_1162 (tgt := 1402) (by decide) (fun _ => ?_) (fun h9 => absurd (pr_put hI hM.1 hR hq1.2 hq2.2).1 h9)
  exact K u1.1 u2.1 u1.2 u2.2 H locs hq1.1 hq2.1 (pr_put hI hM.1 hR hq1.2 hq2.2).2 hP1 hP2 hD hS

set_option maxHeartbeats 4000000 in
set_option maxRecDepth 100000 in
theorem lc_28 {p : Program} {l : Launch} {e : Env} {s : State} {m : MethodId} {below : List Frame} {meth : Method} {c0 : Code} {H : Heap} {locs : List Loc} {Q : State → Prop} {ls : Array Slot} {D : va_G} {a bb : Nat → Nat} {cI cJ cZ : ClassId} {b L i : Nat} {xs : Nat → Int32} {v w : Nat → Nat → Nat} {c d : Nat → Nat → Int32}
    (hx : p.tables.exec = Jvm.exec) (hb : c0.code = cL_law) (hml : c0.maxLocals = 4) (hown : s.vm.findClass RL = some m.cls) (htl : ∀ w ∈ wsL_law, w.before #[Value.ref b] s = true) (hX : va_X b L xs s s.heap) (hbl : b < s.heap.size) (hK : va_K D vwCl (xT cI cJ cZ) s) (hN : gN s) (hiL : i + 6 ≤ L) (hL : L ≤ 3072)
    (hI : XI v) (hM : MI w d) (hR : ALK v c (vM w) (cM d)) (hP1 : va_P D vwCl (xW a cI cJ cZ v c) H) (hP2 : va_P D vwCl (mW bb cI cJ cZ w d) H) (hD : va_D (fun q : Nat => s.heap.size ≤ q) (xW a cI cJ cZ v c ++ mW bb cI cJ cZ w d)) (hS : va_S (fun q : Nat => s.heap.size ≤ q) s.heap H locs)
    (hl : lv_has ls 4 [(3, .int (nI (i))), (2, .ref (bb 0)), (1, .ref (a 0)), (0, .ref b)])
    (K : ∀ (v1 w1 : Nat → Nat → Nat) (c1 d1 : Nat → Nat → Int32) (H1 : Heap) (locs1 : List Loc), XI v1 → MI w1 d1 → ALK v1 c1 (vM w1) (cM d1) → va_P D vwCl (xW a cI cJ cZ v1 c1) H1 → va_P D vwCl (mW bb cI cJ cZ w1 d1) H1 → va_D (fun q : Nat => s.heap.size ≤ q) (xW a cI cJ cZ v1 c1 ++ mW bb cI cJ cZ w1 d1) → va_S (fun q : Nat => s.heap.size ≤ q) s.heap H1 locs1 → W p l e room_1 s m #[Value.ref b] below meth c0 H1 locs1 41 3466 Q (F0 m 1402 ls [])) : W p l e room_1 s m #[Value.ref b] below meth c0 H locs 41 3466 Q (F0 m 1167 ls []) := by
  have hbA : ¬ (fun q : Nat => s.heap.size ≤ q) b := Nat.not_le.mpr hbl
  refine lv_aload_n hx hb dL_law_1167 rfl (lv_at hl 2 rfl) ?_
  refine lv_aload_n hx hb dL_law_1168 rfl (lv_at hl 3 rfl) ?_
  refine lv_iload_n hx hb dL_law_1169 rfl (lv_at hl 0 rfl) ?_
  refine lv_iconst (v := nI 1) hx hb dL_law_1170 (by decide) ?_
  refine w_iadd (x := i) (y := 1) hx hb dL_law_1171 ?_
  refine l_sld (i := i) (k := 1) hx hb hX hbl hbA hS (by omega) hL dL_law_1172 ?_
  refine lv_aload_n hx hb dL_law_1173 rfl (lv_at hl 3 rfl) ?_
  refine lv_iload_n hx hb dL_law_1174 rfl (lv_at hl 0 rfl) ?_
  refine lv_iconst (v := nI 2) hx hb dL_law_1175 (by decide) ?_
  refine w_iadd (x := i) (y := 2) hx hb dL_law_1176 ?_
  refine l_sld (i := i) (k := 2) hx hb hX hbl hbA hS (by omega) hL dL_law_1177 ?_
  refine lv_aload_n hx hb dL_law_1178 rfl (lv_at hl 3 rfl) ?_
  refine lv_iload_n hx hb dL_law_1179 rfl (lv_at hl 0 rfl) ?_
  refine lv_iconst (v := nI 3) hx hb dL_law_1180 (by decide) ?_
  refine w_iadd (x := i) (y := 3) hx hb dL_law_1181 ?_
  refine l_sld (i := i) (k := 3) hx hb hX hbl hbA hS (by omega) hL dL_law_1182 ?_
  refine l_cl (rest := []) hx hb hml hown htl (t_cell l D a cI cJ cZ (va_A (xW a cI cJ cZ v c) H.size) v c (xs (i + 1)) (xs (i + 2)) (xs (i + 3)) hI) 3 gL_law_X6_cell rfl hdX6_cell ⟨Nat.le_of_ble_eq_true rfl, Nat.le_of_ble_eq_true rfl⟩ hK hN hP1 hP2 hD hS (fun _ h => h) 0 6 rfl rfl rfl rfl hl.1 rfl (Nat.le_of_ble_eq_true rfl) dL_law_1183 ⟨Nat.le_of_ble_eq_true rfl, Nat.le_of_ble_eq_true rfl⟩ (fun r1 u1 H locs hq1 hP1 hP2 hD hS => ?_)
  refine lv_aload_n hx hb dL_law_1186 rfl (lv_at hl 1 rfl) ?_
  refine lv_aload_n hx hb dL_law_1187 rfl (lv_at hl 3 rfl) ?_
  refine lv_iload_n hx hb dL_law_1188 rfl (lv_at hl 0 rfl) ?_
  refine lv_iconst (v := nI 1) hx hb dL_law_1189 (by decide) ?_
  refine w_iadd (x := i) (y := 1) hx hb dL_law_1190 ?_
  refine l_sld (i := i) (k := 1) hx hb hX hbl hbA hS (by omega) hL dL_law_1191 ?_
  refine lv_aload_n hx hb dL_law_1192 rfl (lv_at hl 3 rfl) ?_
  refine lv_iload_n hx hb dL_law_1193 rfl (lv_at hl 0 rfl) ?_
  refine lv_iconst (v := nI 2) hx hb dL_law_1194 (by decide) ?_
  refine w_iadd (x := i) (y := 2) hx hb dL_law_1195 ?_
  refine l_sld (i := i) (k := 2) hx hb hX hbl hbA hS (by omega) hL dL_law_1196 ?_
  refine lv_aload_n hx hb dL_law_1197 rfl (lv_at hl 3 rfl) ?_
  refine lv_iload_n hx hb dL_law_1198 rfl (lv_at hl 0 rfl) ?_
  refine lv_iconst (v := nI 3) hx hb dL_law_1199 (by decide) ?_
  refine w_iadd (x := i) (y := 3) hx hb dL_law_1200 ?_
  refine l_sld (i := i) (k := 3) hx hb hX hbl hbA hS (by omega) hL dL_law_1201 ?_
  refine l_cl (rest := [.long r1]) hx hb hml hown htl (s_cell l D bb cI cJ cZ (va_A (mW bb cI cJ cZ w d) H.size) w d (xs (i + 1)) (xs (i + 2)) (xs (i + 3)) hM) 3 gL_law_X7_cell rfl hdX7_cell ⟨Nat.le_of_ble_eq_true rfl, Nat.le_of_ble_eq_true rfl⟩ hK hN hP2 hP1 (j_sw hD) hS (fun _ h => h) 0 7 rfl rfl rfl rfl hl.1 rfl (Nat.le_of_ble_eq_true rfl) dL_law_1202 ⟨Nat.le_of_ble_eq_true rfl, Nat.le_of_ble_eq_true rfl⟩ (fun r2 u2 H locs hq2 hP2 hP1 hD hS => ?_)
  have hD := j_sw hD
  refine W.lcmp hx hb dL_law_1205 ?_
  refine lv_if_eq hx hb dL_law_1206 (tgt := 1402) (by decide) (fun _ => ?_) (fun h9 => absurd (lcmp_0 (pr_cell hI hM.1 hR hq1 hq2.2).1) h9)
  exact K u1.1 u2.1 u1.2 u2.2 H locs hq1.choose_spec.2.1 hq2.1 (pr_cell hI hM.1 hR hq1 hq2.2).2 hP1 hP2 hD hS

set_option maxHeartbeats 4000000 in
set_option maxRecDepth 100000 in
theorem lc_29 {p : Program} {l : Launch} {e : Env} {s : State} {m : MethodId} {below : List Frame} {meth : Method} {c0 : Code} {H : Heap} {locs : List Loc} {Q : State → Prop} {ls : Array Slot} {D : va_G} {a bb : Nat → Nat} {cI cJ cZ : ClassId} {b L i : Nat} {xs : Nat → Int32} {v w : Nat → Nat → Nat} {c d : Nat → Nat → Int32}
    (hx : p.tables.exec = Jvm.exec) (hb : c0.code = cL_law) (hml : c0.maxLocals = 4) (hown : s.vm.findClass RL = some m.cls) (htl : ∀ w ∈ wsL_law, w.before #[Value.ref b] s = true) (hX : va_X b L xs s s.heap) (hbl : b < s.heap.size) (hK : va_K D vwCl (xT cI cJ cZ) s) (hN : gN s) (hiL : i + 6 ≤ L) (hL : L ≤ 3072)
    (hI : XI v) (hM : MI w d) (hR : ALK v c (vM w) (cM d)) (hP1 : va_P D vwCl (xW a cI cJ cZ v c) H) (hP2 : va_P D vwCl (mW bb cI cJ cZ w d) H) (hD : va_D (fun q : Nat => s.heap.size ≤ q) (xW a cI cJ cZ v c ++ mW bb cI cJ cZ w d)) (hS : va_S (fun q : Nat => s.heap.size ≤ q) s.heap H locs)
    (hl : lv_has ls 4 [(3, .int (nI (i))), (2, .ref (bb 0)), (1, .ref (a 0)), (0, .ref b)])
    (K : ∀ (v1 w1 : Nat → Nat → Nat) (c1 d1 : Nat → Nat → Int32) (H1 : Heap) (locs1 : List Loc), XI v1 → MI w1 d1 → ALK v1 c1 (vM w1) (cM d1) → va_P D vwCl (xW a cI cJ cZ v1 c1) H1 → va_P D vwCl (mW bb cI cJ cZ w1 d1) H1 → va_D (fun q : Nat => s.heap.size ≤ q) (xW a cI cJ cZ v1 c1 ++ mW bb cI cJ cZ w1 d1) → va_S (fun q : Nat => s.heap.size ≤ q) s.heap H1 locs1 → W p l e room_1 s m #[Value.ref b] below meth c0 H1 locs1 41 3466 Q (F0 m 1402 ls [])) : W p l e room_1 s m #[Value.ref b] below meth c0 H locs 41 3466 Q (F0 m 1211 ls []) := by
  have hbA : ¬ (fun q : Nat => s.heap.size ≤ q) b := Nat.not_le.mpr hbl
  refine lv_aload_n hx hb dL_law_1211 rfl (lv_at hl 2 rfl) ?_
  refine lv_aload_n hx hb dL_law_1212 rfl (lv_at hl 3 rfl) ?_
  refine lv_iload_n hx hb dL_law_1213 rfl (lv_at hl 0 rfl) ?_
  refine lv_iconst (v := nI 1) hx hb dL_law_1214 (by decide) ?_
  refine w_iadd (x := i) (y := 1) hx hb dL_law_1215 ?_
  refine l_sld (i := i) (k := 1) hx hb hX hbl hbA hS (by omega) hL dL_law_1216 ?_
  refine lv_aload_n hx hb dL_law_1217 rfl (lv_at hl 3 rfl) ?_
  refine lv_iload_n hx hb dL_law_1218 rfl (lv_at hl 0 rfl) ?_
  refine lv_iconst (v := nI 2) hx hb dL_law_1219 (by decide) ?_
  refine w_iadd (x := i) (y := 2) hx hb dL_law_1220 ?_
  refine l_sld (i := i) (k := 2) hx hb hX hbl hbA hS (by omega) hL dL_law_1221 ?_
  refine lv_aload_n hx hb dL_law_1222 rfl (lv_at hl 3 rfl) ?_
  refine lv_iload_n hx hb dL_law_1223 rfl (lv_at hl 0 rfl) ?_
  refine lv_iconst (v := nI 3) hx hb dL_law_1224 (by decide) ?_
  refine w_iadd (x := i) (y := 3) hx hb dL_law_1225 ?_
  refine l_sld (i := i) (k := 3) hx hb hX hbl hbA hS (by omega) hL dL_law_1226 ?_
  refine lv_aload_n hx hb dL_law_1227 rfl (lv_at hl 3 rfl) ?_
  refine lv_iload_n hx hb dL_law_1228 rfl (lv_at hl 0 rfl) ?_
  refine lv_iconst (v := nI 4) hx hb dL_law_1229 (by decide) ?_
  refine w_iadd (x := i) (y := 4) hx hb dL_law_1230 ?_
  refine l_sld (i := i) (k := 4) hx hb hX hbl hbA hS (by omega) hL dL_law_1231 ?_
  refine lv_aload_n hx hb dL_law_1232 rfl (lv_at hl 3 rfl) ?_
  refine lv_iload_n hx hb dL_law_1233 rfl (lv_at hl 0 rfl) ?_
  refine lv_iconst (v := nI 5) hx hb dL_law_1234 (by decide) ?_
  refine w_iadd (x := i) (y := 5) hx hb dL_law_1235 ?_
  refine l_sld (i := i) (k := 5) hx hb hX hbl hbA hS (by omega) hL dL_law_1236 ?_
  refine l_ci (rest := []) hx hb hml hown htl (t_copy l D a cI cJ cZ (va_A (xW a cI cJ cZ v c) H.size) v c (xs (i + 1)) (xs (i + 2)) (xs (i + 3)) (xs (i + 4)) (xs (i + 5)) hI) 5 gL_law_X6_copy rfl hdX6_copy ⟨Nat.le_of_ble_eq_true rfl, Nat.le_of_ble_eq_true rfl⟩ hK hN hP1 hP2 hD hS (fun _ h => h) 0 6 rfl rfl rfl rfl hl.1 rfl (Nat.le_of_ble_eq_true rfl) dL_law_1237 ⟨Nat.le_of_ble_eq_true rfl, Nat.le_of_ble_eq_true rfl⟩ (fun r1 u1 H locs hq1 hP1 hP2 hD hS => ?_)
  refine lv_aload_n hx hb dL_law_1240 rfl (lv_at hl 1 rfl) ?_
  refine lv_aload_n hx hb dL_law_1241 rfl (lv_at hl 3 rfl) ?_
  refine lv_iload_n hx hb dL_law_1242 rfl (lv_at hl 0 rfl) ?_
  refine lv_iconst (v := nI 1) hx hb dL_law_1243 (by decide) ?_
  refine w_iadd (x := i) (y := 1) hx hb dL_law_1244 ?_
  refine l_sld (i := i) (k := 1) hx hb hX hbl hbA hS (by omega) hL dL_law_1245 ?_
  refine lv_aload_n hx hb dL_law_1246 rfl (lv_at hl 3 rfl) ?_
  refine lv_iload_n hx hb dL_law_1247 rfl (lv_at hl 0 rfl) ?_
  refine lv_iconst (v := nI 2) hx hb dL_law_1248 (by decide) ?_
  refine w_iadd (x := i) (y := 2) hx hb dL_law_1249 ?_
  refine l_sld (i := i) (k := 2) hx hb hX hbl hbA hS (by omega) hL dL_law_1250 ?_
  refine lv_aload_n hx hb dL_law_1251 rfl (lv_at hl 3 rfl) ?_
  refine lv_iload_n hx hb dL_law_1252 rfl (lv_at hl 0 rfl) ?_
  refine lv_iconst (v := nI 3) hx hb dL_law_1253 (by decide) ?_
  refine w_iadd (x := i) (y := 3) hx hb dL_law_1254 ?_
  refine l_sld (i := i) (k := 3) hx hb hX hbl hbA hS (by omega) hL dL_law_1255 ?_
  refine lv_aload_n hx hb dL_law_1256 rfl (lv_at hl 3 rfl) ?_
  refine lv_iload_n hx hb dL_law_1257 rfl (lv_at hl 0 rfl) ?_
  refine lv_iconst (v := nI 4) hx hb dL_law_1258 (by decide) ?_
  refine w_iadd (x := i) (y := 4) hx hb dL_law_1259 ?_
  refine l_sld (i := i) (k := 4) hx hb hX hbl hbA hS (by omega) hL dL_law_1260 ?_
  refine lv_aload_n hx hb dL_law_1261 rfl (lv_at hl 3 rfl) ?_
  refine lv_iload_n hx hb dL_law_1262 rfl (lv_at hl 0 rfl) ?_
  refine lv_iconst (v := nI 5) hx hb dL_law_1263 (by decide) ?_
  refine w_iadd (x := i) (y := 5) hx hb dL_law_1264 ?_
  refine l_sld (i := i) (k := 5) hx hb hX hbl hbA hS (by omega) hL dL_law_1265 ?_
  refine l_ci (rest := [.int r1]) hx hb hml hown htl (s_copy l D bb cI cJ cZ (va_A (mW bb cI cJ cZ w d) H.size) w d (xs (i + 1)) (xs (i + 2)) (xs (i + 3)) (xs (i + 4)) (xs (i + 5)) hM) 5 gL_law_X7_copy rfl hdX7_copy ⟨Nat.le_of_ble_eq_true rfl, Nat.le_of_ble_eq_true rfl⟩ hK hN hP2 hP1 (j_sw hD) hS (fun _ h => h) 0 7 rfl rfl rfl rfl hl.1 rfl (Nat.le_of_ble_eq_true rfl) dL_law_1266 ⟨Nat.le_of_ble_eq_true rfl, Nat.le_of_ble_eq_true rfl⟩ (fun r2 u2 H locs hq2 hP2 hP1 hD hS => ?_)
  have hD := j_sw hD
  refine lv_icmp_eq hx hb dL_law_1269 (tgt := 1402) (by decide) (fun _ => ?_) (fun h9 => absurd (pr_copy hI hM.1 hR hq1.2 hq2.2).1 h9)
  exact K u1.1 u2.1 u1.2 u2.2 H locs hq1.1 hq2.1 (pr_copy hI hM.1 hR hq1.2 hq2.2).2 hP1 hP2 hD hS

set_option maxHeartbeats 4000000 in
set_option maxRecDepth 100000 in
theorem lc_30 {p : Program} {l : Launch} {e : Env} {s : State} {m : MethodId} {below : List Frame} {meth : Method} {c0 : Code} {H : Heap} {locs : List Loc} {Q : State → Prop} {ls : Array Slot} {D : va_G} {a bb : Nat → Nat} {cI cJ cZ : ClassId} {b L i : Nat} {xs : Nat → Int32} {v w : Nat → Nat → Nat} {c d : Nat → Nat → Int32}
    (hx : p.tables.exec = Jvm.exec) (hb : c0.code = cL_law) (hml : c0.maxLocals = 4) (hown : s.vm.findClass RL = some m.cls) (htl : ∀ w ∈ wsL_law, w.before #[Value.ref b] s = true) (hX : va_X b L xs s s.heap) (hbl : b < s.heap.size) (hK : va_K D vwCl (xT cI cJ cZ) s) (hN : gN s) (hiL : i + 6 ≤ L) (hL : L ≤ 3072)
    (hI : XI v) (hM : MI w d) (hR : ALK v c (vM w) (cM d)) (hP1 : va_P D vwCl (xW a cI cJ cZ v c) H) (hP2 : va_P D vwCl (mW bb cI cJ cZ w d) H) (hD : va_D (fun q : Nat => s.heap.size ≤ q) (xW a cI cJ cZ v c ++ mW bb cI cJ cZ w d)) (hS : va_S (fun q : Nat => s.heap.size ≤ q) s.heap H locs)
    (hl : lv_has ls 4 [(3, .int (nI (i))), (2, .ref (bb 0)), (1, .ref (a 0)), (0, .ref b)])
    (K : ∀ (v1 w1 : Nat → Nat → Nat) (c1 d1 : Nat → Nat → Int32) (H1 : Heap) (locs1 : List Loc), XI v1 → MI w1 d1 → ALK v1 c1 (vM w1) (cM d1) → va_P D vwCl (xW a cI cJ cZ v1 c1) H1 → va_P D vwCl (mW bb cI cJ cZ w1 d1) H1 → va_D (fun q : Nat => s.heap.size ≤ q) (xW a cI cJ cZ v1 c1 ++ mW bb cI cJ cZ w1 d1) → va_S (fun q : Nat => s.heap.size ≤ q) s.heap H1 locs1 → W p l e room_1 s m #[Value.ref b] below meth c0 H1 locs1 41 3466 Q (F0 m 1402 ls [])) : W p l e room_1 s m #[Value.ref b] below meth c0 H locs 41 3466 Q (F0 m 1274 ls []) := by
  have hbA : ¬ (fun q : Nat => s.heap.size ≤ q) b := Nat.not_le.mpr hbl
  refine lv_aload_n hx hb dL_law_1274 rfl (lv_at hl 2 rfl) ?_
  refine lv_aload_n hx hb dL_law_1275 rfl (lv_at hl 3 rfl) ?_
  refine lv_iload_n hx hb dL_law_1276 rfl (lv_at hl 0 rfl) ?_
  refine lv_iconst (v := nI 1) hx hb dL_law_1277 (by decide) ?_
  refine w_iadd (x := i) (y := 1) hx hb dL_law_1278 ?_
  refine l_sld (i := i) (k := 1) hx hb hX hbl hbA hS (by omega) hL dL_law_1279 ?_
  refine l_ci (rest := []) hx hb hml hown htl (t_tell l D a cI cJ cZ (va_A (xW a cI cJ cZ v c) H.size) v c (xs (i + 1)) hI) 1 gL_law_X6_tell rfl hdX6_tell ⟨Nat.le_of_ble_eq_true rfl, Nat.le_of_ble_eq_true rfl⟩ hK hN hP1 hP2 hD hS (fun _ h => h) 0 6 rfl rfl rfl rfl hl.1 rfl (Nat.le_of_ble_eq_true rfl) dL_law_1280 ⟨Nat.le_of_ble_eq_true rfl, Nat.le_of_ble_eq_true rfl⟩ (fun r1 u1 H locs hq1 hP1 hP2 hD hS => ?_)
  refine lv_aload_n hx hb dL_law_1283 rfl (lv_at hl 1 rfl) ?_
  refine lv_aload_n hx hb dL_law_1284 rfl (lv_at hl 3 rfl) ?_
  refine lv_iload_n hx hb dL_law_1285 rfl (lv_at hl 0 rfl) ?_
  refine lv_iconst (v := nI 1) hx hb dL_law_1286 (by decide) ?_
  refine w_iadd (x := i) (y := 1) hx hb dL_law_1287 ?_
  refine l_sld (i := i) (k := 1) hx hb hX hbl hbA hS (by omega) hL dL_law_1288 ?_
  refine l_ci (rest := [.int r1]) hx hb hml hown htl (s_tell l D bb cI cJ cZ (va_A (mW bb cI cJ cZ w d) H.size) w d (xs (i + 1)) hM) 1 gL_law_X7_tell rfl hdX7_tell ⟨Nat.le_of_ble_eq_true rfl, Nat.le_of_ble_eq_true rfl⟩ hK hN hP2 hP1 (j_sw hD) hS (fun _ h => h) 0 7 rfl rfl rfl rfl hl.1 rfl (Nat.le_of_ble_eq_true rfl) dL_law_1289 ⟨Nat.le_of_ble_eq_true rfl, Nat.le_of_ble_eq_true rfl⟩ (fun r2 u2 H locs hq2 hP2 hP1 hD hS => ?_)
  have hD := j_sw hD
  refine lv_icmp_eq hx hb dL_law_1292 (tgt := 1402) (by decide) (fun _ => ?_) (fun h9 => absurd (pr_tell hI hM.1 hR hq1.2 hq2.2).1 h9)
  exact K u1.1 u2.1 u1.2 u2.2 H locs hq1.1 hq2.1 (pr_tell hI hM.1 hR hq1.2 hq2.2).2 hP1 hP2 hD hS

set_option maxHeartbeats 4000000 in
set_option maxRecDepth 100000 in
theorem lc_31 {p : Program} {l : Launch} {e : Env} {s : State} {m : MethodId} {below : List Frame} {meth : Method} {c0 : Code} {H : Heap} {locs : List Loc} {Q : State → Prop} {ls : Array Slot} {D : va_G} {a bb : Nat → Nat} {cI cJ cZ : ClassId} {b L i : Nat} {xs : Nat → Int32} {v w : Nat → Nat → Nat} {c d : Nat → Nat → Int32}
    (hx : p.tables.exec = Jvm.exec) (hb : c0.code = cL_law) (hml : c0.maxLocals = 4) (hown : s.vm.findClass RL = some m.cls) (htl : ∀ w ∈ wsL_law, w.before #[Value.ref b] s = true) (hX : va_X b L xs s s.heap) (hbl : b < s.heap.size) (hK : va_K D vwCl (xT cI cJ cZ) s) (hN : gN s) (hiL : i + 6 ≤ L) (hL : L ≤ 3072)
    (hI : XI v) (hM : MI w d) (hR : ALK v c (vM w) (cM d)) (hP1 : va_P D vwCl (xW a cI cJ cZ v c) H) (hP2 : va_P D vwCl (mW bb cI cJ cZ w d) H) (hD : va_D (fun q : Nat => s.heap.size ≤ q) (xW a cI cJ cZ v c ++ mW bb cI cJ cZ w d)) (hS : va_S (fun q : Nat => s.heap.size ≤ q) s.heap H locs)
    (hl : lv_has ls 4 [(3, .int (nI (i))), (2, .ref (bb 0)), (1, .ref (a 0)), (0, .ref b)])
    (K : ∀ (v1 w1 : Nat → Nat → Nat) (c1 d1 : Nat → Nat → Int32) (H1 : Heap) (locs1 : List Loc), XI v1 → MI w1 d1 → ALK v1 c1 (vM w1) (cM d1) → va_P D vwCl (xW a cI cJ cZ v1 c1) H1 → va_P D vwCl (mW bb cI cJ cZ w1 d1) H1 → va_D (fun q : Nat => s.heap.size ≤ q) (xW a cI cJ cZ v1 c1 ++ mW bb cI cJ cZ w1 d1) → va_S (fun q : Nat => s.heap.size ≤ q) s.heap H1 locs1 → W p l e room_1 s m #[Value.ref b] below meth c0 H1 locs1 41 3466 Q (F0 m 1402 ls [])) : W p l e room_1 s m #[Value.ref b] below meth c0 H locs 41 3466 Q (F0 m 1297 ls []) := by
  have hbA : ¬ (fun q : Nat => s.heap.size ≤ q) b := Nat.not_le.mpr hbl
  refine lv_aload_n hx hb dL_law_1297 rfl (lv_at hl 2 rfl) ?_
  refine lv_aload_n hx hb dL_law_1298 rfl (lv_at hl 3 rfl) ?_
  refine lv_iload_n hx hb dL_law_1299 rfl (lv_at hl 0 rfl) ?_
  refine lv_iconst (v := nI 1) hx hb dL_law_1300 (by decide) ?_
  refine w_iadd (x := i) (y := 1) hx hb dL_law_1301 ?_
  refine l_sld (i := i) (k := 1) hx hb hX hbl hbA hS (by omega) hL dL_law_1302 ?_
  refine l_ci (rest := []) hx hb hml hown htl (t_lead l D a cI cJ cZ (va_A (xW a cI cJ cZ v c) H.size) v c (xs (i + 1)) hI) 1 gL_law_X6_lead rfl hdX6_lead ⟨Nat.le_of_ble_eq_true rfl, Nat.le_of_ble_eq_true rfl⟩ hK hN hP1 hP2 hD hS (fun _ h => h) 0 6 rfl rfl rfl rfl hl.1 rfl (Nat.le_of_ble_eq_true rfl) dL_law_1303 ⟨Nat.le_of_ble_eq_true rfl, Nat.le_of_ble_eq_true rfl⟩ (fun r1 u1 H locs hq1 hP1 hP2 hD hS => ?_)
  refine lv_aload_n hx hb dL_law_1306 rfl (lv_at hl 1 rfl) ?_
  refine lv_aload_n hx hb dL_law_1307 rfl (lv_at hl 3 rfl) ?_
  refine lv_iload_n hx hb dL_law_1308 rfl (lv_at hl 0 rfl) ?_
  refine lv_iconst (v := nI 1) hx hb dL_law_1309 (by decide) ?_
  refine w_iadd (x := i) (y := 1) hx hb dL_law_1310 ?_
  refine l_sld (i := i) (k := 1) hx hb hX hbl hbA hS (by omega) hL dL_law_1311 ?_
  refine l_ci (rest := [.int r1]) hx hb hml hown htl (s_lead l D bb cI cJ cZ (va_A (mW bb cI cJ cZ w d) H.size) w d (xs (i + 1)) hM) 1 gL_law_X7_lead rfl hdX7_lead ⟨Nat.le_of_ble_eq_true rfl, Nat.le_of_ble_eq_true rfl⟩ hK hN hP2 hP1 (j_sw hD) hS (fun _ h => h) 0 7 rfl rfl rfl rfl hl.1 rfl (Nat.le_of_ble_eq_true rfl) dL_law_1312 ⟨Nat.le_of_ble_eq_true rfl, Nat.le_of_ble_eq_true rfl⟩ (fun r2 u2 H locs hq2 hP2 hP1 hD hS => ?_)
  have hD := j_sw hD
  refine lv_icmp_eq hx hb dL_law_1315 (tgt := 1402) (by decide) (fun _ => ?_) (fun h9 => absurd (pr_lead hI hM.1 hR hq1.2 hq2.2).1 h9)
  exact K u1.1 u2.1 u1.2 u2.2 H locs hq1.1 hq2.1 (pr_lead hI hM.1 hR hq1.2 hq2.2).2 hP1 hP2 hD hS

set_option maxHeartbeats 4000000 in
set_option maxRecDepth 100000 in
theorem lc_32 {p : Program} {l : Launch} {e : Env} {s : State} {m : MethodId} {below : List Frame} {meth : Method} {c0 : Code} {H : Heap} {locs : List Loc} {Q : State → Prop} {ls : Array Slot} {D : va_G} {a bb : Nat → Nat} {cI cJ cZ : ClassId} {b L i : Nat} {xs : Nat → Int32} {v w : Nat → Nat → Nat} {c d : Nat → Nat → Int32}
    (hx : p.tables.exec = Jvm.exec) (hb : c0.code = cL_law) (hml : c0.maxLocals = 4) (hown : s.vm.findClass RL = some m.cls) (htl : ∀ w ∈ wsL_law, w.before #[Value.ref b] s = true) (hX : va_X b L xs s s.heap) (hbl : b < s.heap.size) (hK : va_K D vwCl (xT cI cJ cZ) s) (hN : gN s) (hiL : i + 6 ≤ L) (hL : L ≤ 3072)
    (hI : XI v) (hM : MI w d) (hR : ALK v c (vM w) (cM d)) (hP1 : va_P D vwCl (xW a cI cJ cZ v c) H) (hP2 : va_P D vwCl (mW bb cI cJ cZ w d) H) (hD : va_D (fun q : Nat => s.heap.size ≤ q) (xW a cI cJ cZ v c ++ mW bb cI cJ cZ w d)) (hS : va_S (fun q : Nat => s.heap.size ≤ q) s.heap H locs)
    (hl : lv_has ls 4 [(3, .int (nI (i))), (2, .ref (bb 0)), (1, .ref (a 0)), (0, .ref b)])
    (K : ∀ (v1 w1 : Nat → Nat → Nat) (c1 d1 : Nat → Nat → Int32) (H1 : Heap) (locs1 : List Loc), XI v1 → MI w1 d1 → ALK v1 c1 (vM w1) (cM d1) → va_P D vwCl (xW a cI cJ cZ v1 c1) H1 → va_P D vwCl (mW bb cI cJ cZ w1 d1) H1 → va_D (fun q : Nat => s.heap.size ≤ q) (xW a cI cJ cZ v1 c1 ++ mW bb cI cJ cZ w1 d1) → va_S (fun q : Nat => s.heap.size ≤ q) s.heap H1 locs1 → W p l e room_1 s m #[Value.ref b] below meth c0 H1 locs1 41 3466 Q (F0 m 1402 ls [])) : W p l e room_1 s m #[Value.ref b] below meth c0 H locs 41 3466 Q (F0 m 1320 ls []) := by
  have hbA : ¬ (fun q : Nat => s.heap.size ≤ q) b := Nat.not_le.mpr hbl
  refine lv_aload_n hx hb dL_law_1320 rfl (lv_at hl 2 rfl) ?_
  refine lv_aload_n hx hb dL_law_1321 rfl (lv_at hl 3 rfl) ?_
  refine lv_iload_n hx hb dL_law_1322 rfl (lv_at hl 0 rfl) ?_
  refine lv_iconst (v := nI 1) hx hb dL_law_1323 (by decide) ?_
  refine w_iadd (x := i) (y := 1) hx hb dL_law_1324 ?_
  refine l_sld (i := i) (k := 1) hx hb hX hbl hbA hS (by omega) hL dL_law_1325 ?_
  refine lv_aload_n hx hb dL_law_1326 rfl (lv_at hl 3 rfl) ?_
  refine lv_iload_n hx hb dL_law_1327 rfl (lv_at hl 0 rfl) ?_
  refine lv_iconst (v := nI 2) hx hb dL_law_1328 (by decide) ?_
  refine w_iadd (x := i) (y := 2) hx hb dL_law_1329 ?_
  refine l_sld (i := i) (k := 2) hx hb hX hbl hbA hS (by omega) hL dL_law_1330 ?_
  refine l_ci (rest := []) hx hb hml hown htl (t_as l D a cI cJ cZ (va_A (xW a cI cJ cZ v c) H.size) v c (xs (i + 1)) (xs (i + 2)) hI) 2 gL_law_X6_as rfl hdX6_as ⟨Nat.le_of_ble_eq_true rfl, Nat.le_of_ble_eq_true rfl⟩ hK hN hP1 hP2 hD hS (fun _ h => h) 0 6 rfl rfl rfl rfl hl.1 rfl (Nat.le_of_ble_eq_true rfl) dL_law_1331 ⟨Nat.le_of_ble_eq_true rfl, Nat.le_of_ble_eq_true rfl⟩ (fun r1 u1 H locs hq1 hP1 hP2 hD hS => ?_)
  refine lv_aload_n hx hb dL_law_1334 rfl (lv_at hl 1 rfl) ?_
  refine lv_aload_n hx hb dL_law_1335 rfl (lv_at hl 3 rfl) ?_
  refine lv_iload_n hx hb dL_law_1336 rfl (lv_at hl 0 rfl) ?_
  refine lv_iconst (v := nI 1) hx hb dL_law_1337 (by decide) ?_
  refine w_iadd (x := i) (y := 1) hx hb dL_law_1338 ?_
  refine l_sld (i := i) (k := 1) hx hb hX hbl hbA hS (by omega) hL dL_law_1339 ?_
  refine lv_aload_n hx hb dL_law_1340 rfl (lv_at hl 3 rfl) ?_
  refine lv_iload_n hx hb dL_law_1341 rfl (lv_at hl 0 rfl) ?_
  refine lv_iconst (v := nI 2) hx hb dL_law_1342 (by decide) ?_
  refine w_iadd (x := i) (y := 2) hx hb dL_law_1343 ?_
  refine l_sld (i := i) (k := 2) hx hb hX hbl hbA hS (by omega) hL dL_law_1344 ?_
  refine l_ci (rest := [.int r1]) hx hb hml hown htl (s_as l D bb cI cJ cZ (va_A (mW bb cI cJ cZ w d) H.size) w d (xs (i + 1)) (xs (i + 2)) hM) 2 gL_law_X7_as rfl hdX7_as ⟨Nat.le_of_ble_eq_true rfl, Nat.le_of_ble_eq_true rfl⟩ hK hN hP2 hP1 (j_sw hD) hS (fun _ h => h) 0 7 rfl rfl rfl rfl hl.1 rfl (Nat.le_of_ble_eq_true rfl) dL_law_1345 ⟨Nat.le_of_ble_eq_true rfl, Nat.le_of_ble_eq_true rfl⟩ (fun r2 u2 H locs hq2 hP2 hP1 hD hS => ?_)
  have hD := j_sw hD
  refine lv_icmp_eq hx hb dL_law_1348 (tgt := 1402) (by decide) (fun _ => ?_) (fun h9 => absurd (pr_as hI hM.1 hR hq1 hq2.2).1 h9)
  exact K u1.1 u2.1 u1.2 u2.2 H locs hq1.choose_spec.2.1 hq2.1 (pr_as hI hM.1 hR hq1 hq2.2).2 hP1 hP2 hD hS

set_option maxHeartbeats 4000000 in
set_option maxRecDepth 100000 in
theorem lc_33 {p : Program} {l : Launch} {e : Env} {s : State} {m : MethodId} {below : List Frame} {meth : Method} {c0 : Code} {H : Heap} {locs : List Loc} {Q : State → Prop} {ls : Array Slot} {D : va_G} {a bb : Nat → Nat} {cI cJ cZ : ClassId} {b L i : Nat} {xs : Nat → Int32} {v w : Nat → Nat → Nat} {c d : Nat → Nat → Int32}
    (hx : p.tables.exec = Jvm.exec) (hb : c0.code = cL_law) (hml : c0.maxLocals = 4) (hown : s.vm.findClass RL = some m.cls) (htl : ∀ w ∈ wsL_law, w.before #[Value.ref b] s = true) (hX : va_X b L xs s s.heap) (hbl : b < s.heap.size) (hK : va_K D vwCl (xT cI cJ cZ) s) (hN : gN s) (hiL : i + 6 ≤ L) (hL : L ≤ 3072)
    (hI : XI v) (hM : MI w d) (hR : ALK v c (vM w) (cM d)) (hP1 : va_P D vwCl (xW a cI cJ cZ v c) H) (hP2 : va_P D vwCl (mW bb cI cJ cZ w d) H) (hD : va_D (fun q : Nat => s.heap.size ≤ q) (xW a cI cJ cZ v c ++ mW bb cI cJ cZ w d)) (hS : va_S (fun q : Nat => s.heap.size ≤ q) s.heap H locs)
    (hl : lv_has ls 4 [(3, .int (nI (i))), (2, .ref (bb 0)), (1, .ref (a 0)), (0, .ref b)])
    (K : ∀ (v1 w1 : Nat → Nat → Nat) (c1 d1 : Nat → Nat → Int32) (H1 : Heap) (locs1 : List Loc), XI v1 → MI w1 d1 → ALK v1 c1 (vM w1) (cM d1) → va_P D vwCl (xW a cI cJ cZ v1 c1) H1 → va_P D vwCl (mW bb cI cJ cZ w1 d1) H1 → va_D (fun q : Nat => s.heap.size ≤ q) (xW a cI cJ cZ v1 c1 ++ mW bb cI cJ cZ w1 d1) → va_S (fun q : Nat => s.heap.size ≤ q) s.heap H1 locs1 → W p l e room_1 s m #[Value.ref b] below meth c0 H1 locs1 41 3466 Q (F0 m 1402 ls [])) : W p l e room_1 s m #[Value.ref b] below meth c0 H locs 41 3466 Q (F0 m 1353 ls []) := by
  have hbA : ¬ (fun q : Nat => s.heap.size ≤ q) b := Nat.not_le.mpr hbl
  refine lv_aload_n hx hb dL_law_1353 rfl (lv_at hl 2 rfl) ?_
  refine l_ci (rest := []) hx hb hml hown htl (t_trace l D a cI cJ cZ (va_A (xW a cI cJ cZ v c) H.size) v c  hI) 0 gL_law_X6_trace rfl hdX6_trace ⟨Nat.le_of_ble_eq_true rfl, Nat.le_of_ble_eq_true rfl⟩ hK hN hP1 hP2 hD hS (fun _ h => h) 0 6 rfl rfl rfl rfl hl.1 rfl (Nat.le_of_ble_eq_true rfl) dL_law_1354 ⟨Nat.le_of_ble_eq_true rfl, Nat.le_of_ble_eq_true rfl⟩ (fun r1 u1 H locs hq1 hP1 hP2 hD hS => ?_)
  refine lv_aload_n hx hb dL_law_1357 rfl (lv_at hl 1 rfl) ?_
  refine l_ci (rest := [.int r1]) hx hb hml hown htl (s_trace l D bb cI cJ cZ (va_A (mW bb cI cJ cZ w d) H.size) w d  hM) 0 gL_law_X7_trace rfl hdX7_trace ⟨Nat.le_of_ble_eq_true rfl, Nat.le_of_ble_eq_true rfl⟩ hK hN hP2 hP1 (j_sw hD) hS (fun _ h => h) 0 7 rfl rfl rfl rfl hl.1 rfl (Nat.le_of_ble_eq_true rfl) dL_law_1358 ⟨Nat.le_of_ble_eq_true rfl, Nat.le_of_ble_eq_true rfl⟩ (fun r2 u2 H locs hq2 hP2 hP1 hD hS => ?_)
  have hD := j_sw hD
  refine lv_icmp_eq hx hb dL_law_1361 (tgt := 1402) (by decide) (fun _ => ?_) (fun h9 => absurd (pr_trace hI hM.1 hR hq1 hq2) h9)
  exact K v w c d H locs hI hM hR hP1 hP2 hD hS

set_option maxHeartbeats 4000000 in
set_option maxRecDepth 100000 in
theorem lc_34 {p : Program} {l : Launch} {e : Env} {s : State} {m : MethodId} {below : List Frame} {meth : Method} {c0 : Code} {H : Heap} {locs : List Loc} {Q : State → Prop} {ls : Array Slot} {D : va_G} {a bb : Nat → Nat} {cI cJ cZ : ClassId} {b L i : Nat} {xs : Nat → Int32} {v w : Nat → Nat → Nat} {c d : Nat → Nat → Int32}
    (hx : p.tables.exec = Jvm.exec) (hb : c0.code = cL_law) (hml : c0.maxLocals = 4) (hown : s.vm.findClass RL = some m.cls) (htl : ∀ w ∈ wsL_law, w.before #[Value.ref b] s = true) (hX : va_X b L xs s s.heap) (hbl : b < s.heap.size) (hK : va_K D vwCl (xT cI cJ cZ) s) (hN : gN s) (hiL : i + 6 ≤ L) (hL : L ≤ 3072)
    (hI : XI v) (hM : MI w d) (hR : ALK v c (vM w) (cM d)) (hP1 : va_P D vwCl (xW a cI cJ cZ v c) H) (hP2 : va_P D vwCl (mW bb cI cJ cZ w d) H) (hD : va_D (fun q : Nat => s.heap.size ≤ q) (xW a cI cJ cZ v c ++ mW bb cI cJ cZ w d)) (hS : va_S (fun q : Nat => s.heap.size ≤ q) s.heap H locs)
    (hl : lv_has ls 4 [(3, .int (nI (i))), (2, .ref (bb 0)), (1, .ref (a 0)), (0, .ref b)])
    (K : ∀ (v1 w1 : Nat → Nat → Nat) (c1 d1 : Nat → Nat → Int32) (H1 : Heap) (locs1 : List Loc), XI v1 → MI w1 d1 → ALK v1 c1 (vM w1) (cM d1) → va_P D vwCl (xW a cI cJ cZ v1 c1) H1 → va_P D vwCl (mW bb cI cJ cZ w1 d1) H1 → va_D (fun q : Nat => s.heap.size ≤ q) (xW a cI cJ cZ v1 c1 ++ mW bb cI cJ cZ w1 d1) → va_S (fun q : Nat => s.heap.size ≤ q) s.heap H1 locs1 → W p l e room_1 s m #[Value.ref b] below meth c0 H1 locs1 41 3466 Q (F0 m 1402 ls [])) : W p l e room_1 s m #[Value.ref b] below meth c0 H locs 41 3466 Q (F0 m 1366 ls []) := by
  have hbA : ¬ (fun q : Nat => s.heap.size ≤ q) b := Nat.not_le.mpr hbl
  refine lv_aload_n hx hb dL_law_1366 rfl (lv_at hl 2 rfl) ?_
  refine l_ci (rest := []) hx hb hml hown htl (t_fault l D a cI cJ cZ (va_A (xW a cI cJ cZ v c) H.size) v c  hI) 0 gL_law_X6_fault rfl hdX6_fault ⟨Nat.le_of_ble_eq_true rfl, Nat.le_of_ble_eq_true rfl⟩ hK hN hP1 hP2 hD hS (fun _ h => h) 0 6 rfl rfl rfl rfl hl.1 rfl (Nat.le_of_ble_eq_true rfl) dL_law_1367 ⟨Nat.le_of_ble_eq_true rfl, Nat.le_of_ble_eq_true rfl⟩ (fun r1 u1 H locs hq1 hP1 hP2 hD hS => ?_)
  refine lv_aload_n hx hb dL_law_1370 rfl (lv_at hl 1 rfl) ?_
  refine l_ci (rest := [.int r1]) hx hb hml hown htl (s_fault l D bb cI cJ cZ (va_A (mW bb cI cJ cZ w d) H.size) w d  hM) 0 gL_law_X7_fault rfl hdX7_fault ⟨Nat.le_of_ble_eq_true rfl, Nat.le_of_ble_eq_true rfl⟩ hK hN hP2 hP1 (j_sw hD) hS (fun _ h => h) 0 7 rfl rfl rfl rfl hl.1 rfl (Nat.le_of_ble_eq_true rfl) dL_law_1371 ⟨Nat.le_of_ble_eq_true rfl, Nat.le_of_ble_eq_true rfl⟩ (fun r2 u2 H locs hq2 hP2 hP1 hD hS => ?_)
  have hD := j_sw hD
  refine lv_icmp_eq hx hb dL_law_1374 (tgt := 1402) (by decide) (fun _ => ?_) (fun h9 => absurd (pr_fault hI hM.1 hR hq1 hq2) h9)
  exact K v w c d H locs hI hM hR hP1 hP2 hD hS

set_option maxHeartbeats 4000000 in
set_option maxRecDepth 100000 in
theorem lc_35 {p : Program} {l : Launch} {e : Env} {s : State} {m : MethodId} {below : List Frame} {meth : Method} {c0 : Code} {H : Heap} {locs : List Loc} {Q : State → Prop} {ls : Array Slot} {D : va_G} {a bb : Nat → Nat} {cI cJ cZ : ClassId} {b L i : Nat} {xs : Nat → Int32} {v w : Nat → Nat → Nat} {c d : Nat → Nat → Int32}
    (hx : p.tables.exec = Jvm.exec) (hb : c0.code = cL_law) (hml : c0.maxLocals = 4) (hown : s.vm.findClass RL = some m.cls) (htl : ∀ w ∈ wsL_law, w.before #[Value.ref b] s = true) (hX : va_X b L xs s s.heap) (hbl : b < s.heap.size) (hK : va_K D vwCl (xT cI cJ cZ) s) (hN : gN s) (hiL : i + 6 ≤ L) (hL : L ≤ 3072)
    (hI : XI v) (hM : MI w d) (hR : ALK v c (vM w) (cM d)) (hP1 : va_P D vwCl (xW a cI cJ cZ v c) H) (hP2 : va_P D vwCl (mW bb cI cJ cZ w d) H) (hD : va_D (fun q : Nat => s.heap.size ≤ q) (xW a cI cJ cZ v c ++ mW bb cI cJ cZ w d)) (hS : va_S (fun q : Nat => s.heap.size ≤ q) s.heap H locs)
    (hl : lv_has ls 4 [(3, .int (nI (i))), (2, .ref (bb 0)), (1, .ref (a 0)), (0, .ref b)])
    (K : ∀ (v1 w1 : Nat → Nat → Nat) (c1 d1 : Nat → Nat → Int32) (H1 : Heap) (locs1 : List Loc), XI v1 → MI w1 d1 → ALK v1 c1 (vM w1) (cM d1) → va_P D vwCl (xW a cI cJ cZ v1 c1) H1 → va_P D vwCl (mW bb cI cJ cZ w1 d1) H1 → va_D (fun q : Nat => s.heap.size ≤ q) (xW a cI cJ cZ v1 c1 ++ mW bb cI cJ cZ w1 d1) → va_S (fun q : Nat => s.heap.size ≤ q) s.heap H1 locs1 → W p l e room_1 s m #[Value.ref b] below meth c0 H1 locs1 41 3466 Q (F0 m 1402 ls [])) : W p l e room_1 s m #[Value.ref b] below meth c0 H locs 41 3466 Q (F0 m 1379 ls []) := by
  have hbA : ¬ (fun q : Nat => s.heap.size ≤ q) b := Nat.not_le.mpr hbl
  refine lv_aload_n hx hb dL_law_1379 rfl (lv_at hl 2 rfl) ?_
  refine lv_aload_n hx hb dL_law_1380 rfl (lv_at hl 3 rfl) ?_
  refine lv_iload_n hx hb dL_law_1381 rfl (lv_at hl 0 rfl) ?_
  refine lv_iconst (v := nI 1) hx hb dL_law_1382 (by decide) ?_
  refine w_iadd (x := i) (y := 1) hx hb dL_law_1383 ?_
  refine l_sld (i := i) (k := 1) hx hb hX hbl hbA hS (by omega) hL dL_law_1384 ?_
  refine l_ci (rest := []) hx hb hml hown htl (t_many l D a cI cJ cZ (va_A (xW a cI cJ cZ v c) H.size) v c (xs (i + 1)) hI) 1 gL_law_X6_many rfl hdX6_many ⟨Nat.le_of_ble_eq_true rfl, Nat.le_of_ble_eq_true rfl⟩ hK hN hP1 hP2 hD hS (fun _ h => h) 0 6 rfl rfl rfl rfl hl.1 rfl (Nat.le_of_ble_eq_true rfl) dL_law_1385 ⟨Nat.le_of_ble_eq_true rfl, Nat.le_of_ble_eq_true rfl⟩ (fun r1 u1 H locs hq1 hP1 hP2 hD hS => ?_)
  refine lv_aload_n hx hb dL_law_1388 rfl (lv_at hl 1 rfl) ?_
  refine lv_aload_n hx hb dL_law_1389 rfl (lv_at hl 3 rfl) ?_
  refine lv_iload_n hx hb dL_law_1390 rfl (lv_at hl 0 rfl) ?_
  refine lv_iconst (v := nI 1) hx hb dL_law_1391 (by decide) ?_
  refine w_iadd (x := i) (y := 1) hx hb dL_law_1392 ?_
  refine l_sld (i := i) (k := 1) hx hb hX hbl hbA hS (by omega) hL dL_law_1393 ?_
  refine l_ci (rest := [.int r1]) hx hb hml hown htl (s_many l D bb cI cJ cZ (va_A (mW bb cI cJ cZ w d) H.size) w d (xs (i + 1)) hM) 1 gL_law_X7_many rfl hdX7_many ⟨Nat.le_of_ble_eq_true rfl, Nat.le_of_ble_eq_true rfl⟩ hK hN hP2 hP1 (j_sw hD) hS (fun _ h => h) 0 7 rfl rfl rfl rfl hl.1 rfl (Nat.le_of_ble_eq_true rfl) dL_law_1394 ⟨Nat.le_of_ble_eq_true rfl, Nat.le_of_ble_eq_true rfl⟩ (fun r2 u2 H locs hq2 hP2 hP1 hD hS => ?_)
  have hD := j_sw hD
  refine lv_icmp_eq hx hb dL_law_1397 (tgt := 1402) (by decide) (fun _ => ?_) (fun h9 => absurd (pr_many hI hM.1 hR hq1 hq2) h9)
  exact K v w c d H locs hI hM hR hP1 hP2 hD hS
