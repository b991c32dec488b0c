/-! ===== the law's calls ===== -/
set_option maxHeartbeats 4000000 in
set_option maxRecDepth 100000 in
theorem lc_0 {p : Program} {l : Launch} {e : Env} {s : State} {m : MethodId} {below : List Frame} {meth : Method} {c0 : Code} {H : Heap} {locs : List Loc} {Q : State → Prop} {ls : Array Slot} {D : va_G} {a bb : Nat → Nat} {cI cJ cZ : ClassId} {b L i : Nat} {xs : Nat → Int32} {v w : Nat → Nat → Nat} {c d : Nat → Nat → Int32}
    (hx : p.tables.exec = Jvm.exec) (hb : c0.code = cL_law) (hml : c0.maxLocals = 4) (hown : s.vm.findClass RL = some m.cls) (htl : ∀ w ∈ wsL_law, w.before #[Value.ref b] s = true) (hX : va_X b L xs s s.heap) (hbl : b < s.heap.size) (hK : va_K D vwCl (xT cI cJ cZ) s) (hN : gN s) (hiL : i + 6 ≤ L) (hL : L ≤ 3072)
    (hI : XI v) (hM : MI w d) (hR : ALK v c (vM w) (cM d)) (hP1 : va_P D vwCl (xW a cI cJ cZ v c) H) (hP2 : va_P D vwCl (mW bb cI cJ cZ w d) H) (hD : va_D (fun q : Nat => s.heap.size ≤ q) (xW a cI cJ cZ v c ++ mW bb cI cJ cZ w d)) (hS : va_S (fun q : Nat => s.heap.size ≤ q) s.heap H locs)
    (hl : lv_has ls 4 [(3, .int (nI (i))), (2, .ref (bb 0)), (1, .ref (a 0)), (0, .ref b)])
    (K : ∀ (v1 w1 : Nat → Nat → Nat) (c1 d1 : Nat → Nat → Int32) (H1 : Heap) (locs1 : List Loc), XI v1 → MI w1 d1 → ALK v1 c1 (vM w1) (cM d1) → va_P D vwCl (xW a cI cJ cZ v1 c1) H1 → va_P D vwCl (mW bb cI cJ cZ w1 d1) H1 → va_D (fun q : Nat => s.heap.size ≤ q) (xW a cI cJ cZ v1 c1 ++ mW bb cI cJ cZ w1 d1) → va_S (fun q : Nat => s.heap.size ≤ q) s.heap H1 locs1 → W p l e room_1 s m #[Value.ref b] below meth c0 H1 locs1 41 3466 Q (F0 m 1402 ls [])) : W p l e room_1 s m #[Value.ref b] below meth c0 H locs 41 3466 Q (F0 m 192 ls []) := by
  have hbA : ¬ (fun q : Nat => s.heap.size ≤ q) b := Nat.not_le.mpr hbl
  refine lv_aload_n hx hb dL_law_192 rfl (lv_at hl 2 rfl) ?_
  refine lv_aload_n hx hb dL_law_193 rfl (lv_at hl 3 rfl) ?_
  refine lv_iload_n hx hb dL_law_194 rfl (lv_at hl 0 rfl) ?_
  refine lv_iconst (v := nI 1) hx hb dL_law_195 (by decide) ?_
  refine w_iadd (x := i) (y := 1) hx hb dL_law_196 ?_
  refine l_sld (i := i) (k := 1) hx hb hX hbl hbA hS (by omega) hL dL_law_197 ?_
  refine lv_aload_n hx hb dL_law_198 rfl (lv_at hl 3 rfl) ?_
  refine lv_iload_n hx hb dL_law_199 rfl (lv_at hl 0 rfl) ?_
  refine lv_iconst (v := nI 2) hx hb dL_law_200 (by decide) ?_
  refine w_iadd (x := i) (y := 2) hx hb dL_law_201 ?_
  refine l_sld (i := i) (k := 2) hx hb hX hbl hbA hS (by omega) hL dL_law_202 ?_
  refine lv_aload_n hx hb dL_law_203 rfl (lv_at hl 3 rfl) ?_
  refine lv_iload_n hx hb dL_law_204 rfl (lv_at hl 0 rfl) ?_
  refine lv_iconst (v := nI 3) hx hb dL_law_205 (by decide) ?_
  refine w_iadd (x := i) (y := 3) hx hb dL_law_206 ?_
  refine l_sld (i := i) (k := 3) hx hb hX hbl hbA hS (by omega) hL dL_law_207 ?_
  refine lv_aload_n hx hb dL_law_208 rfl (lv_at hl 3 rfl) ?_
  refine lv_iload_n hx hb dL_law_209 rfl (lv_at hl 0 rfl) ?_
  refine lv_iconst (v := nI 4) hx hb dL_law_210 (by decide) ?_
  refine w_iadd (x := i) (y := 4) hx hb dL_law_211 ?_
  refine l_sld (i := i) (k := 4) hx hb hX hbl hbA hS (by omega) hL dL_law_212 ?_
  refine l_ci (rest := []) hx hb hml hown htl (t_lock l D a cI cJ cZ (va_A (xW a cI cJ cZ v c) H.size) v c (xs (i + 1)) (xs (i + 2)) (xs (i + 3)) (xs (i + 4)) hI) 4 gL_law_X6_lock rfl hdX6_lock ⟨Nat.le_of_ble_eq_true rfl, Nat.le_of_ble_eq_true rfl⟩ hK hN hP1 hP2 hD hS (fun _ h => h) 0 6 rfl rfl rfl rfl hl.1 rfl (Nat.le_of_ble_eq_true rfl) dL_law_213 ⟨Nat.le_of_ble_eq_true rfl, Nat.le_of_ble_eq_true rfl⟩ (fun r1 u1 H locs hq1 hP1 hP2 hD hS => ?_)
  refine lv_aload_n hx hb dL_law_216 rfl (lv_at hl 1 rfl) ?_
  refine lv_aload_n hx hb dL_law_217 rfl (lv_at hl 3 rfl) ?_
  refine lv_iload_n hx hb dL_law_218 rfl (lv_at hl 0 rfl) ?_
  refine lv_iconst (v := nI 1) hx hb dL_law_219 (by decide) ?_
  refine w_iadd (x := i) (y := 1) hx hb dL_law_220 ?_
  refine l_sld (i := i) (k := 1) hx hb hX hbl hbA hS (by omega) hL dL_law_221 ?_
  refine lv_aload_n hx hb dL_law_222 rfl (lv_at hl 3 rfl) ?_
  refine lv_iload_n hx hb dL_law_223 rfl (lv_at hl 0 rfl) ?_
  refine lv_iconst (v := nI 2) hx hb dL_law_224 (by decide) ?_
  refine w_iadd (x := i) (y := 2) hx hb dL_law_225 ?_
  refine l_sld (i := i) (k := 2) hx hb hX hbl hbA hS (by omega) hL dL_law_226 ?_
  refine lv_aload_n hx hb dL_law_227 rfl (lv_at hl 3 rfl) ?_
  refine lv_iload_n hx hb dL_law_228 rfl (lv_at hl 0 rfl) ?_
  refine lv_iconst (v := nI 3) hx hb dL_law_229 (by decide) ?_
  refine w_iadd (x := i) (y := 3) hx hb dL_law_230 ?_
  refine l_sld (i := i) (k := 3) hx hb hX hbl hbA hS (by omega) hL dL_law_231 ?_
  refine lv_aload_n hx hb dL_law_232 rfl (lv_at hl 3 rfl) ?_
  refine lv_iload_n hx hb dL_law_233 rfl (lv_at hl 0 rfl) ?_
  refine lv_iconst (v := nI 4) hx hb dL_law_234 (by decide) ?_
  refine w_iadd (x := i) (y := 4) hx hb dL_law_235 ?_
  refine l_sld (i := i) (k := 4) hx hb hX hbl hbA hS (by omega) hL dL_law_236 ?_
  refine l_ci (rest := [.int r1]) hx hb hml hown htl (s_lock l D bb cI cJ cZ (va_A (mW bb cI cJ cZ w d) H.size) w d (xs (i + 1)) (xs (i + 2)) (xs (i + 3)) (xs (i + 4)) hM) 4 gL_law_X7_lock rfl hdX7_lock ⟨Nat.le_of_ble_eq_true rfl, Nat.le_of_ble_eq_true rfl⟩ hK hN hP2 hP1 (j_sw hD) hS (fun _ h => h) 0 7 rfl rfl rfl rfl hl.1 rfl (Nat.le_of_ble_eq_true rfl) dL_law_237 ⟨Nat.le_of_ble_eq_true rfl, Nat.le_of_ble_eq_true rfl⟩ (fun r2 u2 H locs hq2 hP2 hP1 hD hS => ?_)
  have hD := j_sw hD
  refine lv_icmp_eq hx hb dL_law_240 (tgt := 1402) (by decide) (fun _ => ?_) (fun h9 => absurd (pr_lock hI hM.1 hR hq1.2 hq2.2).1 h9)
  exact K u1.1 u2.1 u1.2 u2.2 H locs hq1.1 hq2.1 (pr_lock hI hM.1 hR hq1.2 hq2.2).2 hP1 hP2 hD hS

set_option maxHeartbeats 4000000 in
set_option maxRecDepth 100000 in
theorem lc_1 {p : Program} {l : Launch} {e : Env} {s : State} {m : MethodId} {below : List Frame} {meth : Method} {c0 : Code} {H : Heap} {locs : List Loc} {Q : State → Prop} {ls : Array Slot} {D : va_G} {a bb : Nat → Nat} {cI cJ cZ : ClassId} {b L i : Nat} {xs : Nat → Int32} {v w : Nat → Nat → Nat} {c d : Nat → Nat → Int32}
    (hx : p.tables.exec = Jvm.exec) (hb : c0.code = cL_law) (hml : c0.maxLocals = 4) (hown : s.vm.findClass RL = some m.cls) (htl : ∀ w ∈ wsL_law, w.before #[Value.ref b] s = true) (hX : va_X b L xs s s.heap) (hbl : b < s.heap.size) (hK : va_K D vwCl (xT cI cJ cZ) s) (hN : gN s) (hiL : i + 6 ≤ L) (hL : L ≤ 3072)
    (hI : XI v) (hM : MI w d) (hR : ALK v c (vM w) (cM d)) (hP1 : va_P D vwCl (xW a cI cJ cZ v c) H) (hP2 : va_P D vwCl (mW bb cI cJ cZ w d) H) (hD : va_D (fun q : Nat => s.heap.size ≤ q) (xW a cI cJ cZ v c ++ mW bb cI cJ cZ w d)) (hS : va_S (fun q : Nat => s.heap.size ≤ q) s.heap H locs)
    (hl : lv_has ls 4 [(3, .int (nI (i))), (2, .ref (bb 0)), (1, .ref (a 0)), (0, .ref b)])
    (K : ∀ (v1 w1 : Nat → Nat → Nat) (c1 d1 : Nat → Nat → Int32) (H1 : Heap) (locs1 : List Loc), XI v1 → MI w1 d1 → ALK v1 c1 (vM w1) (cM d1) → va_P D vwCl (xW a cI cJ cZ v1 c1) H1 → va_P D vwCl (mW bb cI cJ cZ w1 d1) H1 → va_D (fun q : Nat => s.heap.size ≤ q) (xW a cI cJ cZ v1 c1 ++ mW bb cI cJ cZ w1 d1) → va_S (fun q : Nat => s.heap.size ≤ q) s.heap H1 locs1 → W p l e room_1 s m #[Value.ref b] below meth c0 H1 locs1 41 3466 Q (F0 m 1402 ls [])) : W p l e room_1 s m #[Value.ref b] below meth c0 H locs 41 3466 Q (F0 m 245 ls []) := by
  have hbA : ¬ (fun q : Nat => s.heap.size ≤ q) b := Nat.not_le.mpr hbl
  refine lv_aload_n hx hb dL_law_245 rfl (lv_at hl 2 rfl) ?_
  refine lv_aload_n hx hb dL_law_246 rfl (lv_at hl 3 rfl) ?_
  refine lv_iload_n hx hb dL_law_247 rfl (lv_at hl 0 rfl) ?_
  refine lv_iconst (v := nI 1) hx hb dL_law_248 (by decide) ?_
  refine w_iadd (x := i) (y := 1) hx hb dL_law_249 ?_
  refine l_sld (i := i) (k := 1) hx hb hX hbl hbA hS (by omega) hL dL_law_250 ?_
  refine l_ci (rest := []) hx hb hml hown htl (t_board l D a cI cJ cZ (va_A (xW a cI cJ cZ v c) H.size) v c (xs (i + 1)) hI) 1 gL_law_X6_board rfl hdX6_board ⟨Nat.le_of_ble_eq_true rfl, Nat.le_of_ble_eq_true rfl⟩ hK hN hP1 hP2 hD hS (fun _ h => h) 0 6 rfl rfl rfl rfl hl.1 rfl (Nat.le_of_ble_eq_true rfl) dL_law_251 ⟨Nat.le_of_ble_eq_true rfl, Nat.le_of_ble_eq_true rfl⟩ (fun r1 u1 H locs hq1 hP1 hP2 hD hS => ?_)
  refine lv_aload_n hx hb dL_law_254 rfl (lv_at hl 1 rfl) ?_
  refine lv_aload_n hx hb dL_law_255 rfl (lv_at hl 3 rfl) ?_
  refine lv_iload_n hx hb dL_law_256 rfl (lv_at hl 0 rfl) ?_
  refine lv_iconst (v := nI 1) hx hb dL_law_257 (by decide) ?_
  refine w_iadd (x := i) (y := 1) hx hb dL_law_258 ?_
  refine l_sld (i := i) (k := 1) hx hb hX hbl hbA hS (by omega) hL dL_law_259 ?_
  refine l_ci (rest := [.int r1]) hx hb hml hown htl (s_board l D bb cI cJ cZ (va_A (mW bb cI cJ cZ w d) H.size) w d (xs (i + 1)) hM) 1 gL_law_X7_board rfl hdX7_board ⟨Nat.le_of_ble_eq_true rfl, Nat.le_of_ble_eq_true rfl⟩ hK hN hP2 hP1 (j_sw hD) hS (fun _ h => h) 0 7 rfl rfl rfl rfl hl.1 rfl (Nat.le_of_ble_eq_true rfl) dL_law_260 ⟨Nat.le_of_ble_eq_true rfl, Nat.le_of_ble_eq_true rfl⟩ (fun r2 u2 H locs hq2 hP2 hP1 hD hS => ?_)
  have hD := j_sw hD
  refine lv_icmp_eq hx hb dL_law_263 (tgt := 1402) (by decide) (fun _ => ?_) (fun h9 => absurd (pr_board hI hM.1 hR hq1 hq2) h9)
  exact K v w c d H locs hI hM hR hP1 hP2 hD hS

set_option maxHeartbeats 4000000 in
set_option maxRecDepth 100000 in
theorem lc_2 {p : Program} {l : Launch} {e : Env} {s : State} {m : MethodId} {below : List Frame} {meth : Method} {c0 : Code} {H : Heap} {locs : List Loc} {Q : State → Prop} {ls : Array Slot} {D : va_G} {a bb : Nat → Nat} {cI cJ cZ : ClassId} {b L i : Nat} {xs : Nat → Int32} {v w : Nat → Nat → Nat} {c d : Nat → Nat → Int32}
    (hx : p.tables.exec = Jvm.exec) (hb : c0.code = cL_law) (hml : c0.maxLocals = 4) (hown : s.vm.findClass RL = some m.cls) (htl : ∀ w ∈ wsL_law, w.before #[Value.ref b] s = true) (hX : va_X b L xs s s.heap) (hbl : b < s.heap.size) (hK : va_K D vwCl (xT cI cJ cZ) s) (hN : gN s) (hiL : i + 6 ≤ L) (hL : L ≤ 3072)
    (hI : XI v) (hM : MI w d) (hR : ALK v c (vM w) (cM d)) (hP1 : va_P D vwCl (xW a cI cJ cZ v c) H) (hP2 : va_P D vwCl (mW bb cI cJ cZ w d) H) (hD : va_D (fun q : Nat => s.heap.size ≤ q) (xW a cI cJ cZ v c ++ mW bb cI cJ cZ w d)) (hS : va_S (fun q : Nat => s.heap.size ≤ q) s.heap H locs)
    (hl : lv_has ls 4 [(3, .int (nI (i))), (2, .ref (bb 0)), (1, .ref (a 0)), (0, .ref b)])
    (K : ∀ (v1 w1 : Nat → Nat → Nat) (c1 d1 : Nat → Nat → Int32) (H1 : Heap) (locs1 : List Loc), XI v1 → MI w1 d1 → ALK v1 c1 (vM w1) (cM d1) → va_P D vwCl (xW a cI cJ cZ v1 c1) H1 → va_P D vwCl (mW bb cI cJ cZ w1 d1) H1 → va_D (fun q : Nat => s.heap.size ≤ q) (xW a cI cJ cZ v1 c1 ++ mW bb cI cJ cZ w1 d1) → va_S (fun q : Nat => s.heap.size ≤ q) s.heap H1 locs1 → W p l e room_1 s m #[Value.ref b] below meth c0 H1 locs1 41 3466 Q (F0 m 1402 ls [])) : W p l e room_1 s m #[Value.ref b] below meth c0 H locs 41 3466 Q (F0 m 268 ls []) := by
  have hbA : ¬ (fun q : Nat => s.heap.size ≤ q) b := Nat.not_le.mpr hbl
  refine lv_aload_n hx hb dL_law_268 rfl (lv_at hl 2 rfl) ?_
  refine lv_aload_n hx hb dL_law_269 rfl (lv_at hl 3 rfl) ?_
  refine lv_iload_n hx hb dL_law_270 rfl (lv_at hl 0 rfl) ?_
  refine lv_iconst (v := nI 1) hx hb dL_law_271 (by decide) ?_
  refine w_iadd (x := i) (y := 1) hx hb dL_law_272 ?_
  refine l_sld (i := i) (k := 1) hx hb hX hbl hbA hS (by omega) hL dL_law_273 ?_
  refine lv_aload_n hx hb dL_law_274 rfl (lv_at hl 3 rfl) ?_
  refine lv_iload_n hx hb dL_law_275 rfl (lv_at hl 0 rfl) ?_
  refine lv_iconst (v := nI 2) hx hb dL_law_276 (by decide) ?_
  refine w_iadd (x := i) (y := 2) hx hb dL_law_277 ?_
  refine l_sld (i := i) (k := 2) hx hb hX hbl hbA hS (by omega) hL dL_law_278 ?_
  refine l_ci (rest := []) hx hb hml hown htl (t_beat l D a cI cJ cZ (va_A (xW a cI cJ cZ v c) H.size) v c (xs (i + 1)) (xs (i + 2)) hI) 2 gL_law_X6_beat rfl hdX6_beat ⟨Nat.le_of_ble_eq_true rfl, Nat.le_of_ble_eq_true rfl⟩ hK hN hP1 hP2 hD hS (fun _ h => h) 0 6 rfl rfl rfl rfl hl.1 rfl (Nat.le_of_ble_eq_true rfl) dL_law_279 ⟨Nat.le_of_ble_eq_true rfl, Nat.le_of_ble_eq_true rfl⟩ (fun r1 u1 H locs hq1 hP1 hP2 hD hS => ?_)
  refine lv_aload_n hx hb dL_law_282 rfl (lv_at hl 1 rfl) ?_
  refine lv_aload_n hx hb dL_law_283 rfl (lv_at hl 3 rfl) ?_
  refine lv_iload_n hx hb dL_law_284 rfl (lv_at hl 0 rfl) ?_
  refine lv_iconst (v := nI 1) hx hb dL_law_285 (by decide) ?_
  refine w_iadd (x := i) (y := 1) hx hb dL_law_286 ?_
  refine l_sld (i := i) (k := 1) hx hb hX hbl hbA hS (by omega) hL dL_law_287 ?_
  refine lv_aload_n hx hb dL_law_288 rfl (lv_at hl 3 rfl) ?_
  refine lv_iload_n hx hb dL_law_289 rfl (lv_at hl 0 rfl) ?_
  refine lv_iconst (v := nI 2) hx hb dL_law_290 (by decide) ?_
  refine w_iadd (x := i) (y := 2) hx hb dL_law_291 ?_
  refine l_sld (i := i) (k := 2) hx hb hX hbl hbA hS (by omega) hL dL_law_292 ?_
  refine l_ci (rest := [.int r1]) hx hb hml hown htl (s_beat l D bb cI cJ cZ (va_A (mW bb cI cJ cZ w d) H.size) w d (xs (i + 1)) (xs (i + 2)) hM) 2 gL_law_X7_beat rfl hdX7_beat ⟨Nat.le_of_ble_eq_true rfl, Nat.le_of_ble_eq_true rfl⟩ hK hN hP2 hP1 (j_sw hD) hS (fun _ h => h) 0 7 rfl rfl rfl rfl hl.1 rfl (Nat.le_of_ble_eq_true rfl) dL_law_293 ⟨Nat.le_of_ble_eq_true rfl, Nat.le_of_ble_eq_true rfl⟩ (fun r2 u2 H locs hq2 hP2 hP1 hD hS => ?_)
  have hD := j_sw hD
  refine lv_icmp_eq hx hb dL_law_296 (tgt := 1402) (by decide) (fun _ => ?_) (fun h9 => absurd (pr_beat hI hM.1 hR hq1 hq2) h9)
  exact K v w c d H locs hI hM hR hP1 hP2 hD hS

set_option maxHeartbeats 4000000 in
set_option maxRecDepth 100000 in
theorem lc_3 {p : Program} {l : Launch} {e : Env} {s : State} {m : MethodId} {below : List Frame} {meth : Method} {c0 : Code} {H : Heap} {locs : List Loc} {Q : State → Prop} {ls : Array Slot} {D : va_G} {a bb : Nat → Nat} {cI cJ cZ : ClassId} {b L i : Nat} {xs : Nat → Int32} {v w : Nat → Nat → Nat} {c d : Nat → Nat → Int32}
    (hx : p.tables.exec = Jvm.exec) (hb : c0.code = cL_law) (hml : c0.maxLocals = 4) (hown : s.vm.findClass RL = some m.cls) (htl : ∀ w ∈ wsL_law, w.before #[Value.ref b] s = true) (hX : va_X b L xs s s.heap) (hbl : b < s.heap.size) (hK : va_K D vwCl (xT cI cJ cZ) s) (hN : gN s) (hiL : i + 6 ≤ L) (hL : L ≤ 3072)
    (hI : XI v) (hM : MI w d) (hR : ALK v c (vM w) (cM d)) (hP1 : va_P D vwCl (xW a cI cJ cZ v c) H) (hP2 : va_P D vwCl (mW bb cI cJ cZ w d) H) (hD : va_D (fun q : Nat => s.heap.size ≤ q) (xW a cI cJ cZ v c ++ mW bb cI cJ cZ w d)) (hS : va_S (fun q : Nat => s.heap.size ≤ q) s.heap H locs)
    (hl : lv_has ls 4 [(3, .int (nI (i))), (2, .ref (bb 0)), (1, .ref (a 0)), (0, .ref b)])
    (K : ∀ (v1 w1 : Nat → Nat → Nat) (c1 d1 : Nat → Nat → Int32) (H1 : Heap) (locs1 : List Loc), XI v1 → MI w1 d1 → ALK v1 c1 (vM w1) (cM d1) → va_P D vwCl (xW a cI cJ cZ v1 c1) H1 → va_P D vwCl (mW bb cI cJ cZ w1 d1) H1 → va_D (fun q : Nat => s.heap.size ≤ q) (xW a cI cJ cZ v1 c1 ++ mW bb cI cJ cZ w1 d1) → va_S (fun q : Nat => s.heap.size ≤ q) s.heap H1 locs1 → W p l e room_1 s m #[Value.ref b] below meth c0 H1 locs1 41 3466 Q (F0 m 1402 ls [])) : W p l e room_1 s m #[Value.ref b] below meth c0 H locs 41 3466 Q (F0 m 301 ls []) := by
  have hbA : ¬ (fun q : Nat => s.heap.size ≤ q) b := Nat.not_le.mpr hbl
  refine lv_aload_n hx hb dL_law_301 rfl (lv_at hl 2 rfl) ?_
  refine lv_aload_n hx hb dL_law_302 rfl (lv_at hl 3 rfl) ?_
  refine lv_iload_n hx hb dL_law_303 rfl (lv_at hl 0 rfl) ?_
  refine lv_iconst (v := nI 1) hx hb dL_law_304 (by decide) ?_
  refine w_iadd (x := i) (y := 1) hx hb dL_law_305 ?_
  refine l_sld (i := i) (k := 1) hx hb hX hbl hbA hS (by omega) hL dL_law_306 ?_
  refine lv_aload_n hx hb dL_law_307 rfl (lv_at hl 3 rfl) ?_
  refine lv_iload_n hx hb dL_law_308 rfl (lv_at hl 0 rfl) ?_
  refine lv_iconst (v := nI 2) hx hb dL_law_309 (by decide) ?_
  refine w_iadd (x := i) (y := 2) hx hb dL_law_310 ?_
  refine l_sld (i := i) (k := 2) hx hb hX hbl hbA hS (by omega) hL dL_law_311 ?_
  refine lv_aload_n hx hb dL_law_312 rfl (lv_at hl 3 rfl) ?_
  refine lv_iload_n hx hb dL_law_313 rfl (lv_at hl 0 rfl) ?_
  refine lv_iconst (v := nI 3) hx hb dL_law_314 (by decide) ?_
  refine w_iadd (x := i) (y := 3) hx hb dL_law_315 ?_
  refine l_sld (i := i) (k := 3) hx hb hX hbl hbA hS (by omega) hL dL_law_316 ?_
  refine l_ci (rest := []) hx hb hml hown htl (t_change l D a cI cJ cZ (va_A (xW a cI cJ cZ v c) H.size) v c (xs (i + 1)) (xs (i + 2)) (xs (i + 3)) hI) 3 gL_law_X6_change rfl hdX6_change ⟨Nat.le_of_ble_eq_true rfl, Nat.le_of_ble_eq_true rfl⟩ hK hN hP1 hP2 hD hS (fun _ h => h) 0 6 rfl rfl rfl rfl hl.1 rfl (Nat.le_of_ble_eq_true rfl) dL_law_317 ⟨Nat.le_of_ble_eq_true rfl, Nat.le_of_ble_eq_true rfl⟩ (fun r1 u1 H locs hq1 hP1 hP2 hD hS => ?_)
  refine lv_aload_n hx hb dL_law_320 rfl (lv_at hl 1 rfl) ?_
  refine lv_aload_n hx hb dL_law_321 rfl (lv_at hl 3 rfl) ?_
  refine lv_iload_n hx hb dL_law_322 rfl (lv_at hl 0 rfl) ?_
  refine lv_iconst (v := nI 1) hx hb dL_law_323 (by decide) ?_
  refine w_iadd (x := i) (y := 1) hx hb dL_law_324 ?_
  refine l_sld (i := i) (k := 1) hx hb hX hbl hbA hS (by omega) hL dL_law_325 ?_
  refine lv_aload_n hx hb dL_law_326 rfl (lv_at hl 3 rfl) ?_
  refine lv_iload_n hx hb dL_law_327 rfl (lv_at hl 0 rfl) ?_
  refine lv_iconst (v := nI 2) hx hb dL_law_328 (by decide) ?_
  refine w_iadd (x := i) (y := 2) hx hb dL_law_329 ?_
  refine l_sld (i := i) (k := 2) hx hb hX hbl hbA hS (by omega) hL dL_law_330 ?_
  refine lv_aload_n hx hb dL_law_331 rfl (lv_at hl 3 rfl) ?_
  refine lv_iload_n hx hb dL_law_332 rfl (lv_at hl 0 rfl) ?_
  refine lv_iconst (v := nI 3) hx hb dL_law_333 (by decide) ?_
  refine w_iadd (x := i) (y := 3) hx hb dL_law_334 ?_
  refine l_sld (i := i) (k := 3) hx hb hX hbl hbA hS (by omega) hL dL_law_335 ?_
  refine l_ci (rest := [.int r1]) hx hb hml hown htl (s_change l D bb cI cJ cZ (va_A (mW bb cI cJ cZ w d) H.size) w d (xs (i + 1)) (xs (i + 2)) (xs (i + 3)) hM) 3 gL_law_X7_change rfl hdX7_change ⟨Nat.le_of_ble_eq_true rfl, Nat.le_of_ble_eq_true rfl⟩ hK hN hP2 hP1 (j_sw hD) hS (fun _ h => h) 0 7 rfl rfl rfl rfl hl.1 rfl (Nat.le_of_ble_eq_true rfl) dL_law_336 ⟨Nat.le_of_ble_eq_true rfl, Nat.le_of_ble_eq_true rfl⟩ (fun r2 u2 H locs hq2 hP2 hP1 hD hS => ?_)
  have hD := j_sw hD
  refine lv_icmp_eq hx hb dL_law_339 (tgt := 1402) (by decide) (fun _ => ?_) (fun h9 => absurd (pr_change hI hM.1 hR hq1.2 hq2.2).1 h9)
  exact K u1.1 u2.1 u1.2 u2.2 H locs hq1.1 hq2.1 (pr_change hI hM.1 hR hq1.2 hq2.2).2 hP1 hP2 hD hS

set_option maxHeartbeats 4000000 in
set_option maxRecDepth 100000 in
theorem lc_4 {p : Program} {l : Launch} {e : Env} {s : State} {m : MethodId} {below : List Frame} {meth : Method} {c0 : Code} {H : Heap} {locs : List Loc} {Q : State → Prop} {ls : Array Slot} {D : va_G} {a bb : Nat → Nat} {cI cJ cZ : ClassId} {b L i : Nat} {xs : Nat → Int32} {v w : Nat → Nat → Nat} {c d : Nat → Nat → Int32}
    (hx : p.tables.exec = Jvm.exec) (hb : c0.code = cL_law) (hml : c0.maxLocals = 4) (hown : s.vm.findClass RL = some m.cls) (htl : ∀ w ∈ wsL_law, w.before #[Value.ref b] s = true) (hX : va_X b L xs s s.heap) (hbl : b < s.heap.size) (hK : va_K D vwCl (xT cI cJ cZ) s) (hN : gN s) (hiL : i + 6 ≤ L) (hL : L ≤ 3072)
    (hI : XI v) (hM : MI w d) (hR : ALK v c (vM w) (cM d)) (hP1 : va_P D vwCl (xW a cI cJ cZ v c) H) (hP2 : va_P D vwCl (mW bb cI cJ cZ w d) H) (hD : va_D (fun q : Nat => s.heap.size ≤ q) (xW a cI cJ cZ v c ++ mW bb cI cJ cZ w d)) (hS : va_S (fun q : Nat => s.heap.size ≤ q) s.heap H locs)
    (hl : lv_has ls 4 [(3, .int (nI (i))), (2, .ref (bb 0)), (1, .ref (a 0)), (0, .ref b)])
    (K : ∀ (v1 w1 : Nat → Nat → Nat) (c1 d1 : Nat → Nat → Int32) (H1 : Heap) (locs1 : List Loc), XI v1 → MI w1 d1 → ALK v1 c1 (vM w1) (cM d1) → va_P D vwCl (xW a cI cJ cZ v1 c1) H1 → va_P D vwCl (mW bb cI cJ cZ w1 d1) H1 → va_D (fun q : Nat => s.heap.size ≤ q) (xW a cI cJ cZ v1 c1 ++ mW bb cI cJ cZ w1 d1) → va_S (fun q : Nat => s.heap.size ≤ q) s.heap H1 locs1 → W p l e room_1 s m #[Value.ref b] below meth c0 H1 locs1 41 3466 Q (F0 m 1402 ls [])) : W p l e room_1 s m #[Value.ref b] below meth c0 H locs 41 3466 Q (F0 m 344 ls []) := by
  have hbA : ¬ (fun q : Nat => s.heap.size ≤ q) b := Nat.not_le.mpr hbl
  refine lv_aload_n hx hb dL_law_344 rfl (lv_at hl 2 rfl) ?_
  refine lv_aload_n hx hb dL_law_345 rfl (lv_at hl 3 rfl) ?_
  refine lv_iload_n hx hb dL_law_346 rfl (lv_at hl 0 rfl) ?_
  refine lv_iconst (v := nI 1) hx hb dL_law_347 (by decide) ?_
  refine w_iadd (x := i) (y := 1) hx hb dL_law_348 ?_
  refine l_sld (i := i) (k := 1) hx hb hX hbl hbA hS (by omega) hL dL_law_349 ?_
  refine lv_aload_n hx hb dL_law_350 rfl (lv_at hl 3 rfl) ?_
  refine lv_iload_n hx hb dL_law_351 rfl (lv_at hl 0 rfl) ?_
  refine lv_iconst (v := nI 2) hx hb dL_law_352 (by decide) ?_
  refine w_iadd (x := i) (y := 2) hx hb dL_law_353 ?_
  refine l_sld (i := i) (k := 2) hx hb hX hbl hbA hS (by omega) hL dL_law_354 ?_
  refine l_ci (rest := []) hx hb hml hown htl (t_dancer l D a cI cJ cZ (va_A (xW a cI cJ cZ v c) H.size) v c (xs (i + 1)) (xs (i + 2)) hI) 2 gL_law_X6_dancer rfl hdX6_dancer ⟨Nat.le_of_ble_eq_true rfl, Nat.le_of_ble_eq_true rfl⟩ hK hN hP1 hP2 hD hS (fun _ h => h) 0 6 rfl rfl rfl rfl hl.1 rfl (Nat.le_of_ble_eq_true rfl) dL_law_355 ⟨Nat.le_of_ble_eq_true rfl, Nat.le_of_ble_eq_true rfl⟩ (fun r1 u1 H locs hq1 hP1 hP2 hD hS => ?_)
  refine lv_aload_n hx hb dL_law_358 rfl (lv_at hl 1 rfl) ?_
  refine lv_aload_n hx hb dL_law_359 rfl (lv_at hl 3 rfl) ?_
  refine lv_iload_n hx hb dL_law_360 rfl (lv_at hl 0 rfl) ?_
  refine lv_iconst (v := nI 1) hx hb dL_law_361 (by decide) ?_
  refine w_iadd (x := i) (y := 1) hx hb dL_law_362 ?_
  refine l_sld (i := i) (k := 1) hx hb hX hbl hbA hS (by omega) hL dL_law_363 ?_
  refine lv_aload_n hx hb dL_law_364 rfl (lv_at hl 3 rfl) ?_
  refine lv_iload_n hx hb dL_law_365 rfl (lv_at hl 0 rfl) ?_
  refine lv_iconst (v := nI 2) hx hb dL_law_366 (by decide) ?_
  refine w_iadd (x := i) (y := 2) hx hb dL_law_367 ?_
  refine l_sld (i := i) (k := 2) hx hb hX hbl hbA hS (by omega) hL dL_law_368 ?_
  refine l_ci (rest := [.int r1]) hx hb hml hown htl (s_dancer l D bb cI cJ cZ (va_A (mW bb cI cJ cZ w d) H.size) w d (xs (i + 1)) (xs (i + 2)) hM) 2 gL_law_X7_dancer rfl hdX7_dancer ⟨Nat.le_of_ble_eq_true rfl, Nat.le_of_ble_eq_true rfl⟩ hK hN hP2 hP1 (j_sw hD) hS (fun _ h => h) 0 7 rfl rfl rfl rfl hl.1 rfl (Nat.le_of_ble_eq_true rfl) dL_law_369 ⟨Nat.le_of_ble_eq_true rfl, Nat.le_of_ble_eq_true rfl⟩ (fun r2 u2 H locs hq2 hP2 hP1 hD hS => ?_)
  have hD := j_sw hD
  refine lv_icmp_eq hx hb dL_law_372 (tgt := 1402) (by decide) (fun _ => ?_) (fun h9 => absurd (pr_dancer hI hM.1 hR hq1.2 hq2.2).1 h9)
  exact K u1.1 u2.1 u1.2 u2.2 H locs hq1.1 hq2.1 (pr_dancer hI hM.1 hR hq1.2 hq2.2).2 hP1 hP2 hD hS

set_option maxHeartbeats 4000000 in
set_option maxRecDepth 100000 in
theorem lc_5 {p : Program} {l : Launch} {e : Env} {s : State} {m : MethodId} {below : List Frame} {meth : Method} {c0 : Code} {H : Heap} {locs : List Loc} {Q : State → Prop} {ls : Array Slot} {D : va_G} {a bb : Nat → Nat} {cI cJ cZ : ClassId} {b L i : Nat} {xs : Nat → Int32} {v w : Nat → Nat → Nat} {c d : Nat → Nat → Int32}
    (hx : p.tables.exec = Jvm.exec) (hb : c0.code = cL_law) (hml : c0.maxLocals = 4) (hown : s.vm.findClass RL = some m.cls) (htl : ∀ w ∈ wsL_law, w.before #[Value.ref b] s = true) (hX : va_X b L xs s s.heap) (hbl : b < s.heap.size) (hK : va_K D vwCl (xT cI cJ cZ) s) (hN : gN s) (hiL : i + 6 ≤ L) (hL : L ≤ 3072)
    (hI : XI v) (hM : MI w d) (hR : ALK v c (vM w) (cM d)) (hP1 : va_P D vwCl (xW a cI cJ cZ v c) H) (hP2 : va_P D vwCl (mW bb cI cJ cZ w d) H) (hD : va_D (fun q : Nat => s.heap.size ≤ q) (xW a cI cJ cZ v c ++ mW bb cI cJ cZ w d)) (hS : va_S (fun q : Nat => s.heap.size ≤ q) s.heap H locs)
    (hl : lv_has ls 4 [(3, .int (nI (i))), (2, .ref (bb 0)), (1, .ref (a 0)), (0, .ref b)])
    (K : ∀ (v1 w1 : Nat → Nat → Nat) (c1 d1 : Nat → Nat → Int32) (H1 : Heap) (locs1 : List Loc), XI v1 → MI w1 d1 → ALK v1 c1 (vM w1) (cM d1) → va_P D vwCl (xW a cI cJ cZ v1 c1) H1 → va_P D vwCl (mW bb cI cJ cZ w1 d1) H1 → va_D (fun q : Nat => s.heap.size ≤ q) (xW a cI cJ cZ v1 c1 ++ mW bb cI cJ cZ w1 d1) → va_S (fun q : Nat => s.heap.size ≤ q) s.heap H1 locs1 → W p l e room_1 s m #[Value.ref b] below meth c0 H1 locs1 41 3466 Q (F0 m 1402 ls [])) : W p l e room_1 s m #[Value.ref b] below meth c0 H locs 41 3466 Q (F0 m 377 ls []) := by
  have hbA : ¬ (fun q : Nat => s.heap.size ≤ q) b := Nat.not_le.mpr hbl
  refine lv_aload_n hx hb dL_law_377 rfl (lv_at hl 2 rfl) ?_
  refine lv_aload_n hx hb dL_law_378 rfl (lv_at hl 3 rfl) ?_
  refine lv_iload_n hx hb dL_law_379 rfl (lv_at hl 0 rfl) ?_
  refine lv_iconst (v := nI 1) hx hb dL_law_380 (by decide) ?_
  refine w_iadd (x := i) (y := 1) hx hb dL_law_381 ?_
  refine l_sld (i := i) (k := 1) hx hb hX hbl hbA hS (by omega) hL dL_law_382 ?_
  refine lv_aload_n hx hb dL_law_383 rfl (lv_at hl 3 rfl) ?_
  refine lv_iload_n hx hb dL_law_384 rfl (lv_at hl 0 rfl) ?_
  refine lv_iconst (v := nI 2) hx hb dL_law_385 (by decide) ?_
  refine w_iadd (x := i) (y := 2) hx hb dL_law_386 ?_
  refine l_sld (i := i) (k := 2) hx hb hX hbl hbA hS (by omega) hL dL_law_387 ?_
  refine l_ci (rest := []) hx hb hml hown htl (t_ofDancer l D a cI cJ cZ (va_A (xW a cI cJ cZ v c) H.size) v c (xs (i + 1)) (xs (i + 2)) hI) 2 gL_law_X6_ofDancer rfl hdX6_ofDancer ⟨Nat.le_of_ble_eq_true rfl, Nat.le_of_ble_eq_true rfl⟩ hK hN hP1 hP2 hD hS (fun _ h => h) 0 6 rfl rfl rfl rfl hl.1 rfl (Nat.le_of_ble_eq_true rfl) dL_law_388 ⟨Nat.le_of_ble_eq_true rfl, Nat.le_of_ble_eq_true rfl⟩ (fun r1 u1 H locs hq1 hP1 hP2 hD hS => ?_)
  refine lv_aload_n hx hb dL_law_391 rfl (lv_at hl 1 rfl) ?_
  refine lv_aload_n hx hb dL_law_392 rfl (lv_at hl 3 rfl) ?_
  refine lv_iload_n hx hb dL_law_393 rfl (lv_at hl 0 rfl) ?_
  refine lv_iconst (v := nI 1) hx hb dL_law_394 (by decide) ?_
  refine w_iadd (x := i) (y := 1) hx hb dL_law_395 ?_
  refine l_sld (i := i) (k := 1) hx hb hX hbl hbA hS (by omega) hL dL_law_396 ?_
  refine lv_aload_n hx hb dL_law_397 rfl (lv_at hl 3 rfl) ?_
  refine lv_iload_n hx hb dL_law_398 rfl (lv_at hl 0 rfl) ?_
  refine lv_iconst (v := nI 2) hx hb dL_law_399 (by decide) ?_
  refine w_iadd (x := i) (y := 2) hx hb dL_law_400 ?_
  refine l_sld (i := i) (k := 2) hx hb hX hbl hbA hS (by omega) hL dL_law_401 ?_
  refine l_ci (rest := [.int r1]) hx hb hml hown htl (s_ofDancer l D bb cI cJ cZ (va_A (mW bb cI cJ cZ w d) H.size) w d (xs (i + 1)) (xs (i + 2)) hM) 2 gL_law_X7_ofDancer rfl hdX7_ofDancer ⟨Nat.le_of_ble_eq_true rfl, Nat.le_of_ble_eq_true rfl⟩ hK hN hP2 hP1 (j_sw hD) hS (fun _ h => h) 0 7 rfl rfl rfl rfl hl.1 rfl (Nat.le_of_ble_eq_true rfl) dL_law_402 ⟨Nat.le_of_ble_eq_true rfl, Nat.le_of_ble_eq_true rfl⟩ (fun r2 u2 H locs hq2 hP2 hP1 hD hS => ?_)
  have hD := j_sw hD
  refine lv_icmp_eq hx hb dL_law_405 (tgt := 1402) (by decide) (fun _ => ?_) (fun h9 => absurd (pr_ofDancer hI hM.1 hR hq1 hq2) h9)
  exact K v w c d H locs hI hM hR hP1 hP2 hD hS

set_option maxHeartbeats 4000000 in
set_option maxRecDepth 100000 in
theorem lc_6 {p : Program} {l : Launch} {e : Env} {s : State} {m : MethodId} {below : List Frame} {meth : Method} {c0 : Code} {H : Heap} {locs : List Loc} {Q : State → Prop} {ls : Array Slot} {D : va_G} {a bb : Nat → Nat} {cI cJ cZ : ClassId} {b L i : Nat} {xs : Nat → Int32} {v w : Nat → Nat → Nat} {c d : Nat → Nat → Int32}
    (hx : p.tables.exec = Jvm.exec) (hb : c0.code = cL_law) (hml : c0.maxLocals = 4) (hown : s.vm.findClass RL = some m.cls) (htl : ∀ w ∈ wsL_law, w.before #[Value.ref b] s = true) (hX : va_X b L xs s s.heap) (hbl : b < s.heap.size) (hK : va_K D vwCl (xT cI cJ cZ) s) (hN : gN s) (hiL : i + 6 ≤ L) (hL : L ≤ 3072)
    (hI : XI v) (hM : MI w d) (hR : ALK v c (vM w) (cM d)) (hP1 : va_P D vwCl (xW a cI cJ cZ v c) H) (hP2 : va_P D vwCl (mW bb cI cJ cZ w d) H) (hD : va_D (fun q : Nat => s.heap.size ≤ q) (xW a cI cJ cZ v c ++ mW bb cI cJ cZ w d)) (hS : va_S (fun q : Nat => s.heap.size ≤ q) s.heap H locs)
    (hl : lv_has ls 4 [(3, .int (nI (i))), (2, .ref (bb 0)), (1, .ref (a 0)), (0, .ref b)])
    (K : ∀ (v1 w1 : Nat → Nat → Nat) (c1 d1 : Nat → Nat → Int32) (H1 : Heap) (locs1 : List Loc), XI v1 → MI w1 d1 → ALK v1 c1 (vM w1) (cM d1) → va_P D vwCl (xW a cI cJ cZ v1 c1) H1 → va_P D vwCl (mW bb cI cJ cZ w1 d1) H1 → va_D (fun q : Nat => s.heap.size ≤ q) (xW a cI cJ cZ v1 c1 ++ mW bb cI cJ cZ w1 d1) → va_S (fun q : Nat => s.heap.size ≤ q) s.heap H1 locs1 → W p l e room_1 s m #[Value.ref b] below meth c0 H1 locs1 41 3466 Q (F0 m 1402 ls [])) : W p l e room_1 s m #[Value.ref b] below meth c0 H locs 41 3466 Q (F0 m 410 ls []) := by
  have hbA : ¬ (fun q : Nat => s.heap.size ≤ q) b := Nat.not_le.mpr hbl
  refine lv_aload_n hx hb dL_law_410 rfl (lv_at hl 2 rfl) ?_
  refine lv_aload_n hx hb dL_law_411 rfl (lv_at hl 3 rfl) ?_
  refine lv_iload_n hx hb dL_law_412 rfl (lv_at hl 0 rfl) ?_
  refine lv_iconst (v := nI 1) hx hb dL_law_413 (by decide) ?_
  refine w_iadd (x := i) (y := 1) hx hb dL_law_414 ?_
  refine l_sld (i := i) (k := 1) hx hb hX hbl hbA hS (by omega) hL dL_law_415 ?_
  refine l_ci (rest := []) hx hb hml hown htl (t_leave l D a cI cJ cZ (va_A (xW a cI cJ cZ v c) H.size) v c (xs (i + 1)) hI) 1 gL_law_X6_leave rfl hdX6_leave ⟨Nat.le_of_ble_eq_true rfl, Nat.le_of_ble_eq_true rfl⟩ hK hN hP1 hP2 hD hS (fun _ h => h) 0 6 rfl rfl rfl rfl hl.1 rfl (Nat.le_of_ble_eq_true rfl) dL_law_416 ⟨Nat.le_of_ble_eq_true rfl, Nat.le_of_ble_eq_true rfl⟩ (fun r1 u1 H locs hq1 hP1 hP2 hD hS => ?_)
  refine lv_aload_n hx hb dL_law_419 rfl (lv_at hl 1 rfl) ?_
  refine lv_aload_n hx hb dL_law_420 rfl (lv_at hl 3 rfl) ?_
  refine lv_iload_n hx hb dL_law_421 rfl (lv_at hl 0 rfl) ?_
  refine lv_iconst (v := nI 1) hx hb dL_law_422 (by decide) ?_
  refine w_iadd (x := i) (y := 1) hx hb dL_law_423 ?_
  refine l_sld (i := i) (k := 1) hx hb hX hbl hbA hS (by omega) hL dL_law_424 ?_
  refine l_ci (rest := [.int r1]) hx hb hml hown htl (s_leave l D bb cI cJ cZ (va_A (mW bb cI cJ cZ w d) H.size) w d (xs (i + 1)) hM) 1 gL_law_X7_leave rfl hdX7_leave ⟨Nat.le_of_ble_eq_true rfl, Nat.le_of_ble_eq_true rfl⟩ hK hN hP2 hP1 (j_sw hD) hS (fun _ h => h) 0 7 rfl rfl rfl rfl hl.1 rfl (Nat.le_of_ble_eq_true rfl) dL_law_425 ⟨Nat.le_of_ble_eq_true rfl, Nat.le_of_ble_eq_true rfl⟩ (fun r2 u2 H locs hq2 hP2 hP1 hD hS => ?_)
  have hD := j_sw hD
  refine lv_icmp_eq hx hb dL_law_428 (tgt := 1402) (by decide) (fun _ => ?_) (fun h9 => absurd (pr_leave hI hM.1 hR hq1.2 hq2.2).1 h9)
  exact K u1.1 u2.1 u1.2 u2.2 H locs hq1.1 hq2.1 (pr_leave hI hM.1 hR hq1.2 hq2.2).2 hP1 hP2 hD hS

set_option maxHeartbeats 4000000 in
set_option maxRecDepth 100000 in
theorem lc_7 {p : Program} {l : Launch} {e : Env} {s : State} {m : MethodId} {below : List Frame} {meth : Method} {c0 : Code} {H : Heap} {locs : List Loc} {Q : State → Prop} {ls : Array Slot} {D : va_G} {a bb : Nat → Nat} {cI cJ cZ : ClassId} {b L i : Nat} {xs : Nat → Int32} {v w : Nat → Nat → Nat} {c d : Nat → Nat → Int32}
    (hx : p.tables.exec = Jvm.exec) (hb : c0.code = cL_law) (hml : c0.maxLocals = 4) (hown : s.vm.findClass RL = some m.cls) (htl : ∀ w ∈ wsL_law, w.before #[Value.ref b] s = true) (hX : va_X b L xs s s.heap) (hbl : b < s.heap.size) (hK : va_K D vwCl (xT cI cJ cZ) s) (hN : gN s) (hiL : i + 6 ≤ L) (hL : L ≤ 3072)
    (hI : XI v) (hM : MI w d) (hR : ALK v c (vM w) (cM d)) (hP1 : va_P D vwCl (xW a cI cJ cZ v c) H) (hP2 : va_P D vwCl (mW bb cI cJ cZ w d) H) (hD : va_D (fun q : Nat => s.heap.size ≤ q) (xW a cI cJ cZ v c ++ mW bb cI cJ cZ w d)) (hS : va_S (fun q : Nat => s.heap.size ≤ q) s.heap H locs)
    (hl : lv_has ls 4 [(3, .int (nI (i))), (2, .ref (bb 0)), (1, .ref (a 0)), (0, .ref b)])
    (K : ∀ (v1 w1 : Nat → Nat → Nat) (c1 d1 : Nat → Nat → Int32) (H1 : Heap) (locs1 : List Loc), XI v1 → MI w1 d1 → ALK v1 c1 (vM w1) (cM d1) → va_P D vwCl (xW a cI cJ cZ v1 c1) H1 → va_P D vwCl (mW bb cI cJ cZ w1 d1) H1 → va_D (fun q : Nat => s.heap.size ≤ q) (xW a cI cJ cZ v1 c1 ++ mW bb cI cJ cZ w1 d1) → va_S (fun q : Nat => s.heap.size ≤ q) s.heap H1 locs1 → W p l e room_1 s m #[Value.ref b] below meth c0 H1 locs1 41 3466 Q (F0 m 1402 ls [])) : W p l e room_1 s m #[Value.ref b] below meth c0 H locs 41 3466 Q (F0 m 433 ls []) := by
  have hbA : ¬ (fun q : Nat => s.heap.size ≤ q) b := Nat.not_le.mpr hbl
  refine lv_aload_n hx hb dL_law_433 rfl (lv_at hl 2 rfl) ?_
  refine lv_aload_n hx hb dL_law_434 rfl (lv_at hl 3 rfl) ?_
  refine lv_iload_n hx hb dL_law_435 rfl (lv_at hl 0 rfl) ?_
  refine lv_iconst (v := nI 1) hx hb dL_law_436 (by decide) ?_
  refine w_iadd (x := i) (y := 1) hx hb dL_law_437 ?_
  refine l_sld (i := i) (k := 1) hx hb hX hbl hbA hS (by omega) hL dL_law_438 ?_
  refine lv_aload_n hx hb dL_law_439 rfl (lv_at hl 3 rfl) ?_
  refine lv_iload_n hx hb dL_law_440 rfl (lv_at hl 0 rfl) ?_
  refine lv_iconst (v := nI 2) hx hb dL_law_441 (by decide) ?_
  refine w_iadd (x := i) (y := 2) hx hb dL_law_442 ?_
  refine l_sld (i := i) (k := 2) hx hb hX hbl hbA hS (by omega) hL dL_law_443 ?_
  refine lv_aload_n hx hb dL_law_444 rfl (lv_at hl 3 rfl) ?_
  refine lv_iload_n hx hb dL_law_445 rfl (lv_at hl 0 rfl) ?_
  refine lv_iconst (v := nI 3) hx hb dL_law_446 (by decide) ?_
  refine w_iadd (x := i) (y := 3) hx hb dL_law_447 ?_
  refine l_sld (i := i) (k := 3) hx hb hX hbl hbA hS (by omega) hL dL_law_448 ?_
  refine lv_aload_n hx hb dL_law_449 rfl (lv_at hl 3 rfl) ?_
  refine lv_iload_n hx hb dL_law_450 rfl (lv_at hl 0 rfl) ?_
  refine lv_iconst (v := nI 4) hx hb dL_law_451 (by decide) ?_
  refine w_iadd (x := i) (y := 4) hx hb dL_law_452 ?_
  refine l_sld (i := i) (k := 4) hx hb hX hbl hbA hS (by omega) hL dL_law_453 ?_
  refine l_ci (rest := []) hx hb hml hown htl (t_opens l D a cI cJ cZ (va_A (xW a cI cJ cZ v c) H.size) v c (xs (i + 1)) (xs (i + 2)) (xs (i + 3)) (xs (i + 4)) hI) 4 gL_law_X6_opens rfl hdX6_opens ⟨Nat.le_of_ble_eq_true rfl, Nat.le_of_ble_eq_true rfl⟩ hK hN hP1 hP2 hD hS (fun _ h => h) 0 6 rfl rfl rfl rfl hl.1 rfl (Nat.le_of_ble_eq_true rfl) dL_law_454 ⟨Nat.le_of_ble_eq_true rfl, Nat.le_of_ble_eq_true rfl⟩ (fun r1 u1 H locs hq1 hP1 hP2 hD hS => ?_)
  refine lv_aload_n hx hb dL_law_457 rfl (lv_at hl 1 rfl) ?_
  refine lv_aload_n hx hb dL_law_458 rfl (lv_at hl 3 rfl) ?_
  refine lv_iload_n hx hb dL_law_459 rfl (lv_at hl 0 rfl) ?_
  refine lv_iconst (v := nI 1) hx hb dL_law_460 (by decide) ?_
  refine w_iadd (x := i) (y := 1) hx hb dL_law_461 ?_
  refine l_sld (i := i) (k := 1) hx hb hX hbl hbA hS (by omega) hL dL_law_462 ?_
  refine lv_aload_n hx hb dL_law_463 rfl (lv_at hl 3 rfl) ?_
  refine lv_iload_n hx hb dL_law_464 rfl (lv_at hl 0 rfl) ?_
  refine lv_iconst (v := nI 2) hx hb dL_law_465 (by decide) ?_
  refine w_iadd (x := i) (y := 2) hx hb dL_law_466 ?_
  refine l_sld (i := i) (k := 2) hx hb hX hbl hbA hS (by omega) hL dL_law_467 ?_
  refine lv_aload_n hx hb dL_law_468 rfl (lv_at hl 3 rfl) ?_
  refine lv_iload_n hx hb dL_law_469 rfl (lv_at hl 0 rfl) ?_
  refine lv_iconst (v := nI 3) hx hb dL_law_470 (by decide) ?_
  refine w_iadd (x := i) (y := 3) hx hb dL_law_471 ?_
  refine l_sld (i := i) (k := 3) hx hb hX hbl hbA hS (by omega) hL dL_law_472 ?_
  refine lv_aload_n hx hb dL_law_473 rfl (lv_at hl 3 rfl) ?_
  refine lv_iload_n hx hb dL_law_474 rfl (lv_at hl 0 rfl) ?_
  refine lv_iconst (v := nI 4) hx hb dL_law_475 (by decide) ?_
  refine w_iadd (x := i) (y := 4) hx hb dL_law_476 ?_
  refine l_sld (i := i) (k := 4) hx hb hX hbl hbA hS (by omega) hL dL_law_477 ?_
  refine l_ci (rest := [.int r1]) hx hb hml hown htl (s_opens l D bb cI cJ cZ (va_A (mW bb cI cJ cZ w d) H.size) w d (xs (i + 1)) (xs (i + 2)) (xs (i + 3)) (xs (i + 4)) hM) 4 gL_law_X7_opens rfl hdX7_opens ⟨Nat.le_of_ble_eq_true rfl, Nat.le_of_ble_eq_true rfl⟩ hK hN hP2 hP1 (j_sw hD) hS (fun _ h => h) 0 7 rfl rfl rfl rfl hl.1 rfl (Nat.le_of_ble_eq_true rfl) dL_law_478 ⟨Nat.le_of_ble_eq_true rfl, Nat.le_of_ble_eq_true rfl⟩ (fun r2 u2 H locs hq2 hP2 hP1 hD hS => ?_)
  have hD := j_sw hD
  refine lv_icmp_eq hx hb dL_law_481 (tgt := 1402) (by decide) (fun _ => ?_) (fun h9 => absurd (pr_opens hI hM.1 hR hq1 hq2.2).1 h9)
  exact K u1.1 u2.1 u1.2 u2.2 H locs hq1.choose_spec.2.1 hq2.1 (pr_opens hI hM.1 hR hq1 hq2.2).2 hP1 hP2 hD hS

set_option maxHeartbeats 4000000 in
set_option maxRecDepth 100000 in
theorem lc_8 {p : Program} {l : Launch} {e : Env} {s : State} {m : MethodId} {below : List Frame} {meth : Method} {c0 : Code} {H : Heap} {locs : List Loc} {Q : State → Prop} {ls : Array Slot} {D : va_G} {a bb : Nat → Nat} {cI cJ cZ : ClassId} {b L i : Nat} {xs : Nat → Int32} {v w : Nat → Nat → Nat} {c d : Nat → Nat → Int32}
    (hx : p.tables.exec = Jvm.exec) (hb : c0.code = cL_law) (hml : c0.maxLocals = 4) (hown : s.vm.findClass RL = some m.cls) (htl : ∀ w ∈ wsL_law, w.before #[Value.ref b] s = true) (hX : va_X b L xs s s.heap) (hbl : b < s.heap.size) (hK : va_K D vwCl (xT cI cJ cZ) s) (hN : gN s) (hiL : i + 6 ≤ L) (hL : L ≤ 3072)
    (hI : XI v) (hM : MI w d) (hR : ALK v c (vM w) (cM d)) (hP1 : va_P D vwCl (xW a cI cJ cZ v c) H) (hP2 : va_P D vwCl (mW bb cI cJ cZ w d) H) (hD : va_D (fun q : Nat => s.heap.size ≤ q) (xW a cI cJ cZ v c ++ mW bb cI cJ cZ w d)) (hS : va_S (fun q : Nat => s.heap.size ≤ q) s.heap H locs)
    (hl : lv_has ls 4 [(3, .int (nI (i))), (2, .ref (bb 0)), (1, .ref (a 0)), (0, .ref b)])
    (K : ∀ (v1 w1 : Nat → Nat → Nat) (c1 d1 : Nat → Nat → Int32) (H1 : Heap) (locs1 : List Loc), XI v1 → MI w1 d1 → ALK v1 c1 (vM w1) (cM d1) → va_P D vwCl (xW a cI cJ cZ v1 c1) H1 → va_P D vwCl (mW bb cI cJ cZ w1 d1) H1 → va_D (fun q : Nat => s.heap.size ≤ q) (xW a cI cJ cZ v1 c1 ++ mW bb cI cJ cZ w1 d1) → va_S (fun q : Nat => s.heap.size ≤ q) s.heap H1 locs1 → W p l e room_1 s m #[Value.ref b] below meth c0 H1 locs1 41 3466 Q (F0 m 1402 ls [])) : W p l e room_1 s m #[Value.ref b] below meth c0 H locs 41 3466 Q (F0 m 486 ls []) := by
  have hbA : ¬ (fun q : Nat => s.heap.size ≤ q) b := Nat.not_le.mpr hbl
  refine lv_aload_n hx hb dL_law_486 rfl (lv_at hl 2 rfl) ?_
  refine lv_aload_n hx hb dL_law_487 rfl (lv_at hl 3 rfl) ?_
  refine lv_iload_n hx hb dL_law_488 rfl (lv_at hl 0 rfl) ?_
  refine lv_iconst (v := nI 1) hx hb dL_law_489 (by decide) ?_
  refine w_iadd (x := i) (y := 1) hx hb dL_law_490 ?_
  refine l_sld (i := i) (k := 1) hx hb hX hbl hbA hS (by omega) hL dL_law_491 ?_
  refine lv_aload_n hx hb dL_law_492 rfl (lv_at hl 3 rfl) ?_
  refine lv_iload_n hx hb dL_law_493 rfl (lv_at hl 0 rfl) ?_
  refine lv_iconst (v := nI 2) hx hb dL_law_494 (by decide) ?_
  refine w_iadd (x := i) (y := 2) hx hb dL_law_495 ?_
  refine l_sld (i := i) (k := 2) hx hb hX hbl hbA hS (by omega) hL dL_law_496 ?_
  refine lv_aload_n hx hb dL_law_497 rfl (lv_at hl 3 rfl) ?_
  refine lv_iload_n hx hb dL_law_498 rfl (lv_at hl 0 rfl) ?_
  refine lv_iconst (v := nI 3) hx hb dL_law_499 (by decide) ?_
  refine w_iadd (x := i) (y := 3) hx hb dL_law_500 ?_
  refine l_sld (i := i) (k := 3) hx hb hX hbl hbA hS (by omega) hL dL_law_501 ?_
  refine lv_aload_n hx hb dL_law_502 rfl (lv_at hl 3 rfl) ?_
  refine lv_iload_n hx hb dL_law_503 rfl (lv_at hl 0 rfl) ?_
  refine lv_iconst (v := nI 4) hx hb dL_law_504 (by decide) ?_
  refine w_iadd (x := i) (y := 4) hx hb dL_law_505 ?_
  refine l_sld (i := i) (k := 4) hx hb hX hbl hbA hS (by omega) hL dL_law_506 ?_
  refine lv_aload_n hx hb dL_law_507 rfl (lv_at hl 3 rfl) ?_
  refine lv_iload_n hx hb dL_law_508 rfl (lv_at hl 0 rfl) ?_
  refine lv_iconst (v := nI 5) hx hb dL_law_509 (by decide) ?_
  refine w_iadd (x := i) (y := 5) hx hb dL_law_510 ?_
  refine l_sld (i := i) (k := 5) hx hb hX hbl hbA hS (by omega) hL dL_law_511 ?_
  refine l_ci (rest := []) hx hb hml hown htl (t_felt l D a cI cJ cZ (va_A (xW a cI cJ cZ v c) H.size) v c (xs (i + 1)) (xs (i + 2)) (xs (i + 3)) (xs (i + 4)) (xs (i + 5)) hI) 5 gL_law_X6_felt rfl hdX6_felt ⟨Nat.le_of_ble_eq_true rfl, Nat.le_of_ble_eq_true rfl⟩ hK hN hP1 hP2 hD hS (fun _ h => h) 0 6 rfl rfl rfl rfl hl.1 rfl (Nat.le_of_ble_eq_true rfl) dL_law_512 ⟨Nat.le_of_ble_eq_true rfl, Nat.le_of_ble_eq_true rfl⟩ (fun r1 u1 H locs hq1 hP1 hP2 hD hS => ?_)
  refine lv_aload_n hx hb dL_law_515 rfl (lv_at hl 1 rfl) ?_
  refine lv_aload_n hx hb dL_law_516 rfl (lv_at hl 3 rfl) ?_
  refine lv_iload_n hx hb dL_law_517 rfl (lv_at hl 0 rfl) ?_
  refine lv_iconst (v := nI 1) hx hb dL_law_518 (by decide) ?_
  refine w_iadd (x := i) (y := 1) hx hb dL_law_519 ?_
  refine l_sld (i := i) (k := 1) hx hb hX hbl hbA hS (by omega) hL dL_law_520 ?_
  refine lv_aload_n hx hb dL_law_521 rfl (lv_at hl 3 rfl) ?_
  refine lv_iload_n hx hb dL_law_522 rfl (lv_at hl 0 rfl) ?_
  refine lv_iconst (v := nI 2) hx hb dL_law_523 (by decide) ?_
  refine w_iadd (x := i) (y := 2) hx hb dL_law_524 ?_
  refine l_sld (i := i) (k := 2) hx hb hX hbl hbA hS (by omega) hL dL_law_525 ?_
  refine lv_aload_n hx hb dL_law_526 rfl (lv_at hl 3 rfl) ?_
  refine lv_iload_n hx hb dL_law_527 rfl (lv_at hl 0 rfl) ?_
  refine lv_iconst (v := nI 3) hx hb dL_law_528 (by decide) ?_
  refine w_iadd (x := i) (y := 3) hx hb dL_law_529 ?_
  refine l_sld (i := i) (k := 3) hx hb hX hbl hbA hS (by omega) hL dL_law_530 ?_
  refine lv_aload_n hx hb dL_law_531 rfl (lv_at hl 3 rfl) ?_
  refine lv_iload_n hx hb dL_law_532 rfl (lv_at hl 0 rfl) ?_
  refine lv_iconst (v := nI 4) hx hb dL_law_533 (by decide) ?_
  refine w_iadd (x := i) (y := 4) hx hb dL_law_534 ?_
  refine l_sld (i := i) (k := 4) hx hb hX hbl hbA hS (by omega) hL dL_law_535 ?_
  refine lv_aload_n hx hb dL_law_536 rfl (lv_at hl 3 rfl) ?_
  refine lv_iload_n hx hb dL_law_537 rfl (lv_at hl 0 rfl) ?_
  refine lv_iconst (v := nI 5) hx hb dL_law_538 (by decide) ?_
  refine w_iadd (x := i) (y := 5) hx hb dL_law_539 ?_
  refine l_sld (i := i) (k := 5) hx hb hX hbl hbA hS (by omega) hL dL_law_540 ?_
  refine l_ci (rest := [.int r1]) hx hb hml hown htl (s_felt l D bb cI cJ cZ (va_A (mW bb cI cJ cZ w d) H.size) w d (xs (i + 1)) (xs (i + 2)) (xs (i + 3)) (xs (i + 4)) (xs (i + 5)) hM) 5 gL_law_X7_felt rfl hdX7_felt ⟨Nat.le_of_ble_eq_true rfl, Nat.le_of_ble_eq_true rfl⟩ hK hN hP2 hP1 (j_sw hD) hS (fun _ h => h) 0 7 rfl rfl rfl rfl hl.1 rfl (Nat.le_of_ble_eq_true rfl) dL_law_541 ⟨Nat.le_of_ble_eq_true rfl, Nat.le_of_ble_eq_true rfl⟩ (fun r2 u2 H locs hq2 hP2 hP1 hD hS => ?_)
  have hD := j_sw hD
  refine lv_icmp_eq hx hb dL_law_544 (tgt := 1402) (by decide) (fun _ => ?_) (fun h9 => absurd (pr_felt hI hM.1 hR hq1 hq2.2).1 h9)
  exact K u1.1 u2.1 u1.2 u2.2 H locs hq1.choose_spec.2.1 hq2.1 (pr_felt hI hM.1 hR hq1 hq2.2).2 hP1 hP2 hD hS
