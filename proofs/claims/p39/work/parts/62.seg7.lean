/-! ===== the law: plans counted ===== -/
set_option maxHeartbeats 8000000 in
set_option maxRecDepth 100000 in
theorem sg_7 {p : Program} {l : Launch} {e : Env} {s : State} {m : MethodId} {args : Array Value} {below : List Frame} {meth : Method} {c0 : Code} {H : Heap} {locs : List Loc} {Q : State → Prop} {ls : Array Slot} {D : va_G} {a : Nat → Nat} {cI cJ cZ : ClassId} {A : Nat → Prop} {b L : Nat} {xs : Nat → Int32} {v : Nat → Nat → Nat} {c : Nat → Nat → Int32} {w : Nat → Nat → Nat}
    (hx : p.tables.exec = Jvm.exec) (hb : c0.code = cL_law) (hml : c0.maxLocals = 19) (hown : s.vm.findClass RL = some m.cls) (hts : ∀ w ∈ wsL_law, w.before args s = true) (hK : va_K D vwCl (xT cI cJ cZ) s) (hN : gN s) (hA : ∀ q : Nat, s.heap.size ≤ q → A q) (hX : va_X b L xs s s.heap) (hbl : b < s.heap.size) (hbA : ¬ A b) (hL2 : L < 2147483648)
     (p1 : Nat → Nat) (hI : XI v) (hgl : GL (w 30)) (hgd : GD (w 30)) (hAL : AL (w 30) v) (hc3 : c 2 3 = -1) (hp1 : ∀ q, q < 24 → p1 q < 8) (hs : SH1 v c)
    (hP : va_P D vwCl (jW a cI cJ cZ v c (va_up w 31 (p1))) H) (hD : va_D A (jW a cI cJ cZ v c (va_up w 31 (p1)))) (hS : va_S A s.heap H locs) (hl : lv_has ls 19 [(0, .ref b), (1, .ref (a 0)), (2, .ref (a 30)), (4, .int (nI (w 30 37))), (5, .int (nI (w 30 0 ^ w 30 37))), (6, .ref (a 31))])
    (K : ∀ (v1 : Nat → Nat → Nat) (c1 : Nat → Nat → Int32) (p1 : Nat → Nat) (H : Heap) (locs : List Loc) (ls : Array Slot), (XI v1) → (AL (w 30) v1) → (c1 2 3 = -1) → (SH1 v1 c1) → va_P D vwCl (jW a cI cJ cZ v1 c1 (va_up w 31 (p1))) H → va_D A (jW a cI cJ cZ v1 c1 (va_up w 31 (p1))) → va_S A s.heap H locs → lv_has ls 19 [(0, .ref b), (1, .ref (a 0)), (2, .ref (a 30)), (4, .int (nI (w 30 37)))] → W p l e room_1 s m args below meth c0 H locs 29 706 Q (F0 m 1353 ls [])) :
    W p l e room_1 s m args below meth c0 H locs 29 706 Q (F0 m 1206 ls []) := by
  obtain ⟨⟨g1, g2⟩, ⟨g3, g4⟩, g5, g6, g7⟩ := id hgl
  obtain ⟨n1, n2⟩ := id hgd
  have hrw := rows_le g2 n1
  have g8 := p2_16 g2
  refine lv_iconst (v := nI (0)) hx hb dL_law_1206 (by decide) ?_
  refine lv_istore (lv' := [(8, .int (nI (0))), (0, .ref b), (1, .ref (a 0)), (2, .ref (a 30)), (4, .int (nI (w 30 37))), (5, .int (nI (w 30 0 ^ w 30 37))), (6, .ref (a 31))]) hx hb dL_law_1207 hl (by decide) rfl (fun ls hl => ?_)
  have L1209 : ∀ (n : Nat) (v : Nat → Nat → Nat) (c : Nat → Nat → Int32) (dd : Nat) (p1 : Nat → Nat) (H : Heap) (locs : List Loc) (ls : Array Slot), w 30 1 - dd < n → (XI v) → (dd ≤ w 30 1) → (AL (w 30) v) → (c 2 3 = -1) → (SH1 v c) → (∀ q, q < 24 → p1 q < 8) → va_P D vwCl (jW a cI cJ cZ v c (va_up w 31 (p1))) H → va_D A (jW a cI cJ cZ v c (va_up w 31 (p1))) → va_S A s.heap H locs → lv_has ls 19 [(8, .int (nI (dd))), (0, .ref b), (1, .ref (a 0)), (2, .ref (a 30)), (4, .int (nI (w 30 37))), (5, .int (nI (w 30 0 ^ w 30 37))), (6, .ref (a 31))] → W p l e room_1 s m args below meth c0 H locs 29 706 Q (F0 m 1209 ls []) := by
    intro n
    induction n with
    | zero => intro v c dd p1 H locs ls hm; exact absurd hm (Nat.not_lt_zero _)
    | succ n ih1209 =>
      intro v c dd p1 H locs ls hm1209 hI hdd hAL hc3 hs hp1 hP hD hS hl
      refine lv_iload hx hb dL_law_1209 (lv_at hl 0 rfl) ?_
      refine lv_aload_n hx hb dL_law_1211 rfl (lv_at hl 3 rfl) ?_
      refine lv_iconst (v := nI (1)) hx hb dL_law_1212 (by decide) ?_
      refine w_iald (f := w 30) hx hb hK hP 26 0 rfl rfl (i := 1) (by omega) (by decide) dL_law_1213 ?_
      refine w_icmp_ge (x := dd) (y := w 30 1) hx hb dL_law_1214 (tgt := 1353) (by decide) (by omega) (by omega) (fun c1214 => ?_) (fun c1214 => ?_)
      · skip
        exact K v c p1 _ _ _ (by exact hI) (by exact hAL) (by exact hc3) (by exact hs) hP hD hS (lv_sub hl [1, 2, 3, 4] rfl)
      · skip
        have hdd2 : dd < w 30 1 := c1214
        have hbd := g6 dd hdd2
        refine lv_iconst (v := nI (0)) hx hb dL_law_1217 (by decide) ?_
        refine lv_istore (lv' := [(9, .int (nI (0))), (8, .int (nI (dd))), (0, .ref b), (1, .ref (a 0)), (2, .ref (a 30)), (4, .int (nI (w 30 37))), (5, .int (nI (w 30 0 ^ w 30 37))), (6, .ref (a 31))]) hx hb dL_law_1218 hl (by decide) rfl (fun ls hl => ?_)
        have L1220 : ∀ (n : Nat) (v : Nat → Nat → Nat) (c : Nat → Nat → Int32) (k : Nat) (p1 : Nat → Nat) (H : Heap) (locs : List Loc) (ls : Array Slot), w 30 (9 + dd) - k < n → (XI v) → (k ≤ w 30 (9 + dd)) → (AL (w 30) v) → (c 2 3 = -1) → (SH1 v c) → (∀ q, q < 24 → p1 q < 8) → va_P D vwCl (jW a cI cJ cZ v c (va_up w 31 (p1))) H → va_D A (jW a cI cJ cZ v c (va_up w 31 (p1))) → va_S A s.heap H locs → lv_has ls 19 [(9, .int (nI (k))), (0, .ref b), (1, .ref (a 0)), (2, .ref (a 30)), (4, .int (nI (w 30 37))), (5, .int (nI (w 30 0 ^ w 30 37))), (6, .ref (a 31)), (8, .int (nI (dd)))] → W p l e room_1 s m args below meth c0 H locs 29 706 Q (F0 m 1220 ls []) := by
          intro n
          induction n with
          | zero => intro v c k p1 H locs ls hm; exact absurd hm (Nat.not_lt_zero _)
          | succ n ih1220 =>
            intro v c k p1 H locs ls hm1220 hI hk hAL hc3 hs hp1 hP hD hS hl
            refine lv_iload hx hb dL_law_1220 (lv_at hl 0 rfl) ?_
            refine lv_aload_n hx hb dL_law_1222 rfl (lv_at hl 3 rfl) ?_
            refine lv_bipush (v := nI (9)) hx hb dL_law_1223 (by decide) ?_
            refine lv_iload hx hb dL_law_1225 (lv_at hl 7 rfl) ?_
            refine w_iadd (x := 9) (y := dd) hx hb dL_law_1227  ?_
            refine w_iald (f := w 30) hx hb hK hP 26 0 rfl rfl (i := 9 + dd) (by omega) (by decide) dL_law_1228 ?_
            refine w_icmp_ge (x := k) (y := w 30 (9 + dd)) hx hb dL_law_1229 (tgt := 1347) (by decide) (by omega) (by omega) (fun c1229 => ?_) (fun c1229 => ?_)
            · skip
              refine lv_iinc (v := nI (dd + 1)) (lv' := [(8, .int (nI (dd + 1))), (9, .int (nI (k))), (0, .ref b), (1, .ref (a 0)), (2, .ref (a 30)), (4, .int (nI (w 30 37))), (5, .int (nI (w 30 0 ^ w 30 37))), (6, .ref (a 31))]) hx hb dL_law_1347 hl (k := 7) rfl (nI_add dd 1) (by decide) rfl (fun ls hl => ?_)
              refine lv_goto (tgt := 1209) hx hb dL_law_1350 (by decide) ?_
              exact ih1209 v c (dd + 1) p1 _ _ _ (by omega) (by exact hI) (by omega) (by exact hAL) (by exact hc3) (by exact hs) (by exact hp1) hP hD hS (lv_sub hl [0, 2, 3, 4, 5, 6, 7] rfl)
            · skip
              have hbk : k < w 30 (9 + dd) := c1229
              have hfg := g7 dd k hdd2 hbk
              refine lv_lconst (v := lN 0) hx hb dL_law_1232 (by decide) ?_
              refine lv_lstore (lv' := [(10, .long (lN (0))), (9, .int (nI (k))), (0, .ref b), (1, .ref (a 0)), (2, .ref (a 30)), (4, .int (nI (w 30 37))), (5, .int (nI (w 30 0 ^ w 30 37))), (6, .ref (a 31)), (8, .int (nI (dd)))]) hx hb dL_law_1233 hl (by decide) rfl (fun ls hl => ?_)
              refine lv_iconst (v := nI (0)) hx hb dL_law_1235 (by decide) ?_
              refine lv_istore (lv' := [(12, .int (nI (0))), (10, .long (lN (0))), (9, .int (nI (k))), (0, .ref b), (1, .ref (a 0)), (2, .ref (a 30)), (4, .int (nI (w 30 37))), (5, .int (nI (w 30 0 ^ w 30 37))), (6, .ref (a 31)), (8, .int (nI (dd)))]) hx hb dL_law_1236 hl (by decide) rfl (fun ls hl => ?_)
              have L1238 : ∀ (n : Nat) (mm : Nat) (i : Nat) (p1 : Nat → Nat) (H : Heap) (locs : List Loc) (ls : Array Slot), w 30 0 ^ w 30 37 - i < n → (i ≤ w 30 0 ^ w 30 37) → (mm = sm (ICR (w 30) (gFG (w 30) dd k)) i) → (∀ q, q < 24 → p1 q < 8) → va_P D vwCl (jW a cI cJ cZ v c (va_up w 31 (p1))) H → va_D A (jW a cI cJ cZ v c (va_up w 31 (p1))) → va_S A s.heap H locs → lv_has ls 19 [(10, .long (lN (mm))), (12, .int (nI (i))), (0, .ref b), (1, .ref (a 0)), (2, .ref (a 30)), (4, .int (nI (w 30 37))), (5, .int (nI (w 30 0 ^ w 30 37))), (6, .ref (a 31)), (8, .int (nI (dd))), (9, .int (nI (k)))] → W p l e room_1 s m args below meth c0 H locs 29 706 Q (F0 m 1238 ls []) := by
                intro n
                induction n with
                | zero => intro mm i p1 H locs ls hm; exact absurd hm (Nat.not_lt_zero _)
                | succ n ih1238 =>
                  intro mm i p1 H locs ls hm1238 hi hmm hp1 hP hD hS hl
                  refine lv_iload hx hb dL_law_1238 (lv_at hl 1 rfl) ?_
                  refine lv_iload hx hb dL_law_1240 (lv_at hl 6 rfl) ?_
                  refine w_icmp_ge (x := i) (y := w 30 0 ^ w 30 37) hx hb dL_law_1242 (tgt := 1325) (by decide) (by omega) (by omega) (fun c1242 => ?_) (fun c1242 => ?_)
                  · skip
                    have ei : i = w 30 0 ^ w 30 37 := by omega
                    rw [ei] at hmm
                    refine lv_aload_n hx hb dL_law_1325 rfl (lv_at hl 3 rfl) ?_
                    refine lv_iload hx hb dL_law_1326 (lv_at hl 8 rfl) ?_
                    refine lv_iload hx hb dL_law_1328 (lv_at hl 9 rfl) ?_
                    refine l_clJ (W1 := (xW a cI cJ cZ v c)) (W2 := (lA3 a cI (va_up w 31 (p1)))) (rest := []) hx hb hml hown hts (t_plans l D a cI cJ cZ (va_A (xW a cI cJ cZ v c) H.size) v c (nI (dd)) (nI (k)) hI) 2 gL_law_X6_plans rfl hdX6_plans ⟨Nat.le_of_ble_eq_true rfl, Nat.le_of_ble_eq_true rfl⟩ hK hN hP hD hS hA 0 6 rfl rfl rfl rfl hl.1 rfl (Nat.le_of_ble_eq_true rfl) dL_law_1330 ⟨Nat.le_of_ble_eq_true rfl, Nat.le_of_ble_eq_true rfl⟩ (fun r_1330 u H locs hq_1330 hP hD hS => ?_)
                    obtain ⟨v_1330, c_1330⟩ := u
                    have hX_1330 : XS v c (v_1330, c_1330) _ := hq_1330.2
                    have hI_1330 : XI v_1330 := hX_1330.1
                    have hP : va_P D vwCl (jW a cI cJ cZ v_1330 c_1330 (va_up w 31 (p1))) H := hP
                    have hD : va_D A (jW a cI cJ cZ v_1330 c_1330 (va_up w 31 (p1))) := hD
                    have hr_1330 : r_1330 = lN (mm) := by exact plans_ok hI hAL hgl hgd hdd2 hbk hmm hq_1330.1
                    subst hr_1330
                    refine lv_lload hx hb dL_law_1333 (lv_at hl 0 rfl) ?_
                    refine W.lcmp hx hb dL_law_1335 ?_
                    rw [lcmp_0 rfl, show (0 : Int32) = nI 0 from rfl]
                    refine w_if_eq (x := 0) hx hb dL_law_1336 (tgt := 1341) (by decide) (by decide) (fun _ => ?_) (fun h => absurd h (by decide))
                    refine lv_iinc (v := nI (k + 1)) (lv' := [(9, .int (nI (k + 1))), (10, .long (lN (mm))), (12, .int (nI (i))), (0, .ref b), (1, .ref (a 0)), (2, .ref (a 30)), (4, .int (nI (w 30 37))), (5, .int (nI (w 30 0 ^ w 30 37))), (6, .ref (a 31)), (8, .int (nI (dd)))]) hx hb dL_law_1341 hl (k := 9) rfl (nI_add k 1) (by decide) rfl (fun ls hl => ?_)
                    refine lv_goto (tgt := 1220) hx hb dL_law_1344 (by decide) ?_
                    exact ih1220 v_1330 c_1330 (k + 1) p1 _ _ _ (by omega) (by exact hI_1330) (by omega) (by exact AL_xs hAL hX_1330) (by exact (congrFun (XS_c hX_1330).1 3).trans hc3) (by exact SH_xs hs hX_1330) (by exact hp1) hP hD hS (lv_sub hl [0, 3, 4, 5, 6, 7, 8, 9] rfl)
                  · skip
                    refine lv_iload hx hb dL_law_1245 (lv_at hl 1 rfl) ?_
                    refine lv_istore (lv' := [(13, .int (nI (i))), (10, .long (lN (mm))), (12, .int (nI (i))), (0, .ref b), (1, .ref (a 0)), (2, .ref (a 30)), (4, .int (nI (w 30 37))), (5, .int (nI (w 30 0 ^ w 30 37))), (6, .ref (a 31)), (8, .int (nI (dd))), (9, .int (nI (k)))]) hx hb dL_law_1247 hl (by decide) rfl (fun ls hl => ?_)
                    refine lv_iload hx hb dL_law_1249 (lv_at hl 6 rfl) ?_
                    refine lv_iconst (v := nI (1)) hx hb dL_law_1251 (by decide) ?_
                    refine lv_isub hx hb dL_law_1252 ?_
                    refine lv_istore (lv' := [(14, .int ((nI (w 30 37)) - (nI (1)))), (13, .int (nI (i))), (10, .long (lN (mm))), (12, .int (nI (i))), (0, .ref b), (1, .ref (a 0)), (2, .ref (a 30)), (4, .int (nI (w 30 37))), (5, .int (nI (w 30 0 ^ w 30 37))), (6, .ref (a 31)), (8, .int (nI (dd))), (9, .int (nI (k)))]) hx hb dL_law_1253 hl (by decide) rfl (fun ls hl => ?_)
                    have L1255 : ∀ (n : Nat) (z : Int32) (j : Nat) (y1 : Nat) (p1 : Nat → Nat) (H : Heap) (locs : List Loc) (ls : Array Slot), j < n → (j ≤ w 30 37) → (z.toInt = (j : Int) - 1) → (y1 = i / w 30 0 ^ (w 30 37 - j)) → (y1 ≤ 64) → (∀ e, j ≤ e → e < w 30 37 → p1 e = digf (w 30 0) (w 30 37) i e) → (∀ q, q < 24 → p1 q < 8) → va_P D vwCl (jW a cI cJ cZ v c (va_up w 31 (p1))) H → va_D A (jW a cI cJ cZ v c (va_up w 31 (p1))) → va_S A s.heap H locs → lv_has ls 19 [(13, .int (nI (y1))), (14, .int z), (0, .ref b), (1, .ref (a 0)), (2, .ref (a 30)), (4, .int (nI (w 30 37))), (5, .int (nI (w 30 0 ^ w 30 37))), (6, .ref (a 31)), (8, .int (nI (dd))), (9, .int (nI (k))), (10, .long (lN (mm))), (12, .int (nI (i)))] → W p l e room_1 s m args below meth c0 H locs 29 706 Q (F0 m 1255 ls []) := by
                      intro n
                      induction n with
                      | zero => intro z j y1 p1 H locs ls hm; exact absurd hm (Nat.not_lt_zero _)
                      | succ n ih1255 =>
                        intro z j y1 p1 H locs ls hm1255 hj hz hy1 hyl hdg hp1 hP hD hS hl
                        refine lv_iload hx hb dL_law_1255 (lv_at hl 1 rfl) ?_
                        refine r_if_lt hx hb dL_law_1257 (tgt := 1285) (by decide) (fun c1257 => ?_) (fun c1257 => ?_)
                        · skip
                          have ej : j = 0 := by omega
                          subst ej
                          refine lv_lload hx hb dL_law_1285 (lv_at hl 10 rfl) ?_
                          refine lv_aload_n hx hb dL_law_1287 rfl (lv_at hl 4 rfl) ?_
                          refine lv_aload hx hb dL_law_1288 (lv_at hl 7 rfl) ?_
                          refine lv_iconst (v := nI (0)) hx hb dL_law_1290 (by decide) ?_
                          refine lv_iconst (v := nI (0)) hx hb dL_law_1291 (by decide) ?_
                          refine l_pSi (W1 := (lfW (f2 (a 30) (a 31)) cI cJ cZ (v2 (w 30) (p1)) c)) (rest := [.long (lN (mm))]) hx hb hml hown hts (k_felt0 l D (f2 (a 30) (a 31)) cI cJ cZ (va_A (lfW (f2 (a 30) (a 31)) cI cJ cZ (v2 (w 30) (p1)) c) H.size) (v2 (w 30) (p1)) c 0 (by exact hgl) (by exact hgd) (by exact hp1) (by omega)) 4 gL_law_L_felt rfl hdL_felt ⟨Nat.le_of_ble_eq_true rfl, Nat.le_of_ble_eq_true rfl⟩ hK hN hP hD hS hA [26, 27] rfl rfl rfl rfl hl.1 rfl (Nat.le_of_ble_eq_true rfl) dL_law_1292 ⟨Nat.le_of_ble_eq_true rfl, Nat.le_of_ble_eq_true rfl⟩ (fun r H locs hq_1292 hP hS => ?_)
                          have hr_1292 : r = nI (fE0 (w 30) (p1) (0)) := hq_1292
                          subst hr_1292
                          have hP : va_P D vwCl (jW a cI cJ cZ v c (va_up w 31 (p1))) H := hP
                          have hD : va_D A (jW a cI cJ cZ v c (va_up w 31 (p1))) := hD
                          have h16 := fE0_lt (p := p1) (k := 0) g2
                          refine lv_aload_n hx hb dL_law_1295 rfl (lv_at hl 4 rfl) ?_
                          refine lv_bipush (v := nI (13)) hx hb dL_law_1296 (by decide) ?_
                          refine lv_bipush (v := nI (6)) hx hb dL_law_1298 (by decide) ?_
                          refine lv_iload hx hb dL_law_1300 (lv_at hl 8 rfl) ?_
                          refine w_imul (x := 6) (y := dd) hx hb dL_law_1302  ?_
                          refine w_iadd (x := 13) (y := 6 * dd) hx hb dL_law_1303  ?_
                          refine lv_iload hx hb dL_law_1304 (lv_at hl 9 rfl) ?_
                          refine w_iadd (x := 13 + (6 * dd)) (y := k) hx hb dL_law_1306  ?_
                          refine w_iald (f := w 30) hx hb hK hP 26 0 rfl rfl (i := 13 + (6 * dd) + k) (by omega) (by decide) dL_law_1307 ?_
                          refine w_icmp_ne (x := fE0 (w 30) (p1) (0)) (y := w 30 (13 + (6 * dd) + k)) hx hb dL_law_1308 (tgt := 1315) (by decide) (by omega) (by omega) (fun c1308 => ?_) (fun c1308 => ?_)
                          · skip
                            refine lv_lconst (v := lN 0) hx hb dL_law_1315 (by decide) ?_
                            refine lv_ladd hx hb dL_law_1316 ?_
                            rw [lN_add]
                            refine lv_lstore (lv' := [(10, .long (lN (mm + 0))), (13, .int (nI (y1))), (14, .int z), (0, .ref b), (1, .ref (a 0)), (2, .ref (a 30)), (4, .int (nI (w 30 37))), (5, .int (nI (w 30 0 ^ w 30 37))), (6, .ref (a 31)), (8, .int (nI (dd))), (9, .int (nI (k))), (12, .int (nI (i)))]) hx hb dL_law_1317 hl (by decide) rfl (fun ls hl => ?_)
                            refine lv_iinc (v := nI (i + 1)) (lv' := [(12, .int (nI (i + 1))), (10, .long (lN (mm + 0))), (13, .int (nI (y1))), (14, .int z), (0, .ref b), (1, .ref (a 0)), (2, .ref (a 30)), (4, .int (nI (w 30 37))), (5, .int (nI (w 30 0 ^ w 30 37))), (6, .ref (a 31)), (8, .int (nI (dd))), (9, .int (nI (k)))]) hx hb dL_law_1319 hl (k := 11) rfl (nI_add i 1) (by decide) rfl (fun ls hl => ?_)
                            refine lv_goto (tgt := 1238) hx hb dL_law_1322 (by decide) ?_
                            exact ih1238 (mm + 0) (i + 1) p1 _ _ _ (by omega) (by omega) (by first | exact ic_y n1 hmm (fun e he => hdg e (Nat.zero_le _) he) c1308 | exact ic_n n1 hmm (fun e he => hdg e (Nat.zero_le _) he) c1308) (by exact hp1) hP hD hS (lv_sub hl [1, 0, 4, 5, 6, 7, 8, 9, 10, 11] rfl)
                          · skip
                            refine lv_lconst (v := lN 1) hx hb dL_law_1311 (by decide) ?_
                            refine lv_goto (tgt := 1316) hx hb dL_law_1312 (by decide) ?_
                            refine lv_ladd hx hb dL_law_1316 ?_
                            rw [lN_add]
                            refine lv_lstore (lv' := [(10, .long (lN (mm + 1))), (13, .int (nI (y1))), (14, .int z), (0, .ref b), (1, .ref (a 0)), (2, .ref (a 30)), (4, .int (nI (w 30 37))), (5, .int (nI (w 30 0 ^ w 30 37))), (6, .ref (a 31)), (8, .int (nI (dd))), (9, .int (nI (k))), (12, .int (nI (i)))]) hx hb dL_law_1317 hl (by decide) rfl (fun ls hl => ?_)
                            refine lv_iinc (v := nI (i + 1)) (lv' := [(12, .int (nI (i + 1))), (10, .long (lN (mm + 1))), (13, .int (nI (y1))), (14, .int z), (0, .ref b), (1, .ref (a 0)), (2, .ref (a 30)), (4, .int (nI (w 30 37))), (5, .int (nI (w 30 0 ^ w 30 37))), (6, .ref (a 31)), (8, .int (nI (dd))), (9, .int (nI (k)))]) hx hb dL_law_1319 hl (k := 11) rfl (nI_add i 1) (by decide) rfl (fun ls hl => ?_)
                            refine lv_goto (tgt := 1238) hx hb dL_law_1322 (by decide) ?_
                            exact ih1238 (mm + 1) (i + 1) p1 _ _ _ (by omega) (by omega) (by first | exact ic_y n1 hmm (fun e he => hdg e (Nat.zero_le _) he) c1308 | exact ic_n n1 hmm (fun e he => hdg e (Nat.zero_le _) he) c1308) (by exact hp1) hP hD hS (lv_sub hl [1, 0, 4, 5, 6, 7, 8, 9, 10, 11] rfl)
                        · skip
                          obtain ⟨z', z'B, rfl⟩ := r_nat c1257
                          have z'T := n_tI z'B
                          have hjj : j = z' + 1 := (by omega)
                          subst hjj
                          refine lv_aload hx hb dL_law_1260 (lv_at hl 7 rfl) ?_
                          refine lv_iload hx hb dL_law_1262 (lv_at hl 1 rfl) ?_
                          refine lv_iload hx hb dL_law_1264 (lv_at hl 0 rfl) ?_
                          refine lv_aload_n hx hb dL_law_1266 rfl (lv_at hl 4 rfl) ?_
                          refine lv_iconst (v := nI (0)) hx hb dL_law_1267 (by decide) ?_
                          refine w_iald (f := w 30) hx hb hK hP 26 0 rfl rfl (i := 0) (by omega) (by decide) dL_law_1268 ?_
                          refine w_irem (x := y1) (y := w 30 0) hx hb dL_law_1269 (by omega) (by omega) (by omega) ?_
                          refine w_iast (f := p1) (w := y1 % (w 30 0)) hx hb hK hP hD hS 27 0 rfl rfl (i := z') (by omega) (by decide) dL_law_1270 (fun H locs hP hD hS => ?_)
                          have hP : va_P D vwCl (jW a cI cJ cZ v c (va_up w 31 (va_up p1 z' (y1 % (w 30 0))))) H := hP
                          have hD : va_D A (jW a cI cJ cZ v c (va_up w 31 (va_up p1 z' (y1 % (w 30 0))))) := hD
                          refine lv_iload hx hb dL_law_1271 (lv_at hl 0 rfl) ?_
                          refine lv_aload_n hx hb dL_law_1273 rfl (lv_at hl 4 rfl) ?_
                          refine lv_iconst (v := nI (0)) hx hb dL_law_1274 (by decide) ?_
                          refine w_iald (f := w 30) hx hb hK hP 26 0 rfl rfl (i := 0) (by omega) (by decide) dL_law_1275 ?_
                          refine w_idiv (x := y1) (y := w 30 0) hx hb dL_law_1276 (by omega) (by omega) (by omega) ?_
                          refine lv_istore (lv' := [(13, .int (nI (y1 / (w 30 0)))), (14, .int (nI (z'))), (0, .ref b), (1, .ref (a 0)), (2, .ref (a 30)), (4, .int (nI (w 30 37))), (5, .int (nI (w 30 0 ^ w 30 37))), (6, .ref (a 31)), (8, .int (nI (dd))), (9, .int (nI (k))), (10, .long (lN (mm))), (12, .int (nI (i)))]) hx hb dL_law_1277 hl (by decide) rfl (fun ls hl => ?_)
                          refine lv_iinc (v := (nI (z')) + -1) (lv' := [(14, .int ((nI (z')) + -1)), (13, .int (nI (y1 / (w 30 0)))), (0, .ref b), (1, .ref (a 0)), (2, .ref (a 30)), (4, .int (nI (w 30 37))), (5, .int (nI (w 30 0 ^ w 30 37))), (6, .ref (a 31)), (8, .int (nI (dd))), (9, .int (nI (k))), (10, .long (lN (mm))), (12, .int (nI (i)))]) hx hb dL_law_1279 hl (k := 1) rfl (rfl) (by decide) rfl (fun ls hl => ?_)
                          refine lv_goto (tgt := 1255) hx hb dL_law_1282 (by decide) ?_
                          exact ih1255 ((nI (z')) + -1) z' (y1 / (w 30 0)) (va_up p1 z' (y1 % (w 30 0))) _ _ _ (by omega) (by omega) (by have h9 := dec_I (x := z') (by omega); exact h9) (by exact (dig_s rfl hj hy1).2) (by exact Nat.le_trans (Nat.div_le_self _ _) hyl) (by exact dg_up0 rfl hdg (dig_s rfl hj hy1).1) (by exact up8 hp1 (by have h9 := Nat.mod_lt y1 (show 0 < w 30 0 by omega); omega)) hP hD hS (lv_sub hl [1, 0, 2, 3, 4, 5, 6, 7, 8, 9, 10, 11] rfl)
                    exact L1255 ((w 30 37) + 1) ((nI (w 30 37)) - (nI (1))) (w 30 37) i p1 _ _ _ (Nat.lt_succ_self _) (by omega) (by have h9 := pk_sub_toInt (a := w 30 37) (b := 1) (by omega) (by decide); omega) (by exact dig_0) (by omega) (by exact fun e h1 h2 => absurd h1 (by omega)) (by exact hp1) hP hD hS (lv_sub hl [1, 0, 4, 5, 6, 7, 8, 9, 10, 11, 2, 3] rfl)
              exact L1238 ((w 30 0 ^ w 30 37 - 0) + 1) 0 0 p1 _ _ _ (Nat.lt_succ_self _) (by exact Nat.zero_le _) (by rfl) (by exact hp1) hP hD hS (lv_sub hl [1, 0, 3, 4, 5, 6, 7, 8, 9, 2] rfl)
        exact L1220 ((w 30 (9 + dd) - 0) + 1) v c 0 p1 _ _ _ (Nat.lt_succ_self _) (by exact hI) (by omega) (by exact hAL) (by exact hc3) (by exact hs) (by exact hp1) hP hD hS (lv_sub hl [0, 2, 3, 4, 5, 6, 7, 1] rfl)
  exact L1209 ((w 30 1 - 0) + 1) v c 0 p1 _ _ _ (Nat.lt_succ_self _) (by exact hI) (by omega) (by exact hAL) (by exact hc3) (by exact hs) (by exact hp1) hP hD hS (lv_sub hl [0, 1, 2, 3, 4, 5, 6] rfl)
