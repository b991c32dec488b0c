/-! ===== the law: what is refused ===== -/
set_option maxHeartbeats 8000000 in
set_option maxRecDepth 100000 in
theorem sg_8 {p : Program} {l : Launch} {e : Env} {s : State} {m : MethodId} {args : Array Value} {below : List Frame} {meth : Method} {c0 : Code} {H : Heap} {locs : List Loc} {Q : State → Prop} {ls : Array Slot} {D : va_G} {a : Nat → Nat} {cI cJ cZ : ClassId} {A : Nat → Prop} {b L : Nat} {xs : Nat → Int32} {v : Nat → Nat → Nat} {c : Nat → Nat → Int32} {w : Nat → Nat → Nat}
    (hx : p.tables.exec = Jvm.exec) (hb : c0.code = cL_law) (hml : c0.maxLocals = 19) (hown : s.vm.findClass RL = some m.cls) (hts : ∀ w ∈ wsL_law, w.before args s = true) (hK : va_K D vwCl (xT cI cJ cZ) s) (hN : gN s) (hA : ∀ q : Nat, s.heap.size ≤ q → A q) (hX : va_X b L xs s s.heap) (hbl : b < s.heap.size) (hbA : ¬ A b) (hL2 : L < 2147483648)
     (p1 : Nat → Nat) (hI : XI v) (hgl : GL (w 30)) (hgd : GD (w 30)) (hAL : AL (w 30) v) (hc3 : c 2 3 = -1) (hs : SH1 v c)
    (hP : va_P D vwCl (jW a cI cJ cZ v c (va_up w 31 (p1))) H) (hD : va_D A (jW a cI cJ cZ v c (va_up w 31 (p1)))) (hS : va_S A s.heap H locs) (hl : lv_has ls 19 [(0, .ref b), (1, .ref (a 0)), (2, .ref (a 30)), (4, .int (nI (w 30 37)))])
    (K : ∀ (v1 : Nat → Nat → Nat) (c1 : Nat → Nat → Int32) (H : Heap) (locs : List Loc) (ls : Array Slot), (XI v1) → va_P D vwCl (jW a cI cJ cZ v1 c1 (va_up w 31 (p1))) H → va_D A (jW a cI cJ cZ v1 c1 (va_up w 31 (p1))) → va_S A s.heap H locs → lv_has ls 19 [(0, .ref b)] → W p l e room_1 s m args below meth c0 H locs 29 706 Q (F0 m 1645 ls [])) :
    W p l e room_1 s m args below meth c0 H locs 29 706 Q (F0 m 1353 ls []) := by
  obtain ⟨⟨g1, g2⟩, ⟨g3, g4⟩, g5, g6, g7⟩ := id hgl
  obtain ⟨n1, n2⟩ := id hgd
  have hrw := rows_le g2 n1
  have g8 := p2_16 g2
  refine lv_aload_n hx hb dL_law_1353 rfl (lv_at hl 1 rfl) ?_
  refine lv_aload_n hx hb dL_law_1354 rfl (lv_at hl 2 rfl) ?_
  refine lv_iconst (v := nI (1)) hx hb dL_law_1355 (by decide) ?_
  refine w_iald (f := w 30) hx hb hK hP 26 0 rfl rfl (i := 1) (by omega) (by decide) dL_law_1356 ?_
  refine l_ciJ (W1 := (xW a cI cJ cZ v c)) (W2 := (lA3 a cI (va_up w 31 (p1)))) (rest := []) hx hb hml hown hts (t_can l D a cI cJ cZ (va_A (xW a cI cJ cZ v c) H.size) v c (nI (w 30 1)) hI) 1 gL_law_X6_can rfl hdX6_can ⟨Nat.le_of_ble_eq_true rfl, Nat.le_of_ble_eq_true rfl⟩ hK hN hP hD hS hA 0 6 rfl rfl rfl rfl hl.1 rfl (Nat.le_of_ble_eq_true rfl) dL_law_1357 ⟨Nat.le_of_ble_eq_true rfl, Nat.le_of_ble_eq_true rfl⟩ (fun r_1357 u H locs hq_1357 hP hD hS => ?_)
  obtain ⟨v_1357, c_1357⟩ := u
  have hX_1357 : XS v c (v_1357, c_1357) _ := hq_1357.2
  have hI_1357 : XI v_1357 := hX_1357.1
  have hP : va_P D vwCl (jW a cI cJ cZ v_1357 c_1357 (va_up w 31 (p1))) H := hP
  have hD : va_D A (jW a cI cJ cZ v_1357 c_1357 (va_up w 31 (p1))) := hD
  have hA_1357 : AL (w 30) v_1357 := AL_xs hAL hX_1357
  have hS_1357 : SH1 v_1357 c_1357 := SH_xs hs hX_1357
  have hC_1357 : c_1357 2 3 = -1 := (congrFun (XS_c hX_1357).1 3).trans hc3
  have hr_1357 : r_1357 = (-1) := by exact can_x hI hAL (nR_ge (Nat.le_refl _) (by omega)) hq_1357.1
  subst hr_1357
  refine lv_iconst (v := -1) hx hb dL_law_1360 (by decide) ?_
  refine lv_icmp_ne hx hb dL_law_1361 (tgt := 1649) (by decide) (fun h => absurd h (by decide)) (fun _ => ?_)
  refine lv_aload_n hx hb dL_law_1364 rfl (lv_at hl 1 rfl) ?_
  refine lv_iconst (v := -1) hx hb dL_law_1365 (by decide) ?_
  refine l_ciJ (W1 := (xW a cI cJ cZ v_1357 c_1357)) (W2 := (lA3 a cI (va_up w 31 (p1)))) (rest := []) hx hb hml hown hts (t_can l D a cI cJ cZ (va_A (xW a cI cJ cZ v_1357 c_1357) H.size) v_1357 c_1357 (-1) hI_1357) 1 gL_law_X6_can rfl hdX6_can ⟨Nat.le_of_ble_eq_true rfl, Nat.le_of_ble_eq_true rfl⟩ hK hN hP hD hS hA 0 6 rfl rfl rfl rfl hl.1 rfl (Nat.le_of_ble_eq_true rfl) dL_law_1366 ⟨Nat.le_of_ble_eq_true rfl, Nat.le_of_ble_eq_true rfl⟩ (fun r_1366 u H locs hq_1366 hP hD hS => ?_)
  obtain ⟨v_1366, c_1366⟩ := u
  have hX_1366 : XS v_1357 c_1357 (v_1366, c_1366) _ := hq_1366.2
  have hI_1366 : XI v_1366 := hX_1366.1
  have hP : va_P D vwCl (jW a cI cJ cZ v_1366 c_1366 (va_up w 31 (p1))) H := hP
  have hD : va_D A (jW a cI cJ cZ v_1366 c_1366 (va_up w 31 (p1))) := hD
  have hA_1366 : AL (w 30) v_1366 := AL_xs hA_1357 hX_1366
  have hS_1366 : SH1 v_1366 c_1366 := SH_xs hS_1357 hX_1366
  have hC_1366 : c_1366 2 3 = -1 := (congrFun (XS_c hX_1366).1 3).trans hC_1357
  have hr_1366 : r_1366 = (-1) := by exact can_x hI_1357 hA_1357 (nR_m1 (by omega)) hq_1366.1
  subst hr_1366
  refine lv_iconst (v := -1) hx hb dL_law_1369 (by decide) ?_
  refine lv_icmp_ne hx hb dL_law_1370 (tgt := 1649) (by decide) (fun h => absurd h (by decide)) (fun _ => ?_)
  refine lv_aload_n hx hb dL_law_1373 rfl (lv_at hl 1 rfl) ?_
  refine lv_aload_n hx hb dL_law_1374 rfl (lv_at hl 2 rfl) ?_
  refine lv_iconst (v := nI (1)) hx hb dL_law_1375 (by decide) ?_
  refine w_iald (f := w 30) hx hb hK hP 26 0 rfl rfl (i := 1) (by omega) (by decide) dL_law_1376 ?_
  refine lv_iconst (v := nI (0)) hx hb dL_law_1377 (by decide) ?_
  refine lv_iconst (v := nI (0)) hx hb dL_law_1378 (by decide) ?_
  refine l_ciJ (W1 := (xW a cI cJ cZ v_1366 c_1366)) (W2 := (lA3 a cI (va_up w 31 (p1)))) (rest := []) hx hb hml hown hts (t_plan l D a cI cJ cZ (va_A (xW a cI cJ cZ v_1366 c_1366) H.size) v_1366 c_1366 (nI (w 30 1)) (nI (0)) (nI (0)) hI_1366) 3 gL_law_X6_plan rfl hdX6_plan ⟨Nat.le_of_ble_eq_true rfl, Nat.le_of_ble_eq_true rfl⟩ hK hN hP hD hS hA 0 6 rfl rfl rfl rfl hl.1 rfl (Nat.le_of_ble_eq_true rfl) dL_law_1379 ⟨Nat.le_of_ble_eq_true rfl, Nat.le_of_ble_eq_true rfl⟩ (fun r_1379 u H locs hq_1379 hP hD hS => ?_)
  obtain ⟨v_1379, c_1379⟩ := u
  have hX_1379 : XS v_1366 c_1366 (v_1379, c_1379) _ := hq_1379.2
  have hI_1379 : XI v_1379 := hX_1379.1
  have hP : va_P D vwCl (jW a cI cJ cZ v_1379 c_1379 (va_up w 31 (p1))) H := hP
  have hD : va_D A (jW a cI cJ cZ v_1379 c_1379 (va_up w 31 (p1))) := hD
  have hA_1379 : AL (w 30) v_1379 := AL_xs hA_1366 hX_1379
  have hS_1379 : SH1 v_1379 c_1379 := SH_xs hS_1366 hX_1379
  have hC_1379 : c_1379 2 3 = -1 := (congrFun (XS_c hX_1379).1 3).trans hC_1366
  have hr_1379 : r_1379 = (-1) := by exact plan_x hI_1366 hA_1366 (px_1 (nR_ge (Nat.le_refl _) (by omega))) hq_1379.1
  subst hr_1379
  refine lv_iconst (v := -1) hx hb dL_law_1382 (by decide) ?_
  refine lv_icmp_ne hx hb dL_law_1383 (tgt := 1649) (by decide) (fun h => absurd h (by decide)) (fun _ => ?_)
  refine lv_aload_n hx hb dL_law_1386 rfl (lv_at hl 1 rfl) ?_
  refine lv_iconst (v := nI (0)) hx hb dL_law_1387 (by decide) ?_
  refine lv_aload_n hx hb dL_law_1388 rfl (lv_at hl 2 rfl) ?_
  refine lv_bipush (v := nI (9)) hx hb dL_law_1389 (by decide) ?_
  refine w_iald (f := w 30) hx hb hK hP 26 0 rfl rfl (i := 9) (by omega) (by decide) dL_law_1391 ?_
  refine lv_iconst (v := nI (0)) hx hb dL_law_1392 (by decide) ?_
  refine l_ciJ (W1 := (xW a cI cJ cZ v_1379 c_1379)) (W2 := (lA3 a cI (va_up w 31 (p1)))) (rest := []) hx hb hml hown hts (t_plan l D a cI cJ cZ (va_A (xW a cI cJ cZ v_1379 c_1379) H.size) v_1379 c_1379 (nI (0)) (nI (w 30 9)) (nI (0)) hI_1379) 3 gL_law_X6_plan rfl hdX6_plan ⟨Nat.le_of_ble_eq_true rfl, Nat.le_of_ble_eq_true rfl⟩ hK hN hP hD hS hA 0 6 rfl rfl rfl rfl hl.1 rfl (Nat.le_of_ble_eq_true rfl) dL_law_1393 ⟨Nat.le_of_ble_eq_true rfl, Nat.le_of_ble_eq_true rfl⟩ (fun r_1393 u H locs hq_1393 hP hD hS => ?_)
  obtain ⟨v_1393, c_1393⟩ := u
  have hX_1393 : XS v_1379 c_1379 (v_1393, c_1393) _ := hq_1393.2
  have hI_1393 : XI v_1393 := hX_1393.1
  have hP : va_P D vwCl (jW a cI cJ cZ v_1393 c_1393 (va_up w 31 (p1))) H := hP
  have hD : va_D A (jW a cI cJ cZ v_1393 c_1393 (va_up w 31 (p1))) := hD
  have hA_1393 : AL (w 30) v_1393 := AL_xs hA_1379 hX_1393
  have hS_1393 : SH1 v_1393 c_1393 := SH_xs hS_1379 hX_1393
  have hC_1393 : c_1393 2 3 = -1 := (congrFun (XS_c hX_1393).1 3).trans hC_1379
  have hr_1393 : r_1393 = (-1) := by exact plan_x hI_1379 hA_1379 (px_2 (f := gBT (w 30)) g4 (g6 0 (by omega)).2) hq_1393.1
  subst hr_1393
  refine lv_iconst (v := -1) hx hb dL_law_1396 (by decide) ?_
  refine lv_icmp_ne hx hb dL_law_1397 (tgt := 1649) (by decide) (fun h => absurd h (by decide)) (fun _ => ?_)
  refine lv_aload_n hx hb dL_law_1400 rfl (lv_at hl 1 rfl) ?_
  refine lv_iconst (v := nI (0)) hx hb dL_law_1401 (by decide) ?_
  refine lv_iconst (v := nI (0)) hx hb dL_law_1402 (by decide) ?_
  refine lv_iload hx hb dL_law_1403 (lv_at hl 3 rfl) ?_
  refine l_ciJ (W1 := (xW a cI cJ cZ v_1393 c_1393)) (W2 := (lA3 a cI (va_up w 31 (p1)))) (rest := []) hx hb hml hown hts (t_plan l D a cI cJ cZ (va_A (xW a cI cJ cZ v_1393 c_1393) H.size) v_1393 c_1393 (nI (0)) (nI (0)) (nI (w 30 37)) hI_1393) 3 gL_law_X6_plan rfl hdX6_plan ⟨Nat.le_of_ble_eq_true rfl, Nat.le_of_ble_eq_true rfl⟩ hK hN hP hD hS hA 0 6 rfl rfl rfl rfl hl.1 rfl (Nat.le_of_ble_eq_true rfl) dL_law_1405 ⟨Nat.le_of_ble_eq_true rfl, Nat.le_of_ble_eq_true rfl⟩ (fun r_1405 u H locs hq_1405 hP hD hS => ?_)
  obtain ⟨v_1405, c_1405⟩ := u
  have hX_1405 : XS v_1393 c_1393 (v_1405, c_1405) _ := hq_1405.2
  have hI_1405 : XI v_1405 := hX_1405.1
  have hP : va_P D vwCl (jW a cI cJ cZ v_1405 c_1405 (va_up w 31 (p1))) H := hP
  have hD : va_D A (jW a cI cJ cZ v_1405 c_1405 (va_up w 31 (p1))) := hD
  have hA_1405 : AL (w 30) v_1405 := AL_xs hA_1393 hX_1405
  have hS_1405 : SH1 v_1405 c_1405 := SH_xs hS_1393 hX_1405
  have hC_1405 : c_1405 2 3 = -1 := (congrFun (XS_c hX_1405).1 3).trans hC_1393
  have hr_1405 : r_1405 = (-1) := by exact plan_x hI_1393 hA_1393 (px_3 n1) hq_1405.1
  subst hr_1405
  refine lv_iconst (v := -1) hx hb dL_law_1408 (by decide) ?_
  refine lv_icmp_ne hx hb dL_law_1409 (tgt := 1649) (by decide) (fun h => absurd h (by decide)) (fun _ => ?_)
  refine lv_aload_n hx hb dL_law_1412 rfl (lv_at hl 1 rfl) ?_
  refine lv_aload_n hx hb dL_law_1413 rfl (lv_at hl 2 rfl) ?_
  refine lv_iconst (v := nI (1)) hx hb dL_law_1414 (by decide) ?_
  refine w_iald (f := w 30) hx hb hK hP 26 0 rfl rfl (i := 1) (by omega) (by decide) dL_law_1415 ?_
  refine l_ciJ (W1 := (xW a cI cJ cZ v_1405 c_1405)) (W2 := (lA3 a cI (va_up w 31 (p1)))) (rest := []) hx hb hml hown hts (t_limped l D a cI cJ cZ (va_A (xW a cI cJ cZ v_1405 c_1405) H.size) v_1405 c_1405 (nI (w 30 1)) hI_1405) 1 gL_law_X6_limped rfl hdX6_limped ⟨Nat.le_of_ble_eq_true rfl, Nat.le_of_ble_eq_true rfl⟩ hK hN hP hD hS hA 0 6 rfl rfl rfl rfl hl.1 rfl (Nat.le_of_ble_eq_true rfl) dL_law_1416 ⟨Nat.le_of_ble_eq_true rfl, Nat.le_of_ble_eq_true rfl⟩ (fun r_1416 u H locs hq_1416 hP hD hS => ?_)
  obtain ⟨v_1416, c_1416⟩ := u
  have hX_1416 : XS v_1405 c_1405 (v_1416, c_1416) _ := hq_1416.2
  have hI_1416 : XI v_1416 := hX_1416.1
  have hP : va_P D vwCl (jW a cI cJ cZ v_1416 c_1416 (va_up w 31 (p1))) H := hP
  have hD : va_D A (jW a cI cJ cZ v_1416 c_1416 (va_up w 31 (p1))) := hD
  have hA_1416 : AL (w 30) v_1416 := AL_xs hA_1405 hX_1416
  have hS_1416 : SH1 v_1416 c_1416 := SH_xs hS_1405 hX_1416
  have hC_1416 : c_1416 2 3 = -1 := (congrFun (XS_c hX_1416).1 3).trans hC_1405
  have hr_1416 : r_1416 = (-1) := by exact lim_x hI_1405 hA_1405 (nR_ge (Nat.le_refl _) (by omega)) hq_1416.1
  subst hr_1416
  refine lv_iconst (v := -1) hx hb dL_law_1419 (by decide) ?_
  refine lv_icmp_ne hx hb dL_law_1420 (tgt := 1649) (by decide) (fun h => absurd h (by decide)) (fun _ => ?_)
  refine lv_aload_n hx hb dL_law_1423 rfl (lv_at hl 1 rfl) ?_
  refine lv_iconst (v := nI (0)) hx hb dL_law_1424 (by decide) ?_
  refine lv_aload_n hx hb dL_law_1425 rfl (lv_at hl 2 rfl) ?_
  refine lv_bipush (v := nI (9)) hx hb dL_law_1426 (by decide) ?_
  refine w_iald (f := w 30) hx hb hK hP 26 0 rfl rfl (i := 9) (by omega) (by decide) dL_law_1428 ?_
  refine l_clJ (W1 := (xW a cI cJ cZ v_1416 c_1416)) (W2 := (lA3 a cI (va_up w 31 (p1)))) (rest := []) hx hb hml hown hts (t_plans l D a cI cJ cZ (va_A (xW a cI cJ cZ v_1416 c_1416) H.size) v_1416 c_1416 (nI (0)) (nI (w 30 9)) hI_1416) 2 gL_law_X6_plans rfl hdX6_plans ⟨Nat.le_of_ble_eq_true rfl, Nat.le_of_ble_eq_true rfl⟩ hK hN hP hD hS hA 0 6 rfl rfl rfl rfl hl.1 rfl (Nat.le_of_ble_eq_true rfl) dL_law_1429 ⟨Nat.le_of_ble_eq_true rfl, Nat.le_of_ble_eq_true rfl⟩ (fun r_1429 u H locs hq_1429 hP hD hS => ?_)
  obtain ⟨v_1429, c_1429⟩ := u
  have hX_1429 : XS v_1416 c_1416 (v_1429, c_1429) _ := hq_1429.2
  have hI_1429 : XI v_1429 := hX_1429.1
  have hP : va_P D vwCl (jW a cI cJ cZ v_1429 c_1429 (va_up w 31 (p1))) H := hP
  have hD : va_D A (jW a cI cJ cZ v_1429 c_1429 (va_up w 31 (p1))) := hD
  have hA_1429 : AL (w 30) v_1429 := AL_xs hA_1416 hX_1429
  have hS_1429 : SH1 v_1429 c_1429 := SH_xs hS_1416 hX_1429
  have hC_1429 : c_1429 2 3 = -1 := (congrFun (XS_c hX_1429).1 3).trans hC_1416
  have hr_1429 : r_1429 = (-9223372036854775808) := by exact plans_x hI_1416 hA_1416 (px_4 (f := gBT (w 30)) g4 (g6 0 (by omega)).2) hq_1429.1
  subst hr_1429
  refine lv_ldc2 (own := RL) hx hb hown (hts (.constantLong RL 76 (-9223372036854775808)) (List.mem_of_getElem? (i := 4) rfl)) dL_law_1432 ?_
  refine W.lcmp hx hb dL_law_1435 ?_
  rw [lcmp_0 rfl, show (0 : Int32) = nI 0 from rfl]
  refine w_if_ne (x := 0) hx hb dL_law_1436 (tgt := 1649) (by decide) (by decide) (fun h => absurd h (by decide)) (fun _ => ?_)
  refine lv_aload_n hx hb dL_law_1439 rfl (lv_at hl 1 rfl) ?_
  refine lv_aload_n hx hb dL_law_1440 rfl (lv_at hl 2 rfl) ?_
  refine lv_iconst (v := nI (1)) hx hb dL_law_1441 (by decide) ?_
  refine w_iald (f := w 30) hx hb hK hP 26 0 rfl rfl (i := 1) (by omega) (by decide) dL_law_1442 ?_
  refine lv_iconst (v := nI (0)) hx hb dL_law_1443 (by decide) ?_
  refine l_clJ (W1 := (xW a cI cJ cZ v_1429 c_1429)) (W2 := (lA3 a cI (va_up w 31 (p1)))) (rest := []) hx hb hml hown hts (t_plans l D a cI cJ cZ (va_A (xW a cI cJ cZ v_1429 c_1429) H.size) v_1429 c_1429 (nI (w 30 1)) (nI (0)) hI_1429) 2 gL_law_X6_plans rfl hdX6_plans ⟨Nat.le_of_ble_eq_true rfl, Nat.le_of_ble_eq_true rfl⟩ hK hN hP hD hS hA 0 6 rfl rfl rfl rfl hl.1 rfl (Nat.le_of_ble_eq_true rfl) dL_law_1444 ⟨Nat.le_of_ble_eq_true rfl, Nat.le_of_ble_eq_true rfl⟩ (fun r_1444 u H locs hq_1444 hP hD hS => ?_)
  obtain ⟨v_1444, c_1444⟩ := u
  have hX_1444 : XS v_1429 c_1429 (v_1444, c_1444) _ := hq_1444.2
  have hI_1444 : XI v_1444 := hX_1444.1
  have hP : va_P D vwCl (jW a cI cJ cZ v_1444 c_1444 (va_up w 31 (p1))) H := hP
  have hD : va_D A (jW a cI cJ cZ v_1444 c_1444 (va_up w 31 (p1))) := hD
  have hA_1444 : AL (w 30) v_1444 := AL_xs hA_1429 hX_1444
  have hS_1444 : SH1 v_1444 c_1444 := SH_xs hS_1429 hX_1444
  have hC_1444 : c_1444 2 3 = -1 := (congrFun (XS_c hX_1444).1 3).trans hC_1429
  have hr_1444 : r_1444 = (-9223372036854775808) := by exact plans_x hI_1429 hA_1429 (px_5 (nR_ge (Nat.le_refl _) (by omega))) hq_1444.1
  subst hr_1444
  refine lv_ldc2 (own := RL) hx hb hown (hts (.constantLong RL 76 (-9223372036854775808)) (List.mem_of_getElem? (i := 4) rfl)) dL_law_1447 ?_
  refine W.lcmp hx hb dL_law_1450 ?_
  rw [lcmp_0 rfl, show (0 : Int32) = nI 0 from rfl]
  refine w_if_ne (x := 0) hx hb dL_law_1451 (tgt := 1649) (by decide) (by decide) (fun h => absurd h (by decide)) (fun _ => ?_)
  refine lv_aload_n hx hb dL_law_1454 rfl (lv_at hl 1 rfl) ?_
  refine lv_iconst (v := nI (0)) hx hb dL_law_1455 (by decide) ?_
  refine lv_iconst (v := nI (1)) hx hb dL_law_1456 (by decide) ?_
  refine lv_iconst (v := nI (1)) hx hb dL_law_1457 (by decide) ?_
  refine lv_iconst (v := nI (3)) hx hb dL_law_1458 (by decide) ?_
  refine l_ciJ (W1 := (xW a cI cJ cZ v_1444 c_1444)) (W2 := (lA3 a cI (va_up w 31 (p1)))) (rest := []) hx hb hml hown hts (t_opens l D a cI cJ cZ (va_A (xW a cI cJ cZ v_1444 c_1444) H.size) v_1444 c_1444 (nI (0)) (nI (1)) (nI (1)) (nI (3)) hI_1444) 4 gL_law_X6_opens rfl hdX6_opens ⟨Nat.le_of_ble_eq_true rfl, Nat.le_of_ble_eq_true rfl⟩ hK hN hP hD hS hA 0 6 rfl rfl rfl rfl hl.1 rfl (Nat.le_of_ble_eq_true rfl) dL_law_1459 ⟨Nat.le_of_ble_eq_true rfl, Nat.le_of_ble_eq_true rfl⟩ (fun r_1459 u H locs hq_1459 hP hD hS => ?_)
  obtain ⟨v_1459, c_1459⟩ := u
  obtain ⟨F_1459, hq_1459, hX_1459⟩ := hq_1459
  have hI_1459 : XI v_1459 := hX_1459.1
  have hP : va_P D vwCl (jW a cI cJ cZ v_1459 c_1459 (va_up w 31 (p1))) H := hP
  have hD : va_D A (jW a cI cJ cZ v_1459 c_1459 (va_up w 31 (p1))) := hD
  have hA_1459 : AL (w 30) v_1459 := AL_xs hA_1444 hX_1459
  have hS_1459 : SH1 v_1459 c_1459 := SH_xs hS_1444 hX_1459
  have hC_1459 : c_1459 2 3 = -1 := (congrFun (XS_c hX_1459).1 3).trans hC_1444
  have hr_1459 : r_1459 = (-2) := by exact op_bad no_b0 hq_1459
  subst hr_1459
  refine lv_bipush (v := -2) hx hb dL_law_1462 (by decide) ?_
  refine lv_icmp_ne hx hb dL_law_1464 (tgt := 1649) (by decide) (fun h => absurd h (by decide)) (fun _ => ?_)
  refine lv_aload_n hx hb dL_law_1467 rfl (lv_at hl 1 rfl) ?_
  refine lv_bipush (v := nI (7)) hx hb dL_law_1468 (by decide) ?_
  refine lv_iconst (v := nI (1)) hx hb dL_law_1470 (by decide) ?_
  refine lv_iconst (v := nI (1)) hx hb dL_law_1471 (by decide) ?_
  refine lv_iconst (v := nI (3)) hx hb dL_law_1472 (by decide) ?_
  refine l_ciJ (W1 := (xW a cI cJ cZ v_1459 c_1459)) (W2 := (lA3 a cI (va_up w 31 (p1)))) (rest := []) hx hb hml hown hts (t_opens l D a cI cJ cZ (va_A (xW a cI cJ cZ v_1459 c_1459) H.size) v_1459 c_1459 (nI (7)) (nI (1)) (nI (1)) (nI (3)) hI_1459) 4 gL_law_X6_opens rfl hdX6_opens ⟨Nat.le_of_ble_eq_true rfl, Nat.le_of_ble_eq_true rfl⟩ hK hN hP hD hS hA 0 6 rfl rfl rfl rfl hl.1 rfl (Nat.le_of_ble_eq_true rfl) dL_law_1473 ⟨Nat.le_of_ble_eq_true rfl, Nat.le_of_ble_eq_true rfl⟩ (fun r_1473 u H locs hq_1473 hP hD hS => ?_)
  obtain ⟨v_1473, c_1473⟩ := u
  obtain ⟨F_1473, hq_1473, hX_1473⟩ := hq_1473
  have hI_1473 : XI v_1473 := hX_1473.1
  have hP : va_P D vwCl (jW a cI cJ cZ v_1473 c_1473 (va_up w 31 (p1))) H := hP
  have hD : va_D A (jW a cI cJ cZ v_1473 c_1473 (va_up w 31 (p1))) := hD
  have hA_1473 : AL (w 30) v_1473 := AL_xs hA_1459 hX_1473
  have hS_1473 : SH1 v_1473 c_1473 := SH_xs hS_1459 hX_1473
  have hC_1473 : c_1473 2 3 = -1 := (congrFun (XS_c hX_1473).1 3).trans hC_1459
  have hr_1473 : r_1473 = (-2) := by exact op_bad no_b7 hq_1473
  subst hr_1473
  refine lv_bipush (v := -2) hx hb dL_law_1476 (by decide) ?_
  refine lv_icmp_ne hx hb dL_law_1478 (tgt := 1649) (by decide) (fun h => absurd h (by decide)) (fun _ => ?_)
  refine lv_aload_n hx hb dL_law_1481 rfl (lv_at hl 1 rfl) ?_
  refine lv_iconst (v := nI (1)) hx hb dL_law_1482 (by decide) ?_
  refine lv_iconst (v := nI (4)) hx hb dL_law_1483 (by decide) ?_
  refine lv_iconst (v := nI (1)) hx hb dL_law_1484 (by decide) ?_
  refine lv_iconst (v := nI (3)) hx hb dL_law_1485 (by decide) ?_
  refine l_ciJ (W1 := (xW a cI cJ cZ v_1473 c_1473)) (W2 := (lA3 a cI (va_up w 31 (p1)))) (rest := []) hx hb hml hown hts (t_opens l D a cI cJ cZ (va_A (xW a cI cJ cZ v_1473 c_1473) H.size) v_1473 c_1473 (nI (1)) (nI (4)) (nI (1)) (nI (3)) hI_1473) 4 gL_law_X6_opens rfl hdX6_opens ⟨Nat.le_of_ble_eq_true rfl, Nat.le_of_ble_eq_true rfl⟩ hK hN hP hD hS hA 0 6 rfl rfl rfl rfl hl.1 rfl (Nat.le_of_ble_eq_true rfl) dL_law_1486 ⟨Nat.le_of_ble_eq_true rfl, Nat.le_of_ble_eq_true rfl⟩ (fun r_1486 u H locs hq_1486 hP hD hS => ?_)
  obtain ⟨v_1486, c_1486⟩ := u
  obtain ⟨F_1486, hq_1486, hX_1486⟩ := hq_1486
  have hI_1486 : XI v_1486 := hX_1486.1
  have hP : va_P D vwCl (jW a cI cJ cZ v_1486 c_1486 (va_up w 31 (p1))) H := hP
  have hD : va_D A (jW a cI cJ cZ v_1486 c_1486 (va_up w 31 (p1))) := hD
  have hA_1486 : AL (w 30) v_1486 := AL_xs hA_1473 hX_1486
  have hS_1486 : SH1 v_1486 c_1486 := SH_xs hS_1473 hX_1486
  have hC_1486 : c_1486 2 3 = -1 := (congrFun (XS_c hX_1486).1 3).trans hC_1473
  have hr_1486 : r_1486 = (-1) := by exact tk_sh4 (op_1 hq_1486).choose_spec
  subst hr_1486
  refine lv_iconst (v := -1) hx hb dL_law_1489 (by decide) ?_
  refine lv_icmp_ne hx hb dL_law_1490 (tgt := 1649) (by decide) (fun h => absurd h (by decide)) (fun _ => ?_)
  refine lv_aload_n hx hb dL_law_1493 rfl (lv_at hl 1 rfl) ?_
  refine lv_iconst (v := nI (1)) hx hb dL_law_1494 (by decide) ?_
  refine lv_iconst (v := nI (1)) hx hb dL_law_1495 (by decide) ?_
  refine lv_iconst (v := nI (3)) hx hb dL_law_1496 (by decide) ?_
  refine lv_iconst (v := nI (3)) hx hb dL_law_1497 (by decide) ?_
  refine l_ciJ (W1 := (xW a cI cJ cZ v_1486 c_1486)) (W2 := (lA3 a cI (va_up w 31 (p1)))) (rest := []) hx hb hml hown hts (t_opens l D a cI cJ cZ (va_A (xW a cI cJ cZ v_1486 c_1486) H.size) v_1486 c_1486 (nI (1)) (nI (1)) (nI (3)) (nI (3)) hI_1486) 4 gL_law_X6_opens rfl hdX6_opens ⟨Nat.le_of_ble_eq_true rfl, Nat.le_of_ble_eq_true rfl⟩ hK hN hP hD hS hA 0 6 rfl rfl rfl rfl hl.1 rfl (Nat.le_of_ble_eq_true rfl) dL_law_1498 ⟨Nat.le_of_ble_eq_true rfl, Nat.le_of_ble_eq_true rfl⟩ (fun r_1498 u H locs hq_1498 hP hD hS => ?_)
  obtain ⟨v_1498, c_1498⟩ := u
  obtain ⟨F_1498, hq_1498, hX_1498⟩ := hq_1498
  have hI_1498 : XI v_1498 := hX_1498.1
  have hP : va_P D vwCl (jW a cI cJ cZ v_1498 c_1498 (va_up w 31 (p1))) H := hP
  have hD : va_D A (jW a cI cJ cZ v_1498 c_1498 (va_up w 31 (p1))) := hD
  have hA_1498 : AL (w 30) v_1498 := AL_xs hA_1486 hX_1498
  have hS_1498 : SH1 v_1498 c_1498 := SH_xs hS_1486 hX_1498
  have hC_1498 : c_1498 2 3 = -1 := (congrFun (XS_c hX_1498).1 3).trans hC_1486
  have hr_1498 : r_1498 = (-2) := by exact tk_so3 (op_1 hq_1498).choose_spec
  subst hr_1498
  refine lv_bipush (v := -2) hx hb dL_law_1501 (by decide) ?_
  refine lv_icmp_ne hx hb dL_law_1503 (tgt := 1649) (by decide) (fun h => absurd h (by decide)) (fun _ => ?_)
  refine lv_aload_n hx hb dL_law_1506 rfl (lv_at hl 1 rfl) ?_
  refine lv_iconst (v := nI (1)) hx hb dL_law_1507 (by decide) ?_
  refine lv_iconst (v := nI (1)) hx hb dL_law_1508 (by decide) ?_
  refine lv_iconst (v := nI (2)) hx hb dL_law_1509 (by decide) ?_
  refine lv_iconst (v := nI (3)) hx hb dL_law_1510 (by decide) ?_
  refine l_ciJ (W1 := (xW a cI cJ cZ v_1498 c_1498)) (W2 := (lA3 a cI (va_up w 31 (p1)))) (rest := []) hx hb hml hown hts (t_opens l D a cI cJ cZ (va_A (xW a cI cJ cZ v_1498 c_1498) H.size) v_1498 c_1498 (nI (1)) (nI (1)) (nI (2)) (nI (3)) hI_1498) 4 gL_law_X6_opens rfl hdX6_opens ⟨Nat.le_of_ble_eq_true rfl, Nat.le_of_ble_eq_true rfl⟩ hK hN hP hD hS hA 0 6 rfl rfl rfl rfl hl.1 rfl (Nat.le_of_ble_eq_true rfl) dL_law_1511 ⟨Nat.le_of_ble_eq_true rfl, Nat.le_of_ble_eq_true rfl⟩ (fun r_1511 u H locs hq_1511 hP hD hS => ?_)
  obtain ⟨v_1511, c_1511⟩ := u
  obtain ⟨F_1511, hq_1511, hX_1511⟩ := hq_1511
  have hI_1511 : XI v_1511 := hX_1511.1
  have hP : va_P D vwCl (jW a cI cJ cZ v_1511 c_1511 (va_up w 31 (p1))) H := hP
  have hD : va_D A (jW a cI cJ cZ v_1511 c_1511 (va_up w 31 (p1))) := hD
  have hA_1511 : AL (w 30) v_1511 := AL_xs hA_1498 hX_1511
  have hS_1511 : SH1 v_1511 c_1511 := SH_xs hS_1498 hX_1511
  have hC_1511 : c_1511 2 3 = -1 := (congrFun (XS_c hX_1511).1 3).trans hC_1498
  have hr_1511 : r_1511 = (-12) := by exact tk_12 hS_1498 (op_1 hq_1511).choose_spec
  subst hr_1511
  refine lv_bipush (v := -12) hx hb dL_law_1514 (by decide) ?_
  refine lv_icmp_ne hx hb dL_law_1516 (tgt := 1649) (by decide) (fun h => absurd h (by decide)) (fun _ => ?_)
  refine lv_aload_n hx hb dL_law_1519 rfl (lv_at hl 1 rfl) ?_
  refine lv_iconst (v := nI (1)) hx hb dL_law_1520 (by decide) ?_
  refine lv_iconst (v := nI (1)) hx hb dL_law_1521 (by decide) ?_
  refine lv_iconst (v := nI (1)) hx hb dL_law_1522 (by decide) ?_
  refine lv_bipush (v := nI (31)) hx hb dL_law_1523 (by decide) ?_
  refine l_ciJ (W1 := (xW a cI cJ cZ v_1511 c_1511)) (W2 := (lA3 a cI (va_up w 31 (p1)))) (rest := []) hx hb hml hown hts (t_opens l D a cI cJ cZ (va_A (xW a cI cJ cZ v_1511 c_1511) H.size) v_1511 c_1511 (nI (1)) (nI (1)) (nI (1)) (nI (31)) hI_1511) 4 gL_law_X6_opens rfl hdX6_opens ⟨Nat.le_of_ble_eq_true rfl, Nat.le_of_ble_eq_true rfl⟩ hK hN hP hD hS hA 0 6 rfl rfl rfl rfl hl.1 rfl (Nat.le_of_ble_eq_true rfl) dL_law_1525 ⟨Nat.le_of_ble_eq_true rfl, Nat.le_of_ble_eq_true rfl⟩ (fun r_1525 u H locs hq_1525 hP hD hS => ?_)
  obtain ⟨v_1525, c_1525⟩ := u
  obtain ⟨F_1525, hq_1525, hX_1525⟩ := hq_1525
  have hI_1525 : XI v_1525 := hX_1525.1
  have hP : va_P D vwCl (jW a cI cJ cZ v_1525 c_1525 (va_up w 31 (p1))) H := hP
  have hD : va_D A (jW a cI cJ cZ v_1525 c_1525 (va_up w 31 (p1))) := hD
  have hA_1525 : AL (w 30) v_1525 := AL_xs hA_1511 hX_1525
  have hS_1525 : SH1 v_1525 c_1525 := SH_xs hS_1511 hX_1525
  have hC_1525 : c_1525 2 3 = -1 := (congrFun (XS_c hX_1525).1 3).trans hC_1511
  have hr_1525 : r_1525 = (-13) := by exact tk_13 hS_1511 (by decide) (al_nd hI_1511).2.2 (Or.inr (by decide)) (op_1 hq_1525).choose_spec
  subst hr_1525
  refine lv_bipush (v := -13) hx hb dL_law_1528 (by decide) ?_
  refine lv_icmp_ne hx hb dL_law_1530 (tgt := 1649) (by decide) (fun h => absurd h (by decide)) (fun _ => ?_)
  refine lv_aload_n hx hb dL_law_1533 rfl (lv_at hl 1 rfl) ?_
  refine lv_iconst (v := nI (1)) hx hb dL_law_1534 (by decide) ?_
  refine lv_iconst (v := nI (1)) hx hb dL_law_1535 (by decide) ?_
  refine lv_iconst (v := nI (1)) hx hb dL_law_1536 (by decide) ?_
  refine lv_iconst (v := nI (1)) hx hb dL_law_1537 (by decide) ?_
  refine lv_iconst (v := nI (3)) hx hb dL_law_1538 (by decide) ?_
  refine l_ciJ (W1 := (xW a cI cJ cZ v_1525 c_1525)) (W2 := (lA3 a cI (va_up w 31 (p1)))) (rest := []) hx hb hml hown hts (t_felt l D a cI cJ cZ (va_A (xW a cI cJ cZ v_1525 c_1525) H.size) v_1525 c_1525 (nI (1)) (nI (1)) (nI (1)) (nI (1)) (nI (3)) hI_1525) 5 gL_law_X6_felt rfl hdX6_felt ⟨Nat.le_of_ble_eq_true rfl, Nat.le_of_ble_eq_true rfl⟩ hK hN hP hD hS hA 0 6 rfl rfl rfl rfl hl.1 rfl (Nat.le_of_ble_eq_true rfl) dL_law_1539 ⟨Nat.le_of_ble_eq_true rfl, Nat.le_of_ble_eq_true rfl⟩ (fun r_1539 u H locs hq_1539 hP hD hS => ?_)
  obtain ⟨v_1539, c_1539⟩ := u
  obtain ⟨F_1539, hq_1539, hX_1539⟩ := hq_1539
  have hI_1539 : XI v_1539 := hX_1539.1
  have hP : va_P D vwCl (jW a cI cJ cZ v_1539 c_1539 (va_up w 31 (p1))) H := hP
  have hD : va_D A (jW a cI cJ cZ v_1539 c_1539 (va_up w 31 (p1))) := hD
  have hA_1539 : AL (w 30) v_1539 := AL_xs hA_1525 hX_1539
  have hS_1539 : SH1 v_1539 c_1539 := SH_xs hS_1525 hX_1539
  have hC_1539 : c_1539 2 3 = -1 := (congrFun (XS_c hX_1539).1 3).trans hC_1525
  have hr_1539 : r_1539 = (-2) := by exact fe_bad no_j1 hq_1539
  subst hr_1539
  refine lv_bipush (v := -2) hx hb dL_law_1542 (by decide) ?_
  refine lv_icmp_ne hx hb dL_law_1544 (tgt := 1649) (by decide) (fun h => absurd h (by decide)) (fun _ => ?_)
  refine lv_aload_n hx hb dL_law_1547 rfl (lv_at hl 1 rfl) ?_
  refine lv_iconst (v := nI (1)) hx hb dL_law_1548 (by decide) ?_
  refine lv_iconst (v := -1) hx hb dL_law_1549 (by decide) ?_
  refine lv_iconst (v := nI (1)) hx hb dL_law_1550 (by decide) ?_
  refine lv_iconst (v := nI (1)) hx hb dL_law_1551 (by decide) ?_
  refine lv_iconst (v := nI (3)) hx hb dL_law_1552 (by decide) ?_
  refine l_ciJ (W1 := (xW a cI cJ cZ v_1539 c_1539)) (W2 := (lA3 a cI (va_up w 31 (p1)))) (rest := []) hx hb hml hown hts (t_felt l D a cI cJ cZ (va_A (xW a cI cJ cZ v_1539 c_1539) H.size) v_1539 c_1539 (nI (1)) (-1) (nI (1)) (nI (1)) (nI (3)) hI_1539) 5 gL_law_X6_felt rfl hdX6_felt ⟨Nat.le_of_ble_eq_true rfl, Nat.le_of_ble_eq_true rfl⟩ hK hN hP hD hS hA 0 6 rfl rfl rfl rfl hl.1 rfl (Nat.le_of_ble_eq_true rfl) dL_law_1553 ⟨Nat.le_of_ble_eq_true rfl, Nat.le_of_ble_eq_true rfl⟩ (fun r_1553 u H locs hq_1553 hP hD hS => ?_)
  obtain ⟨v_1553, c_1553⟩ := u
  obtain ⟨F_1553, hq_1553, hX_1553⟩ := hq_1553
  have hI_1553 : XI v_1553 := hX_1553.1
  have hP : va_P D vwCl (jW a cI cJ cZ v_1553 c_1553 (va_up w 31 (p1))) H := hP
  have hD : va_D A (jW a cI cJ cZ v_1553 c_1553 (va_up w 31 (p1))) := hD
  have hA_1553 : AL (w 30) v_1553 := AL_xs hA_1539 hX_1553
  have hS_1553 : SH1 v_1553 c_1553 := SH_xs hS_1539 hX_1553
  have hC_1553 : c_1553 2 3 = -1 := (congrFun (XS_c hX_1553).1 3).trans hC_1539
  have hr_1553 : r_1553 = (-2) := by exact fe_bad no_jm hq_1553
  subst hr_1553
  refine lv_bipush (v := -2) hx hb dL_law_1556 (by decide) ?_
  refine lv_icmp_ne hx hb dL_law_1558 (tgt := 1649) (by decide) (fun h => absurd h (by decide)) (fun _ => ?_)
  refine lv_aload_n hx hb dL_law_1561 rfl (lv_at hl 1 rfl) ?_
  refine lv_iconst (v := nI (1)) hx hb dL_law_1562 (by decide) ?_
  refine lv_iconst (v := nI (0)) hx hb dL_law_1563 (by decide) ?_
  refine lv_iconst (v := nI (3)) hx hb dL_law_1564 (by decide) ?_
  refine lv_iconst (v := nI (1)) hx hb dL_law_1565 (by decide) ?_
  refine lv_iconst (v := nI (3)) hx hb dL_law_1566 (by decide) ?_
  refine l_ciJ (W1 := (xW a cI cJ cZ v_1553 c_1553)) (W2 := (lA3 a cI (va_up w 31 (p1)))) (rest := []) hx hb hml hown hts (t_felt l D a cI cJ cZ (va_A (xW a cI cJ cZ v_1553 c_1553) H.size) v_1553 c_1553 (nI (1)) (nI (0)) (nI (3)) (nI (1)) (nI (3)) hI_1553) 5 gL_law_X6_felt rfl hdX6_felt ⟨Nat.le_of_ble_eq_true rfl, Nat.le_of_ble_eq_true rfl⟩ hK hN hP hD hS hA 0 6 rfl rfl rfl rfl hl.1 rfl (Nat.le_of_ble_eq_true rfl) dL_law_1567 ⟨Nat.le_of_ble_eq_true rfl, Nat.le_of_ble_eq_true rfl⟩ (fun r_1567 u H locs hq_1567 hP hD hS => ?_)
  obtain ⟨v_1567, c_1567⟩ := u
  obtain ⟨F_1567, hq_1567, hX_1567⟩ := hq_1567
  have hI_1567 : XI v_1567 := hX_1567.1
  have hP : va_P D vwCl (jW a cI cJ cZ v_1567 c_1567 (va_up w 31 (p1))) H := hP
  have hD : va_D A (jW a cI cJ cZ v_1567 c_1567 (va_up w 31 (p1))) := hD
  have hA_1567 : AL (w 30) v_1567 := AL_xs hA_1553 hX_1567
  have hS_1567 : SH1 v_1567 c_1567 := SH_xs hS_1553 hX_1567
  have hC_1567 : c_1567 2 3 = -1 := (congrFun (XS_c hX_1567).1 3).trans hC_1553
  have hr_1567 : r_1567 = (-11) := by exact tk_11 hC_1553 (fe_1 hq_1567).choose_spec
  subst hr_1567
  refine lv_bipush (v := -11) hx hb dL_law_1570 (by decide) ?_
  refine lv_icmp_ne hx hb dL_law_1572 (tgt := 1649) (by decide) (fun h => absurd h (by decide)) (fun _ => ?_)
  refine lv_aload_n hx hb dL_law_1575 rfl (lv_at hl 1 rfl) ?_
  refine lv_aload_n hx hb dL_law_1576 rfl (lv_at hl 2 rfl) ?_
  refine lv_iconst (v := nI (1)) hx hb dL_law_1577 (by decide) ?_
  refine w_iald (f := w 30) hx hb hK hP 26 0 rfl rfl (i := 1) (by omega) (by decide) dL_law_1578 ?_
  refine lv_iconst (v := nI (1)) hx hb dL_law_1579 (by decide) ?_
  refine lv_iconst (v := nI (1)) hx hb dL_law_1580 (by decide) ?_
  refine lv_iconst (v := nI (3)) hx hb dL_law_1581 (by decide) ?_
  refine l_ciJ (W1 := (xW a cI cJ cZ v_1567 c_1567)) (W2 := (lA3 a cI (va_up w 31 (p1)))) (rest := []) hx hb hml hown hts (t_wrong l D a cI cJ cZ (va_A (xW a cI cJ cZ v_1567 c_1567) H.size) v_1567 c_1567 (nI (w 30 1)) (nI (1)) (nI (1)) (nI (3)) hI_1567) 4 gL_law_X6_wrong rfl hdX6_wrong ⟨Nat.le_of_ble_eq_true rfl, Nat.le_of_ble_eq_true rfl⟩ hK hN hP hD hS hA 0 6 rfl rfl rfl rfl hl.1 rfl (Nat.le_of_ble_eq_true rfl) dL_law_1582 ⟨Nat.le_of_ble_eq_true rfl, Nat.le_of_ble_eq_true rfl⟩ (fun r_1582 u H locs hq_1582 hP hD hS => ?_)
  obtain ⟨v_1582, c_1582⟩ := u
  obtain ⟨F_1582, hq_1582, hX_1582⟩ := hq_1582
  have hI_1582 : XI v_1582 := hX_1582.1
  have hP : va_P D vwCl (jW a cI cJ cZ v_1582 c_1582 (va_up w 31 (p1))) H := hP
  have hD : va_D A (jW a cI cJ cZ v_1582 c_1582 (va_up w 31 (p1))) := hD
  have hA_1582 : AL (w 30) v_1582 := AL_xs hA_1567 hX_1582
  have hS_1582 : SH1 v_1582 c_1582 := SH_xs hS_1567 hX_1582
  have hC_1582 : c_1582 2 3 = -1 := (congrFun (XS_c hX_1582).1 3).trans hC_1567
  have hr_1582 : r_1582 = (-1) := by exact wr_x hA_1567 (nR_ge (Nat.le_refl _) (by omega)) hq_1582
  subst hr_1582
  refine lv_iconst (v := -1) hx hb dL_law_1585 (by decide) ?_
  refine lv_icmp_ne hx hb dL_law_1586 (tgt := 1649) (by decide) (fun h => absurd h (by decide)) (fun _ => ?_)
  refine lv_aload_n hx hb dL_law_1589 rfl (lv_at hl 1 rfl) ?_
  refine lv_iconst (v := nI (0)) hx hb dL_law_1590 (by decide) ?_
  refine lv_iconst (v := nI (1)) hx hb dL_law_1591 (by decide) ?_
  refine lv_iconst (v := nI (1)) hx hb dL_law_1592 (by decide) ?_
  refine lv_iconst (v := -1) hx hb dL_law_1593 (by decide) ?_
  refine l_ciJ (W1 := (xW a cI cJ cZ v_1582 c_1582)) (W2 := (lA3 a cI (va_up w 31 (p1)))) (rest := []) hx hb hml hown hts (t_wrong l D a cI cJ cZ (va_A (xW a cI cJ cZ v_1582 c_1582) H.size) v_1582 c_1582 (nI (0)) (nI (1)) (nI (1)) (-1) hI_1582) 4 gL_law_X6_wrong rfl hdX6_wrong ⟨Nat.le_of_ble_eq_true rfl, Nat.le_of_ble_eq_true rfl⟩ hK hN hP hD hS hA 0 6 rfl rfl rfl rfl hl.1 rfl (Nat.le_of_ble_eq_true rfl) dL_law_1594 ⟨Nat.le_of_ble_eq_true rfl, Nat.le_of_ble_eq_true rfl⟩ (fun r_1594 u H locs hq_1594 hP hD hS => ?_)
  obtain ⟨v_1594, c_1594⟩ := u
  obtain ⟨F_1594, hq_1594, hX_1594⟩ := hq_1594
  have hI_1594 : XI v_1594 := hX_1594.1
  have hP : va_P D vwCl (jW a cI cJ cZ v_1594 c_1594 (va_up w 31 (p1))) H := hP
  have hD : va_D A (jW a cI cJ cZ v_1594 c_1594 (va_up w 31 (p1))) := hD
  have hA_1594 : AL (w 30) v_1594 := AL_xs hA_1582 hX_1594
  have hS_1594 : SH1 v_1594 c_1594 := SH_xs hS_1582 hX_1594
  have hC_1594 : c_1594 2 3 = -1 := (congrFun (XS_c hX_1594).1 3).trans hC_1582
  have hr_1594 : r_1594 = (-13) := by exact wr_13 hI_1582 hA_1582 hgl hS_1582 (by decide) hq_1594
  subst hr_1594
  refine lv_bipush (v := -13) hx hb dL_law_1597 (by decide) ?_
  refine lv_icmp_ne hx hb dL_law_1599 (tgt := 1649) (by decide) (fun h => absurd h (by decide)) (fun _ => ?_)
  refine lv_iload hx hb dL_law_1602 (lv_at hl 3 rfl) ?_
  refine w_if_eq (x := w 30 37) hx hb dL_law_1604 (tgt := 1645) (by decide) (by omega) (fun c1604 => ?_) (fun c1604 => ?_)
  · skip
    exact K v_1594 c_1594 _ _ _ (by exact hI_1594) hP hD hS (lv_sub hl [0] rfl)
  · skip
    refine lv_aload_n hx hb dL_law_1607 rfl (lv_at hl 1 rfl) ?_
    refine lv_iconst (v := nI (1)) hx hb dL_law_1608 (by decide) ?_
    refine lv_iconst (v := nI (3)) hx hb dL_law_1609 (by decide) ?_
    refine lv_aload_n hx hb dL_law_1610 rfl (lv_at hl 2 rfl) ?_
    refine lv_iconst (v := nI (0)) hx hb dL_law_1611 (by decide) ?_
    refine w_iald (f := w 30) hx hb hK hP 26 0 rfl rfl (i := 0) (by omega) (by decide) dL_law_1612 ?_
    refine l_ciJ (W1 := (xW a cI cJ cZ v_1594 c_1594)) (W2 := (lA3 a cI (va_up w 31 (p1)))) (rest := []) hx hb hml hown hts (t_put l D a cI cJ cZ (va_A (xW a cI cJ cZ v_1594 c_1594) H.size) v_1594 c_1594 (nI (1)) (nI (3)) (nI (w 30 0)) hI_1594) 3 gL_law_X6_put rfl hdX6_put ⟨Nat.le_of_ble_eq_true rfl, Nat.le_of_ble_eq_true rfl⟩ hK hN hP hD hS hA 0 6 rfl rfl rfl rfl hl.1 rfl (Nat.le_of_ble_eq_true rfl) dL_law_1613 ⟨Nat.le_of_ble_eq_true rfl, Nat.le_of_ble_eq_true rfl⟩ (fun r_1613 u H locs hq_1613 hP hD hS => ?_)
    obtain ⟨v_1613, c_1613⟩ := u
    have hI_1613 : XI v_1613 := hq_1613.1
    have hP : va_P D vwCl (jW a cI cJ cZ v_1613 c_1613 (va_up w 31 (p1))) H := hP
    have hD : va_D A (jW a cI cJ cZ v_1613 c_1613 (va_up w 31 (p1))) := hD
    have o1613 := put1 hq_1613.2 hS_1594 hA_1594 (by decide) (by omega)
    have hA_1613 : AL (w 30) v_1613 := o1613.2.2.2.1
    have hS_1613 : SH1 v_1613 c_1613 := o1613.2.1
    have hK_1613 : c_1613 4 (80 + 3) = nI (w 30 0) := o1613.2.2.2.2.1
    have hr_1613 : r_1613 = nI (1) := by exact o1613.1
    subst hr_1613
    refine lv_iconst (v := nI (1)) hx hb dL_law_1616 (by decide) ?_
    refine w_icmp_ne (x := 1) (y := 1) hx hb dL_law_1617 (tgt := 1649) (by decide) (by decide) (by decide) (fun h => absurd h (by decide)) (fun _ => ?_)
    refine lv_aload_n hx hb dL_law_1620 rfl (lv_at hl 1 rfl) ?_
    refine lv_iconst (v := nI (1)) hx hb dL_law_1621 (by decide) ?_
    refine lv_iconst (v := nI (1)) hx hb dL_law_1622 (by decide) ?_
    refine lv_iconst (v := nI (1)) hx hb dL_law_1623 (by decide) ?_
    refine lv_iconst (v := nI (3)) hx hb dL_law_1624 (by decide) ?_
    refine l_ciJ (W1 := (xW a cI cJ cZ v_1613 c_1613)) (W2 := (lA3 a cI (va_up w 31 (p1)))) (rest := []) hx hb hml hown hts (t_opens l D a cI cJ cZ (va_A (xW a cI cJ cZ v_1613 c_1613) H.size) v_1613 c_1613 (nI (1)) (nI (1)) (nI (1)) (nI (3)) hI_1613) 4 gL_law_X6_opens rfl hdX6_opens ⟨Nat.le_of_ble_eq_true rfl, Nat.le_of_ble_eq_true rfl⟩ hK hN hP hD hS hA 0 6 rfl rfl rfl rfl hl.1 rfl (Nat.le_of_ble_eq_true rfl) dL_law_1625 ⟨Nat.le_of_ble_eq_true rfl, Nat.le_of_ble_eq_true rfl⟩ (fun r_1625 u H locs hq_1625 hP hD hS => ?_)
    obtain ⟨v_1625, c_1625⟩ := u
    obtain ⟨F_1625, hq_1625, hX_1625⟩ := hq_1625
    have hI_1625 : XI v_1625 := hX_1625.1
    have hP : va_P D vwCl (jW a cI cJ cZ v_1625 c_1625 (va_up w 31 (p1))) H := hP
    have hD : va_D A (jW a cI cJ cZ v_1625 c_1625 (va_up w 31 (p1))) := hD
    have hA_1625 : AL (w 30) v_1625 := AL_xs hA_1613 hX_1625
    have hS_1625 : SH1 v_1625 c_1625 := SH_xs hS_1613 hX_1625
    have hK_1625 : c_1625 4 (80 + 3) = nI (w 30 0) := (congrFun (XS_c hX_1625).2.1 _).trans hK_1613
    have hr_1625 : r_1625 = (-1) := by exact tk_bad hI_1613 hA_1613 hgl hS_1613 (by omega) n1 hK_1613 (op_1 hq_1625).choose_spec
    subst hr_1625
    refine lv_iconst (v := -1) hx hb dL_law_1628 (by decide) ?_
    refine lv_icmp_ne hx hb dL_law_1629 (tgt := 1649) (by decide) (fun h => absurd h (by decide)) (fun _ => ?_)
    refine lv_aload_n hx hb dL_law_1632 rfl (lv_at hl 1 rfl) ?_
    refine lv_iconst (v := nI (1)) hx hb dL_law_1633 (by decide) ?_
    refine lv_iconst (v := nI (0)) hx hb dL_law_1634 (by decide) ?_
    refine lv_iconst (v := nI (1)) hx hb dL_law_1635 (by decide) ?_
    refine lv_iconst (v := nI (1)) hx hb dL_law_1636 (by decide) ?_
    refine lv_iconst (v := nI (3)) hx hb dL_law_1637 (by decide) ?_
    refine l_ciJ (W1 := (xW a cI cJ cZ v_1625 c_1625)) (W2 := (lA3 a cI (va_up w 31 (p1)))) (rest := []) hx hb hml hown hts (t_felt l D a cI cJ cZ (va_A (xW a cI cJ cZ v_1625 c_1625) H.size) v_1625 c_1625 (nI (1)) (nI (0)) (nI (1)) (nI (1)) (nI (3)) hI_1625) 5 gL_law_X6_felt rfl hdX6_felt ⟨Nat.le_of_ble_eq_true rfl, Nat.le_of_ble_eq_true rfl⟩ hK hN hP hD hS hA 0 6 rfl rfl rfl rfl hl.1 rfl (Nat.le_of_ble_eq_true rfl) dL_law_1638 ⟨Nat.le_of_ble_eq_true rfl, Nat.le_of_ble_eq_true rfl⟩ (fun r_1638 u H locs hq_1638 hP hD hS => ?_)
    obtain ⟨v_1638, c_1638⟩ := u
    obtain ⟨F_1638, hq_1638, hX_1638⟩ := hq_1638
    have hI_1638 : XI v_1638 := hX_1638.1
    have hP : va_P D vwCl (jW a cI cJ cZ v_1638 c_1638 (va_up w 31 (p1))) H := hP
    have hD : va_D A (jW a cI cJ cZ v_1638 c_1638 (va_up w 31 (p1))) := hD
    have hA_1638 : AL (w 30) v_1638 := AL_xs hA_1625 hX_1638
    have hS_1638 : SH1 v_1638 c_1638 := SH_xs hS_1625 hX_1638
    have hK_1638 : c_1638 4 (80 + 3) = nI (w 30 0) := (congrFun (XS_c hX_1638).2.1 _).trans hK_1625
    have hr_1638 : r_1638 = (-1) := by exact tk_bad hI_1625 hA_1625 hgl hS_1625 (by omega) n1 hK_1625 (fe_1 hq_1638).choose_spec
    subst hr_1638
    refine lv_iconst (v := -1) hx hb dL_law_1641 (by decide) ?_
    refine lv_icmp_ne hx hb dL_law_1642 (tgt := 1649) (by decide) (fun h => absurd h (by decide)) (fun _ => ?_)
    exact K v_1638 c_1638 _ _ _ (by exact hI_1638) hP hD hS (lv_sub hl [0] rfl)
