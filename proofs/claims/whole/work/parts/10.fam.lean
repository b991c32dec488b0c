/-! ===== bitCount, fill, families ===== -/
set_option maxHeartbeats 4000000 in
set_option maxRecDepth 100000 in
theorem k_bct (l : Launch) (D : va_G) (a : Nat → Nat) (cI cJ cZ : ClassId) (A : Nat → Prop) (v : Nat → Nat → Nat) (c : Nat → Nat → Int32) (x : Int32) :
    mI l yJ6_bitCount_0f7a4 wsJ6_bitCount_0f7a4 0 0 [.int x] D (xT cI cJ cZ) A (xW a cI cJ cZ v c) (fun _ : Unit => xW a cI cJ cZ v c)
    (fun (r : Int32) (u : Unit) => r = bct x) := by
  refine w_bI cJ6_bitCount_0f7a4 1 .int (by decide) rfl (Nat.le_of_ble_eq_true rfl) (Or.inl rfl) ?_
  intro p e s m args below meth c0 ls Q hx hb hml hts hown hK hN hA hret hP hD hS hl
  have hl : lv_has ls 1 [(0, .int x)] := hl
  refine lv_iload_n hx hb dJ6_bitCount_0f7a4_0 rfl (lv_at hl 0 rfl) ?_
  refine lv_iload_n hx hb dJ6_bitCount_0f7a4_1 rfl (lv_at hl 0 rfl) ?_
  refine lv_iconst (v := nI (1)) hx hb dJ6_bitCount_0f7a4_2 (by decide) ?_
  refine lv_iushr (v := (x.toUInt32 >>> ((nI (1)).toUInt32 &&& Int32.toUInt32 31)).toInt32) hx hb dJ6_bitCount_0f7a4_3 rfl ?_
  refine lv_ldcw (own := RJ6) hx hb hown (hts (.constant RJ6 265 (1431655765)) (List.mem_of_getElem? (i := 1) rfl)) dJ6_bitCount_0f7a4_4 ?_
  refine lv_iand hx hb dJ6_bitCount_0f7a4_7 ?_
  refine lv_isub hx hb dJ6_bitCount_0f7a4_8 ?_
  refine lv_istore_n (lv' := [(0, .int (x - (((x.toUInt32 >>> ((nI (1)).toUInt32 &&& Int32.toUInt32 31)).toInt32) &&& (1431655765))))]) hx hb dJ6_bitCount_0f7a4_9 rfl hl (by decide) rfl (fun ls hl => ?_)
  refine lv_iload_n hx hb dJ6_bitCount_0f7a4_10 rfl (lv_at hl 0 rfl) ?_
  refine lv_ldcw (own := RJ6) hx hb hown (hts (.constant RJ6 266 (858993459)) (List.mem_of_getElem? (i := 2) rfl)) dJ6_bitCount_0f7a4_11 ?_
  refine lv_iand hx hb dJ6_bitCount_0f7a4_14 ?_
  refine lv_iload_n hx hb dJ6_bitCount_0f7a4_15 rfl (lv_at hl 0 rfl) ?_
  refine lv_iconst (v := nI (2)) hx hb dJ6_bitCount_0f7a4_16 (by decide) ?_
  refine lv_iushr (v := ((x - (((x.toUInt32 >>> ((nI (1)).toUInt32 &&& Int32.toUInt32 31)).toInt32) &&& (1431655765))).toUInt32 >>> ((nI (2)).toUInt32 &&& Int32.toUInt32 31)).toInt32) hx hb dJ6_bitCount_0f7a4_17 rfl ?_
  refine lv_ldcw (own := RJ6) hx hb hown (hts (.constant RJ6 266 (858993459)) (List.mem_of_getElem? (i := 2) rfl)) dJ6_bitCount_0f7a4_18 ?_
  refine lv_iand hx hb dJ6_bitCount_0f7a4_21 ?_
  refine lv_iadd hx hb dJ6_bitCount_0f7a4_22 ?_
  refine lv_istore_n (lv' := [(0, .int (((x - (((x.toUInt32 >>> ((nI (1)).toUInt32 &&& Int32.toUInt32 31)).toInt32) &&& (1431655765))) &&& (858993459)) + ((((x - (((x.toUInt32 >>> ((nI (1)).toUInt32 &&& Int32.toUInt32 31)).toInt32) &&& (1431655765))).toUInt32 >>> ((nI (2)).toUInt32 &&& Int32.toUInt32 31)).toInt32) &&& (858993459))))]) hx hb dJ6_bitCount_0f7a4_23 rfl hl (by decide) rfl (fun ls hl => ?_)
  refine lv_iload_n hx hb dJ6_bitCount_0f7a4_24 rfl (lv_at hl 0 rfl) ?_
  refine lv_iload_n hx hb dJ6_bitCount_0f7a4_25 rfl (lv_at hl 0 rfl) ?_
  refine lv_iconst (v := nI (4)) hx hb dJ6_bitCount_0f7a4_26 (by decide) ?_
  refine lv_iushr (v := ((((x - (((x.toUInt32 >>> ((nI (1)).toUInt32 &&& Int32.toUInt32 31)).toInt32) &&& (1431655765))) &&& (858993459)) + ((((x - (((x.toUInt32 >>> ((nI (1)).toUInt32 &&& Int32.toUInt32 31)).toInt32) &&& (1431655765))).toUInt32 >>> ((nI (2)).toUInt32 &&& Int32.toUInt32 31)).toInt32) &&& (858993459))).toUInt32 >>> ((nI (4)).toUInt32 &&& Int32.toUInt32 31)).toInt32) hx hb dJ6_bitCount_0f7a4_27 rfl ?_
  refine lv_iadd hx hb dJ6_bitCount_0f7a4_28 ?_
  refine lv_ldcw (own := RJ6) hx hb hown (hts (.constant RJ6 267 (252645135)) (List.mem_of_getElem? (i := 3) rfl)) dJ6_bitCount_0f7a4_29 ?_
  refine lv_iand hx hb dJ6_bitCount_0f7a4_32 ?_
  refine lv_istore_n (lv' := [(0, .int (((((x - (((x.toUInt32 >>> ((nI (1)).toUInt32 &&& Int32.toUInt32 31)).toInt32) &&& (1431655765))) &&& (858993459)) + ((((x - (((x.toUInt32 >>> ((nI (1)).toUInt32 &&& Int32.toUInt32 31)).toInt32) &&& (1431655765))).toUInt32 >>> ((nI (2)).toUInt32 &&& Int32.toUInt32 31)).toInt32) &&& (858993459))) + (((((x - (((x.toUInt32 >>> ((nI (1)).toUInt32 &&& Int32.toUInt32 31)).toInt32) &&& (1431655765))) &&& (858993459)) + ((((x - (((x.toUInt32 >>> ((nI (1)).toUInt32 &&& Int32.toUInt32 31)).toInt32) &&& (1431655765))).toUInt32 >>> ((nI (2)).toUInt32 &&& Int32.toUInt32 31)).toInt32) &&& (858993459))).toUInt32 >>> ((nI (4)).toUInt32 &&& Int32.toUInt32 31)).toInt32)) &&& (252645135)))]) hx hb dJ6_bitCount_0f7a4_33 rfl hl (by decide) rfl (fun ls hl => ?_)
  refine lv_iload_n hx hb dJ6_bitCount_0f7a4_34 rfl (lv_at hl 0 rfl) ?_
  refine lv_iload_n hx hb dJ6_bitCount_0f7a4_35 rfl (lv_at hl 0 rfl) ?_
  refine lv_bipush (v := nI (8)) hx hb dJ6_bitCount_0f7a4_36 (by decide) ?_
  refine lv_iushr (v := ((((((x - (((x.toUInt32 >>> ((nI (1)).toUInt32 &&& Int32.toUInt32 31)).toInt32) &&& (1431655765))) &&& (858993459)) + ((((x - (((x.toUInt32 >>> ((nI (1)).toUInt32 &&& Int32.toUInt32 31)).toInt32) &&& (1431655765))).toUInt32 >>> ((nI (2)).toUInt32 &&& Int32.toUInt32 31)).toInt32) &&& (858993459))) + (((((x - (((x.toUInt32 >>> ((nI (1)).toUInt32 &&& Int32.toUInt32 31)).toInt32) &&& (1431655765))) &&& (858993459)) + ((((x - (((x.toUInt32 >>> ((nI (1)).toUInt32 &&& Int32.toUInt32 31)).toInt32) &&& (1431655765))).toUInt32 >>> ((nI (2)).toUInt32 &&& Int32.toUInt32 31)).toInt32) &&& (858993459))).toUInt32 >>> ((nI (4)).toUInt32 &&& Int32.toUInt32 31)).toInt32)) &&& (252645135)).toUInt32 >>> ((nI (8)).toUInt32 &&& Int32.toUInt32 31)).toInt32) hx hb dJ6_bitCount_0f7a4_38 rfl ?_
  refine lv_iadd hx hb dJ6_bitCount_0f7a4_39 ?_
  refine lv_istore_n (lv' := [(0, .int ((((((x - (((x.toUInt32 >>> ((nI (1)).toUInt32 &&& Int32.toUInt32 31)).toInt32) &&& (1431655765))) &&& (858993459)) + ((((x - (((x.toUInt32 >>> ((nI (1)).toUInt32 &&& Int32.toUInt32 31)).toInt32) &&& (1431655765))).toUInt32 >>> ((nI (2)).toUInt32 &&& Int32.toUInt32 31)).toInt32) &&& (858993459))) + (((((x - (((x.toUInt32 >>> ((nI (1)).toUInt32 &&& Int32.toUInt32 31)).toInt32) &&& (1431655765))) &&& (858993459)) + ((((x - (((x.toUInt32 >>> ((nI (1)).toUInt32 &&& Int32.toUInt32 31)).toInt32) &&& (1431655765))).toUInt32 >>> ((nI (2)).toUInt32 &&& Int32.toUInt32 31)).toInt32) &&& (858993459))).toUInt32 >>> ((nI (4)).toUInt32 &&& Int32.toUInt32 31)).toInt32)) &&& (252645135)) + (((((((x - (((x.toUInt32 >>> ((nI (1)).toUInt32 &&& Int32.toUInt32 31)).toInt32) &&& (1431655765))) &&& (858993459)) + ((((x - (((x.toUInt32 >>> ((nI (1)).toUInt32 &&& Int32.toUInt32 31)).toInt32) &&& (1431655765))).toUInt32 >>> ((nI (2)).toUInt32 &&& Int32.toUInt32 31)).toInt32) &&& (858993459))) + (((((x - (((x.toUInt32 >>> ((nI (1)).toUInt32 &&& Int32.toUInt32 31)).toInt32) &&& (1431655765))) &&& (858993459)) + ((((x - (((x.toUInt32 >>> ((nI (1)).toUInt32 &&& Int32.toUInt32 31)).toInt32) &&& (1431655765))).toUInt32 >>> ((nI (2)).toUInt32 &&& Int32.toUInt32 31)).toInt32) &&& (858993459))).toUInt32 >>> ((nI (4)).toUInt32 &&& Int32.toUInt32 31)).toInt32)) &&& (252645135)).toUInt32 >>> ((nI (8)).toUInt32 &&& Int32.toUInt32 31)).toInt32)))]) hx hb dJ6_bitCount_0f7a4_40 rfl hl (by decide) rfl (fun ls hl => ?_)
  refine lv_iload_n hx hb dJ6_bitCount_0f7a4_41 rfl (lv_at hl 0 rfl) ?_
  refine lv_iload_n hx hb dJ6_bitCount_0f7a4_42 rfl (lv_at hl 0 rfl) ?_
  refine lv_bipush (v := nI (16)) hx hb dJ6_bitCount_0f7a4_43 (by decide) ?_
  refine lv_iushr (v := (((((((x - (((x.toUInt32 >>> ((nI (1)).toUInt32 &&& Int32.toUInt32 31)).toInt32) &&& (1431655765))) &&& (858993459)) + ((((x - (((x.toUInt32 >>> ((nI (1)).toUInt32 &&& Int32.toUInt32 31)).toInt32) &&& (1431655765))).toUInt32 >>> ((nI (2)).toUInt32 &&& Int32.toUInt32 31)).toInt32) &&& (858993459))) + (((((x - (((x.toUInt32 >>> ((nI (1)).toUInt32 &&& Int32.toUInt32 31)).toInt32) &&& (1431655765))) &&& (858993459)) + ((((x - (((x.toUInt32 >>> ((nI (1)).toUInt32 &&& Int32.toUInt32 31)).toInt32) &&& (1431655765))).toUInt32 >>> ((nI (2)).toUInt32 &&& Int32.toUInt32 31)).toInt32) &&& (858993459))).toUInt32 >>> ((nI (4)).toUInt32 &&& Int32.toUInt32 31)).toInt32)) &&& (252645135)) + (((((((x - (((x.toUInt32 >>> ((nI (1)).toUInt32 &&& Int32.toUInt32 31)).toInt32) &&& (1431655765))) &&& (858993459)) + ((((x - (((x.toUInt32 >>> ((nI (1)).toUInt32 &&& Int32.toUInt32 31)).toInt32) &&& (1431655765))).toUInt32 >>> ((nI (2)).toUInt32 &&& Int32.toUInt32 31)).toInt32) &&& (858993459))) + (((((x - (((x.toUInt32 >>> ((nI (1)).toUInt32 &&& Int32.toUInt32 31)).toInt32) &&& (1431655765))) &&& (858993459)) + ((((x - (((x.toUInt32 >>> ((nI (1)).toUInt32 &&& Int32.toUInt32 31)).toInt32) &&& (1431655765))).toUInt32 >>> ((nI (2)).toUInt32 &&& Int32.toUInt32 31)).toInt32) &&& (858993459))).toUInt32 >>> ((nI (4)).toUInt32 &&& Int32.toUInt32 31)).toInt32)) &&& (252645135)).toUInt32 >>> ((nI (8)).toUInt32 &&& Int32.toUInt32 31)).toInt32)).toUInt32 >>> ((nI (16)).toUInt32 &&& Int32.toUInt32 31)).toInt32) hx hb dJ6_bitCount_0f7a4_45 rfl ?_
  refine lv_iadd hx hb dJ6_bitCount_0f7a4_46 ?_
  refine lv_istore_n (lv' := [(0, .int (((((((x - (((x.toUInt32 >>> ((nI (1)).toUInt32 &&& Int32.toUInt32 31)).toInt32) &&& (1431655765))) &&& (858993459)) + ((((x - (((x.toUInt32 >>> ((nI (1)).toUInt32 &&& Int32.toUInt32 31)).toInt32) &&& (1431655765))).toUInt32 >>> ((nI (2)).toUInt32 &&& Int32.toUInt32 31)).toInt32) &&& (858993459))) + (((((x - (((x.toUInt32 >>> ((nI (1)).toUInt32 &&& Int32.toUInt32 31)).toInt32) &&& (1431655765))) &&& (858993459)) + ((((x - (((x.toUInt32 >>> ((nI (1)).toUInt32 &&& Int32.toUInt32 31)).toInt32) &&& (1431655765))).toUInt32 >>> ((nI (2)).toUInt32 &&& Int32.toUInt32 31)).toInt32) &&& (858993459))).toUInt32 >>> ((nI (4)).toUInt32 &&& Int32.toUInt32 31)).toInt32)) &&& (252645135)) + (((((((x - (((x.toUInt32 >>> ((nI (1)).toUInt32 &&& Int32.toUInt32 31)).toInt32) &&& (1431655765))) &&& (858993459)) + ((((x - (((x.toUInt32 >>> ((nI (1)).toUInt32 &&& Int32.toUInt32 31)).toInt32) &&& (1431655765))).toUInt32 >>> ((nI (2)).toUInt32 &&& Int32.toUInt32 31)).toInt32) &&& (858993459))) + (((((x - (((x.toUInt32 >>> ((nI (1)).toUInt32 &&& Int32.toUInt32 31)).toInt32) &&& (1431655765))) &&& (858993459)) + ((((x - (((x.toUInt32 >>> ((nI (1)).toUInt32 &&& Int32.toUInt32 31)).toInt32) &&& (1431655765))).toUInt32 >>> ((nI (2)).toUInt32 &&& Int32.toUInt32 31)).toInt32) &&& (858993459))).toUInt32 >>> ((nI (4)).toUInt32 &&& Int32.toUInt32 31)).toInt32)) &&& (252645135)).toUInt32 >>> ((nI (8)).toUInt32 &&& Int32.toUInt32 31)).toInt32)) + ((((((((x - (((x.toUInt32 >>> ((nI (1)).toUInt32 &&& Int32.toUInt32 31)).toInt32) &&& (1431655765))) &&& (858993459)) + ((((x - (((x.toUInt32 >>> ((nI (1)).toUInt32 &&& Int32.toUInt32 31)).toInt32) &&& (1431655765))).toUInt32 >>> ((nI (2)).toUInt32 &&& Int32.toUInt32 31)).toInt32) &&& (858993459))) + (((((x - (((x.toUInt32 >>> ((nI (1)).toUInt32 &&& Int32.toUInt32 31)).toInt32) &&& (1431655765))) &&& (858993459)) + ((((x - (((x.toUInt32 >>> ((nI (1)).toUInt32 &&& Int32.toUInt32 31)).toInt32) &&& (1431655765))).toUInt32 >>> ((nI (2)).toUInt32 &&& Int32.toUInt32 31)).toInt32) &&& (858993459))).toUInt32 >>> ((nI (4)).toUInt32 &&& Int32.toUInt32 31)).toInt32)) &&& (252645135)) + (((((((x - (((x.toUInt32 >>> ((nI (1)).toUInt32 &&& Int32.toUInt32 31)).toInt32) &&& (1431655765))) &&& (858993459)) + ((((x - (((x.toUInt32 >>> ((nI (1)).toUInt32 &&& Int32.toUInt32 31)).toInt32) &&& (1431655765))).toUInt32 >>> ((nI (2)).toUInt32 &&& Int32.toUInt32 31)).toInt32) &&& (858993459))) + (((((x - (((x.toUInt32 >>> ((nI (1)).toUInt32 &&& Int32.toUInt32 31)).toInt32) &&& (1431655765))) &&& (858993459)) + ((((x - (((x.toUInt32 >>> ((nI (1)).toUInt32 &&& Int32.toUInt32 31)).toInt32) &&& (1431655765))).toUInt32 >>> ((nI (2)).toUInt32 &&& Int32.toUInt32 31)).toInt32) &&& (858993459))).toUInt32 >>> ((nI (4)).toUInt32 &&& Int32.toUInt32 31)).toInt32)) &&& (252645135)).toUInt32 >>> ((nI (8)).toUInt32 &&& Int32.toUInt32 31)).toInt32)).toUInt32 >>> ((nI (16)).toUInt32 &&& Int32.toUInt32 31)).toInt32)))]) hx hb dJ6_bitCount_0f7a4_47 rfl hl (by decide) rfl (fun ls hl => ?_)
  refine lv_iload_n hx hb dJ6_bitCount_0f7a4_48 rfl (lv_at hl 0 rfl) ?_
  refine lv_bipush (v := nI (63)) hx hb dJ6_bitCount_0f7a4_49 (by decide) ?_
  refine lv_iand hx hb dJ6_bitCount_0f7a4_51 ?_
  exact hret ((((((((x - (((x.toUInt32 >>> ((nI (1)).toUInt32 &&& Int32.toUInt32 31)).toInt32) &&& (1431655765))) &&& (858993459)) + ((((x - (((x.toUInt32 >>> ((nI (1)).toUInt32 &&& Int32.toUInt32 31)).toInt32) &&& (1431655765))).toUInt32 >>> ((nI (2)).toUInt32 &&& Int32.toUInt32 31)).toInt32) &&& (858993459))) + (((((x - (((x.toUInt32 >>> ((nI (1)).toUInt32 &&& Int32.toUInt32 31)).toInt32) &&& (1431655765))) &&& (858993459)) + ((((x - (((x.toUInt32 >>> ((nI (1)).toUInt32 &&& Int32.toUInt32 31)).toInt32) &&& (1431655765))).toUInt32 >>> ((nI (2)).toUInt32 &&& Int32.toUInt32 31)).toInt32) &&& (858993459))).toUInt32 >>> ((nI (4)).toUInt32 &&& Int32.toUInt32 31)).toInt32)) &&& (252645135)) + (((((((x - (((x.toUInt32 >>> ((nI (1)).toUInt32 &&& Int32.toUInt32 31)).toInt32) &&& (1431655765))) &&& (858993459)) + ((((x - (((x.toUInt32 >>> ((nI (1)).toUInt32 &&& Int32.toUInt32 31)).toInt32) &&& (1431655765))).toUInt32 >>> ((nI (2)).toUInt32 &&& Int32.toUInt32 31)).toInt32) &&& (858993459))) + (((((x - (((x.toUInt32 >>> ((nI (1)).toUInt32 &&& Int32.toUInt32 31)).toInt32) &&& (1431655765))) &&& (858993459)) + ((((x - (((x.toUInt32 >>> ((nI (1)).toUInt32 &&& Int32.toUInt32 31)).toInt32) &&& (1431655765))).toUInt32 >>> ((nI (2)).toUInt32 &&& Int32.toUInt32 31)).toInt32) &&& (858993459))).toUInt32 >>> ((nI (4)).toUInt32 &&& Int32.toUInt32 31)).toInt32)) &&& (252645135)).toUInt32 >>> ((nI (8)).toUInt32 &&& Int32.toUInt32 31)).toInt32)) + ((((((((x - (((x.toUInt32 >>> ((nI (1)).toUInt32 &&& Int32.toUInt32 31)).toInt32) &&& (1431655765))) &&& (858993459)) + ((((x - (((x.toUInt32 >>> ((nI (1)).toUInt32 &&& Int32.toUInt32 31)).toInt32) &&& (1431655765))).toUInt32 >>> ((nI (2)).toUInt32 &&& Int32.toUInt32 31)).toInt32) &&& (858993459))) + (((((x - (((x.toUInt32 >>> ((nI (1)).toUInt32 &&& Int32.toUInt32 31)).toInt32) &&& (1431655765))) &&& (858993459)) + ((((x - (((x.toUInt32 >>> ((nI (1)).toUInt32 &&& Int32.toUInt32 31)).toInt32) &&& (1431655765))).toUInt32 >>> ((nI (2)).toUInt32 &&& Int32.toUInt32 31)).toInt32) &&& (858993459))).toUInt32 >>> ((nI (4)).toUInt32 &&& Int32.toUInt32 31)).toInt32)) &&& (252645135)) + (((((((x - (((x.toUInt32 >>> ((nI (1)).toUInt32 &&& Int32.toUInt32 31)).toInt32) &&& (1431655765))) &&& (858993459)) + ((((x - (((x.toUInt32 >>> ((nI (1)).toUInt32 &&& Int32.toUInt32 31)).toInt32) &&& (1431655765))).toUInt32 >>> ((nI (2)).toUInt32 &&& Int32.toUInt32 31)).toInt32) &&& (858993459))) + (((((x - (((x.toUInt32 >>> ((nI (1)).toUInt32 &&& Int32.toUInt32 31)).toInt32) &&& (1431655765))) &&& (858993459)) + ((((x - (((x.toUInt32 >>> ((nI (1)).toUInt32 &&& Int32.toUInt32 31)).toInt32) &&& (1431655765))).toUInt32 >>> ((nI (2)).toUInt32 &&& Int32.toUInt32 31)).toInt32) &&& (858993459))).toUInt32 >>> ((nI (4)).toUInt32 &&& Int32.toUInt32 31)).toInt32)) &&& (252645135)).toUInt32 >>> ((nI (8)).toUInt32 &&& Int32.toUInt32 31)).toInt32)).toUInt32 >>> ((nI (16)).toUInt32 &&& Int32.toUInt32 31)).toInt32)) &&& (nI (63))) () _ _ 52 _ dJ6_bitCount_0f7a4_52 rfl (by rfl) hP hD hS

set_option maxHeartbeats 4000000 in
set_option maxRecDepth 100000 in
theorem k_bctN (l : Launch) (D : va_G) (a : Nat → Nat) (cI cJ cZ : ClassId) (A : Nat → Prop) (v : Nat → Nat → Nat) (c : Nat → Nat → Int32) (x : Nat) (hp : bct (nI x) = nI (pc x)) :
    mI l yJ6_bitCount_0f7a4 wsJ6_bitCount_0f7a4 0 0 [.int (nI x)] D (xT cI cJ cZ) A (xW a cI cJ cZ v c) (fun _ : Unit => xW a cI cJ cZ v c)
    (fun (r : Int32) (u : Unit) => r = nI (pc x)) := by
  refine w_bI cJ6_bitCount_0f7a4 1 .int (by decide) rfl (Nat.le_of_ble_eq_true rfl) (Or.inl rfl) ?_
  intro p e s m args below meth c0 ls Q hx hb hml hts hown hK hN hA hret hP hD hS hl
  have hl : lv_has ls 1 [(0, .int (nI (x)))] := hl
  refine lv_iload_n hx hb dJ6_bitCount_0f7a4_0 rfl (lv_at hl 0 rfl) ?_
  refine lv_iload_n hx hb dJ6_bitCount_0f7a4_1 rfl (lv_at hl 0 rfl) ?_
  refine lv_iconst (v := nI (1)) hx hb dJ6_bitCount_0f7a4_2 (by decide) ?_
  refine lv_iushr (v := ((nI (x)).toUInt32 >>> ((nI (1)).toUInt32 &&& Int32.toUInt32 31)).toInt32) hx hb dJ6_bitCount_0f7a4_3 rfl ?_
  refine lv_ldcw (own := RJ6) hx hb hown (hts (.constant RJ6 265 (1431655765)) (List.mem_of_getElem? (i := 1) rfl)) dJ6_bitCount_0f7a4_4 ?_
  refine lv_iand hx hb dJ6_bitCount_0f7a4_7 ?_
  refine lv_isub hx hb dJ6_bitCount_0f7a4_8 ?_
  refine lv_istore_n (lv' := [(0, .int ((nI (x)) - ((((nI (x)).toUInt32 >>> ((nI (1)).toUInt32 &&& Int32.toUInt32 31)).toInt32) &&& (1431655765))))]) hx hb dJ6_bitCount_0f7a4_9 rfl hl (by decide) rfl (fun ls hl => ?_)
  refine lv_iload_n hx hb dJ6_bitCount_0f7a4_10 rfl (lv_at hl 0 rfl) ?_
  refine lv_ldcw (own := RJ6) hx hb hown (hts (.constant RJ6 266 (858993459)) (List.mem_of_getElem? (i := 2) rfl)) dJ6_bitCount_0f7a4_11 ?_
  refine lv_iand hx hb dJ6_bitCount_0f7a4_14 ?_
  refine lv_iload_n hx hb dJ6_bitCount_0f7a4_15 rfl (lv_at hl 0 rfl) ?_
  refine lv_iconst (v := nI (2)) hx hb dJ6_bitCount_0f7a4_16 (by decide) ?_
  refine lv_iushr (v := (((nI (x)) - ((((nI (x)).toUInt32 >>> ((nI (1)).toUInt32 &&& Int32.toUInt32 31)).toInt32) &&& (1431655765))).toUInt32 >>> ((nI (2)).toUInt32 &&& Int32.toUInt32 31)).toInt32) hx hb dJ6_bitCount_0f7a4_17 rfl ?_
  refine lv_ldcw (own := RJ6) hx hb hown (hts (.constant RJ6 266 (858993459)) (List.mem_of_getElem? (i := 2) rfl)) dJ6_bitCount_0f7a4_18 ?_
  refine lv_iand hx hb dJ6_bitCount_0f7a4_21 ?_
  refine lv_iadd hx hb dJ6_bitCount_0f7a4_22 ?_
  refine lv_istore_n (lv' := [(0, .int ((((nI (x)) - ((((nI (x)).toUInt32 >>> ((nI (1)).toUInt32 &&& Int32.toUInt32 31)).toInt32) &&& (1431655765))) &&& (858993459)) + (((((nI (x)) - ((((nI (x)).toUInt32 >>> ((nI (1)).toUInt32 &&& Int32.toUInt32 31)).toInt32) &&& (1431655765))).toUInt32 >>> ((nI (2)).toUInt32 &&& Int32.toUInt32 31)).toInt32) &&& (858993459))))]) hx hb dJ6_bitCount_0f7a4_23 rfl hl (by decide) rfl (fun ls hl => ?_)
  refine lv_iload_n hx hb dJ6_bitCount_0f7a4_24 rfl (lv_at hl 0 rfl) ?_
  refine lv_iload_n hx hb dJ6_bitCount_0f7a4_25 rfl (lv_at hl 0 rfl) ?_
  refine lv_iconst (v := nI (4)) hx hb dJ6_bitCount_0f7a4_26 (by decide) ?_
  refine lv_iushr (v := (((((nI (x)) - ((((nI (x)).toUInt32 >>> ((nI (1)).toUInt32 &&& Int32.toUInt32 31)).toInt32) &&& (1431655765))) &&& (858993459)) + (((((nI (x)) - ((((nI (x)).toUInt32 >>> ((nI (1)).toUInt32 &&& Int32.toUInt32 31)).toInt32) &&& (1431655765))).toUInt32 >>> ((nI (2)).toUInt32 &&& Int32.toUInt32 31)).toInt32) &&& (858993459))).toUInt32 >>> ((nI (4)).toUInt32 &&& Int32.toUInt32 31)).toInt32) hx hb dJ6_bitCount_0f7a4_27 rfl ?_
  refine lv_iadd hx hb dJ6_bitCount_0f7a4_28 ?_
  refine lv_ldcw (own := RJ6) hx hb hown (hts (.constant RJ6 267 (252645135)) (List.mem_of_getElem? (i := 3) rfl)) dJ6_bitCount_0f7a4_29 ?_
  refine lv_iand hx hb dJ6_bitCount_0f7a4_32 ?_
  refine lv_istore_n (lv' := [(0, .int ((((((nI (x)) - ((((nI (x)).toUInt32 >>> ((nI (1)).toUInt32 &&& Int32.toUInt32 31)).toInt32) &&& (1431655765))) &&& (858993459)) + (((((nI (x)) - ((((nI (x)).toUInt32 >>> ((nI (1)).toUInt32 &&& Int32.toUInt32 31)).toInt32) &&& (1431655765))).toUInt32 >>> ((nI (2)).toUInt32 &&& Int32.toUInt32 31)).toInt32) &&& (858993459))) + ((((((nI (x)) - ((((nI (x)).toUInt32 >>> ((nI (1)).toUInt32 &&& Int32.toUInt32 31)).toInt32) &&& (1431655765))) &&& (858993459)) + (((((nI (x)) - ((((nI (x)).toUInt32 >>> ((nI (1)).toUInt32 &&& Int32.toUInt32 31)).toInt32) &&& (1431655765))).toUInt32 >>> ((nI (2)).toUInt32 &&& Int32.toUInt32 31)).toInt32) &&& (858993459))).toUInt32 >>> ((nI (4)).toUInt32 &&& Int32.toUInt32 31)).toInt32)) &&& (252645135)))]) hx hb dJ6_bitCount_0f7a4_33 rfl hl (by decide) rfl (fun ls hl => ?_)
  refine lv_iload_n hx hb dJ6_bitCount_0f7a4_34 rfl (lv_at hl 0 rfl) ?_
  refine lv_iload_n hx hb dJ6_bitCount_0f7a4_35 rfl (lv_at hl 0 rfl) ?_
  refine lv_bipush (v := nI (8)) hx hb dJ6_bitCount_0f7a4_36 (by decide) ?_
  refine lv_iushr (v := (((((((nI (x)) - ((((nI (x)).toUInt32 >>> ((nI (1)).toUInt32 &&& Int32.toUInt32 31)).toInt32) &&& (1431655765))) &&& (858993459)) + (((((nI (x)) - ((((nI (x)).toUInt32 >>> ((nI (1)).toUInt32 &&& Int32.toUInt32 31)).toInt32) &&& (1431655765))).toUInt32 >>> ((nI (2)).toUInt32 &&& Int32.toUInt32 31)).toInt32) &&& (858993459))) + ((((((nI (x)) - ((((nI (x)).toUInt32 >>> ((nI (1)).toUInt32 &&& Int32.toUInt32 31)).toInt32) &&& (1431655765))) &&& (858993459)) + (((((nI (x)) - ((((nI (x)).toUInt32 >>> ((nI (1)).toUInt32 &&& Int32.toUInt32 31)).toInt32) &&& (1431655765))).toUInt32 >>> ((nI (2)).toUInt32 &&& Int32.toUInt32 31)).toInt32) &&& (858993459))).toUInt32 >>> ((nI (4)).toUInt32 &&& Int32.toUInt32 31)).toInt32)) &&& (252645135)).toUInt32 >>> ((nI (8)).toUInt32 &&& Int32.toUInt32 31)).toInt32) hx hb dJ6_bitCount_0f7a4_38 rfl ?_
  refine lv_iadd hx hb dJ6_bitCount_0f7a4_39 ?_
  refine lv_istore_n (lv' := [(0, .int (((((((nI (x)) - ((((nI (x)).toUInt32 >>> ((nI (1)).toUInt32 &&& Int32.toUInt32 31)).toInt32) &&& (1431655765))) &&& (858993459)) + (((((nI (x)) - ((((nI (x)).toUInt32 >>> ((nI (1)).toUInt32 &&& Int32.toUInt32 31)).toInt32) &&& (1431655765))).toUInt32 >>> ((nI (2)).toUInt32 &&& Int32.toUInt32 31)).toInt32) &&& (858993459))) + ((((((nI (x)) - ((((nI (x)).toUInt32 >>> ((nI (1)).toUInt32 &&& Int32.toUInt32 31)).toInt32) &&& (1431655765))) &&& (858993459)) + (((((nI (x)) - ((((nI (x)).toUInt32 >>> ((nI (1)).toUInt32 &&& Int32.toUInt32 31)).toInt32) &&& (1431655765))).toUInt32 >>> ((nI (2)).toUInt32 &&& Int32.toUInt32 31)).toInt32) &&& (858993459))).toUInt32 >>> ((nI (4)).toUInt32 &&& Int32.toUInt32 31)).toInt32)) &&& (252645135)) + ((((((((nI (x)) - ((((nI (x)).toUInt32 >>> ((nI (1)).toUInt32 &&& Int32.toUInt32 31)).toInt32) &&& (1431655765))) &&& (858993459)) + (((((nI (x)) - ((((nI (x)).toUInt32 >>> ((nI (1)).toUInt32 &&& Int32.toUInt32 31)).toInt32) &&& (1431655765))).toUInt32 >>> ((nI (2)).toUInt32 &&& Int32.toUInt32 31)).toInt32) &&& (858993459))) + ((((((nI (x)) - ((((nI (x)).toUInt32 >>> ((nI (1)).toUInt32 &&& Int32.toUInt32 31)).toInt32) &&& (1431655765))) &&& (858993459)) + (((((nI (x)) - ((((nI (x)).toUInt32 >>> ((nI (1)).toUInt32 &&& Int32.toUInt32 31)).toInt32) &&& (1431655765))).toUInt32 >>> ((nI (2)).toUInt32 &&& Int32.toUInt32 31)).toInt32) &&& (858993459))).toUInt32 >>> ((nI (4)).toUInt32 &&& Int32.toUInt32 31)).toInt32)) &&& (252645135)).toUInt32 >>> ((nI (8)).toUInt32 &&& Int32.toUInt32 31)).toInt32)))]) hx hb dJ6_bitCount_0f7a4_40 rfl hl (by decide) rfl (fun ls hl => ?_)
  refine lv_iload_n hx hb dJ6_bitCount_0f7a4_41 rfl (lv_at hl 0 rfl) ?_
  refine lv_iload_n hx hb dJ6_bitCount_0f7a4_42 rfl (lv_at hl 0 rfl) ?_
  refine lv_bipush (v := nI (16)) hx hb dJ6_bitCount_0f7a4_43 (by decide) ?_
  refine lv_iushr (v := ((((((((nI (x)) - ((((nI (x)).toUInt32 >>> ((nI (1)).toUInt32 &&& Int32.toUInt32 31)).toInt32) &&& (1431655765))) &&& (858993459)) + (((((nI (x)) - ((((nI (x)).toUInt32 >>> ((nI (1)).toUInt32 &&& Int32.toUInt32 31)).toInt32) &&& (1431655765))).toUInt32 >>> ((nI (2)).toUInt32 &&& Int32.toUInt32 31)).toInt32) &&& (858993459))) + ((((((nI (x)) - ((((nI (x)).toUInt32 >>> ((nI (1)).toUInt32 &&& Int32.toUInt32 31)).toInt32) &&& (1431655765))) &&& (858993459)) + (((((nI (x)) - ((((nI (x)).toUInt32 >>> ((nI (1)).toUInt32 &&& Int32.toUInt32 31)).toInt32) &&& (1431655765))).toUInt32 >>> ((nI (2)).toUInt32 &&& Int32.toUInt32 31)).toInt32) &&& (858993459))).toUInt32 >>> ((nI (4)).toUInt32 &&& Int32.toUInt32 31)).toInt32)) &&& (252645135)) + ((((((((nI (x)) - ((((nI (x)).toUInt32 >>> ((nI (1)).toUInt32 &&& Int32.toUInt32 31)).toInt32) &&& (1431655765))) &&& (858993459)) + (((((nI (x)) - ((((nI (x)).toUInt32 >>> ((nI (1)).toUInt32 &&& Int32.toUInt32 31)).toInt32) &&& (1431655765))).toUInt32 >>> ((nI (2)).toUInt32 &&& Int32.toUInt32 31)).toInt32) &&& (858993459))) + ((((((nI (x)) - ((((nI (x)).toUInt32 >>> ((nI (1)).toUInt32 &&& Int32.toUInt32 31)).toInt32) &&& (1431655765))) &&& (858993459)) + (((((nI (x)) - ((((nI (x)).toUInt32 >>> ((nI (1)).toUInt32 &&& Int32.toUInt32 31)).toInt32) &&& (1431655765))).toUInt32 >>> ((nI (2)).toUInt32 &&& Int32.toUInt32 31)).toInt32) &&& (858993459))).toUInt32 >>> ((nI (4)).toUInt32 &&& Int32.toUInt32 31)).toInt32)) &&& (252645135)).toUInt32 >>> ((nI (8)).toUInt32 &&& Int32.toUInt32 31)).toInt32)).toUInt32 >>> ((nI (16)).toUInt32 &&& Int32.toUInt32 31)).toInt32) hx hb dJ6_bitCount_0f7a4_45 rfl ?_
  refine lv_iadd hx hb dJ6_bitCount_0f7a4_46 ?_
  refine lv_istore_n (lv' := [(0, .int ((((((((nI (x)) - ((((nI (x)).toUInt32 >>> ((nI (1)).toUInt32 &&& Int32.toUInt32 31)).toInt32) &&& (1431655765))) &&& (858993459)) + (((((nI (x)) - ((((nI (x)).toUInt32 >>> ((nI (1)).toUInt32 &&& Int32.toUInt32 31)).toInt32) &&& (1431655765))).toUInt32 >>> ((nI (2)).toUInt32 &&& Int32.toUInt32 31)).toInt32) &&& (858993459))) + ((((((nI (x)) - ((((nI (x)).toUInt32 >>> ((nI (1)).toUInt32 &&& Int32.toUInt32 31)).toInt32) &&& (1431655765))) &&& (858993459)) + (((((nI (x)) - ((((nI (x)).toUInt32 >>> ((nI (1)).toUInt32 &&& Int32.toUInt32 31)).toInt32) &&& (1431655765))).toUInt32 >>> ((nI (2)).toUInt32 &&& Int32.toUInt32 31)).toInt32) &&& (858993459))).toUInt32 >>> ((nI (4)).toUInt32 &&& Int32.toUInt32 31)).toInt32)) &&& (252645135)) + ((((((((nI (x)) - ((((nI (x)).toUInt32 >>> ((nI (1)).toUInt32 &&& Int32.toUInt32 31)).toInt32) &&& (1431655765))) &&& (858993459)) + (((((nI (x)) - ((((nI (x)).toUInt32 >>> ((nI (1)).toUInt32 &&& Int32.toUInt32 31)).toInt32) &&& (1431655765))).toUInt32 >>> ((nI (2)).toUInt32 &&& Int32.toUInt32 31)).toInt32) &&& (858993459))) + ((((((nI (x)) - ((((nI (x)).toUInt32 >>> ((nI (1)).toUInt32 &&& Int32.toUInt32 31)).toInt32) &&& (1431655765))) &&& (858993459)) + (((((nI (x)) - ((((nI (x)).toUInt32 >>> ((nI (1)).toUInt32 &&& Int32.toUInt32 31)).toInt32) &&& (1431655765))).toUInt32 >>> ((nI (2)).toUInt32 &&& Int32.toUInt32 31)).toInt32) &&& (858993459))).toUInt32 >>> ((nI (4)).toUInt32 &&& Int32.toUInt32 31)).toInt32)) &&& (252645135)).toUInt32 >>> ((nI (8)).toUInt32 &&& Int32.toUInt32 31)).toInt32)) + (((((((((nI (x)) - ((((nI (x)).toUInt32 >>> ((nI (1)).toUInt32 &&& Int32.toUInt32 31)).toInt32) &&& (1431655765))) &&& (858993459)) + (((((nI (x)) - ((((nI (x)).toUInt32 >>> ((nI (1)).toUInt32 &&& Int32.toUInt32 31)).toInt32) &&& (1431655765))).toUInt32 >>> ((nI (2)).toUInt32 &&& Int32.toUInt32 31)).toInt32) &&& (858993459))) + ((((((nI (x)) - ((((nI (x)).toUInt32 >>> ((nI (1)).toUInt32 &&& Int32.toUInt32 31)).toInt32) &&& (1431655765))) &&& (858993459)) + (((((nI (x)) - ((((nI (x)).toUInt32 >>> ((nI (1)).toUInt32 &&& Int32.toUInt32 31)).toInt32) &&& (1431655765))).toUInt32 >>> ((nI (2)).toUInt32 &&& Int32.toUInt32 31)).toInt32) &&& (858993459))).toUInt32 >>> ((nI (4)).toUInt32 &&& Int32.toUInt32 31)).toInt32)) &&& (252645135)) + ((((((((nI (x)) - ((((nI (x)).toUInt32 >>> ((nI (1)).toUInt32 &&& Int32.toUInt32 31)).toInt32) &&& (1431655765))) &&& (858993459)) + (((((nI (x)) - ((((nI (x)).toUInt32 >>> ((nI (1)).toUInt32 &&& Int32.toUInt32 31)).toInt32) &&& (1431655765))).toUInt32 >>> ((nI (2)).toUInt32 &&& Int32.toUInt32 31)).toInt32) &&& (858993459))) + ((((((nI (x)) - ((((nI (x)).toUInt32 >>> ((nI (1)).toUInt32 &&& Int32.toUInt32 31)).toInt32) &&& (1431655765))) &&& (858993459)) + (((((nI (x)) - ((((nI (x)).toUInt32 >>> ((nI (1)).toUInt32 &&& Int32.toUInt32 31)).toInt32) &&& (1431655765))).toUInt32 >>> ((nI (2)).toUInt32 &&& Int32.toUInt32 31)).toInt32) &&& (858993459))).toUInt32 >>> ((nI (4)).toUInt32 &&& Int32.toUInt32 31)).toInt32)) &&& (252645135)).toUInt32 >>> ((nI (8)).toUInt32 &&& Int32.toUInt32 31)).toInt32)).toUInt32 >>> ((nI (16)).toUInt32 &&& Int32.toUInt32 31)).toInt32)))]) hx hb dJ6_bitCount_0f7a4_47 rfl hl (by decide) rfl (fun ls hl => ?_)
  refine lv_iload_n hx hb dJ6_bitCount_0f7a4_48 rfl (lv_at hl 0 rfl) ?_
  refine lv_bipush (v := nI (63)) hx hb dJ6_bitCount_0f7a4_49 (by decide) ?_
  refine lv_iand hx hb dJ6_bitCount_0f7a4_51 ?_
  exact hret (((((((((nI (x)) - ((((nI (x)).toUInt32 >>> ((nI (1)).toUInt32 &&& Int32.toUInt32 31)).toInt32) &&& (1431655765))) &&& (858993459)) + (((((nI (x)) - ((((nI (x)).toUInt32 >>> ((nI (1)).toUInt32 &&& Int32.toUInt32 31)).toInt32) &&& (1431655765))).toUInt32 >>> ((nI (2)).toUInt32 &&& Int32.toUInt32 31)).toInt32) &&& (858993459))) + ((((((nI (x)) - ((((nI (x)).toUInt32 >>> ((nI (1)).toUInt32 &&& Int32.toUInt32 31)).toInt32) &&& (1431655765))) &&& (858993459)) + (((((nI (x)) - ((((nI (x)).toUInt32 >>> ((nI (1)).toUInt32 &&& Int32.toUInt32 31)).toInt32) &&& (1431655765))).toUInt32 >>> ((nI (2)).toUInt32 &&& Int32.toUInt32 31)).toInt32) &&& (858993459))).toUInt32 >>> ((nI (4)).toUInt32 &&& Int32.toUInt32 31)).toInt32)) &&& (252645135)) + ((((((((nI (x)) - ((((nI (x)).toUInt32 >>> ((nI (1)).toUInt32 &&& Int32.toUInt32 31)).toInt32) &&& (1431655765))) &&& (858993459)) + (((((nI (x)) - ((((nI (x)).toUInt32 >>> ((nI (1)).toUInt32 &&& Int32.toUInt32 31)).toInt32) &&& (1431655765))).toUInt32 >>> ((nI (2)).toUInt32 &&& Int32.toUInt32 31)).toInt32) &&& (858993459))) + ((((((nI (x)) - ((((nI (x)).toUInt32 >>> ((nI (1)).toUInt32 &&& Int32.toUInt32 31)).toInt32) &&& (1431655765))) &&& (858993459)) + (((((nI (x)) - ((((nI (x)).toUInt32 >>> ((nI (1)).toUInt32 &&& Int32.toUInt32 31)).toInt32) &&& (1431655765))).toUInt32 >>> ((nI (2)).toUInt32 &&& Int32.toUInt32 31)).toInt32) &&& (858993459))).toUInt32 >>> ((nI (4)).toUInt32 &&& Int32.toUInt32 31)).toInt32)) &&& (252645135)).toUInt32 >>> ((nI (8)).toUInt32 &&& Int32.toUInt32 31)).toInt32)) + (((((((((nI (x)) - ((((nI (x)).toUInt32 >>> ((nI (1)).toUInt32 &&& Int32.toUInt32 31)).toInt32) &&& (1431655765))) &&& (858993459)) + (((((nI (x)) - ((((nI (x)).toUInt32 >>> ((nI (1)).toUInt32 &&& Int32.toUInt32 31)).toInt32) &&& (1431655765))).toUInt32 >>> ((nI (2)).toUInt32 &&& Int32.toUInt32 31)).toInt32) &&& (858993459))) + ((((((nI (x)) - ((((nI (x)).toUInt32 >>> ((nI (1)).toUInt32 &&& Int32.toUInt32 31)).toInt32) &&& (1431655765))) &&& (858993459)) + (((((nI (x)) - ((((nI (x)).toUInt32 >>> ((nI (1)).toUInt32 &&& Int32.toUInt32 31)).toInt32) &&& (1431655765))).toUInt32 >>> ((nI (2)).toUInt32 &&& Int32.toUInt32 31)).toInt32) &&& (858993459))).toUInt32 >>> ((nI (4)).toUInt32 &&& Int32.toUInt32 31)).toInt32)) &&& (252645135)) + ((((((((nI (x)) - ((((nI (x)).toUInt32 >>> ((nI (1)).toUInt32 &&& Int32.toUInt32 31)).toInt32) &&& (1431655765))) &&& (858993459)) + (((((nI (x)) - ((((nI (x)).toUInt32 >>> ((nI (1)).toUInt32 &&& Int32.toUInt32 31)).toInt32) &&& (1431655765))).toUInt32 >>> ((nI (2)).toUInt32 &&& Int32.toUInt32 31)).toInt32) &&& (858993459))) + ((((((nI (x)) - ((((nI (x)).toUInt32 >>> ((nI (1)).toUInt32 &&& Int32.toUInt32 31)).toInt32) &&& (1431655765))) &&& (858993459)) + (((((nI (x)) - ((((nI (x)).toUInt32 >>> ((nI (1)).toUInt32 &&& Int32.toUInt32 31)).toInt32) &&& (1431655765))).toUInt32 >>> ((nI (2)).toUInt32 &&& Int32.toUInt32 31)).toInt32) &&& (858993459))).toUInt32 >>> ((nI (4)).toUInt32 &&& Int32.toUInt32 31)).toInt32)) &&& (252645135)).toUInt32 >>> ((nI (8)).toUInt32 &&& Int32.toUInt32 31)).toInt32)).toUInt32 >>> ((nI (16)).toUInt32 &&& Int32.toUInt32 31)).toInt32)) &&& (nI (63))) () _ _ 52 _ dJ6_bitCount_0f7a4_52 rfl (by exact hp) hP hD hS

set_option maxHeartbeats 4000000 in
set_option maxRecDepth 100000 in
theorem k_fillLoads (l : Launch) (D : va_G) (a : Nat → Nat) (cI cJ cZ : ClassId) (A : Nat → Prop) (v : Nat → Nat → Nat) (c : Nat → Nat → Int32) :
    mV l yJ7_fill_53178 wsJ7_fill_53178 0 0 [.ref (a 19), .int (nI 0)] D (xT cI cJ cZ) A (xW a cI cJ cZ v c) (fun u : ((Nat → Nat → Nat) × (Nat → Nat → Int32)) => xW a cI cJ cZ u.1 u.2)
    (fun (u : ((Nat → Nat → Nat) × (Nat → Nat → Int32))) => u = (va_up v 19 (flf (v 19) 0 7 0), c)) := by
  refine w_bV cJ7_fill_53178 4 (by decide) rfl (Nat.le_of_ble_eq_true rfl) ?_
  intro p e s m args below meth c0 ls Q hx hb hml hts hown hK hN hA hret hP hD hS hl
  have hl : lv_has ls 4 [(0, .ref (a 19)), (1, .int (nI (0)))] := hl
  refine lv_iconst (v := nI (0)) hx hb dJ7_fill_53178_0 (by decide) ?_
  refine lv_istore_n (lv' := [(2, .int (nI (0))), (0, .ref (a 19)), (1, .int (nI (0)))]) hx hb dJ7_fill_53178_1 rfl hl (by decide) rfl (fun ls hl => ?_)
  refine lv_aload_n hx hb dJ7_fill_53178_2 rfl (lv_at hl 1 rfl) ?_
  refine va_alen (v := nI 7) hx hb hK hP 19 0 rfl rfl rfl dJ7_fill_53178_3 ?_
  refine lv_istore_n (lv' := [(3, .int (nI (7))), (2, .int (nI (0))), (0, .ref (a 19)), (1, .int (nI (0)))]) hx hb dJ7_fill_53178_4 rfl hl (by decide) rfl (fun ls hl => ?_)
  have L5 : ∀ (n : Nat) (i : Nat) (g : Nat → Nat) (H : Heap) (locs : List Loc) (ls : Array Slot), 7 - i < n → i ≤ 7 → g = flf (v 19) 0 i 0 → va_P D vwCl (xW a cI cJ cZ (va_up v 19 (g)) c) H → va_D A (xW a cI cJ cZ (va_up v 19 (g)) c) → va_S A s.heap H locs → lv_has ls 4 [(2, .int (nI (i))), (0, .ref (a 19)), (1, .int (nI (0))), (3, .int (nI (7)))] → W p l e { frames := 0, cells := 0, slots := 0, locals := 0 } s m args below meth c0 H locs 0 0 Q (F0 m 5 ls []) := by
    intro n
    induction n with
    | zero => intro i g H locs ls hm; exact absurd hm (Nat.not_lt_zero _)
    | succ n ih5 =>
      intro i g H locs ls hm5 h1 h2 hP hD hS hl
      refine lv_iload_n hx hb dJ7_fill_53178_5 rfl (lv_at hl 0 rfl) ?_
      refine lv_iload_n hx hb dJ7_fill_53178_6 rfl (lv_at hl 3 rfl) ?_
      refine w_icmp_ge (x := i) (y := 7) hx hb dJ7_fill_53178_7 (tgt := 20) (by decide) (by omega) (by omega) (fun c7 => ?_) (fun c7 => ?_)
      · skip
        exact hret (va_up v 19 (g), c) _ _ 20 _ dJ7_fill_53178_20 (by have e : i = 7 := (by omega); subst e; rw [h2]) hP hD hS
      · skip
        refine lv_aload_n hx hb dJ7_fill_53178_10 rfl (lv_at hl 1 rfl) ?_
        refine lv_iload_n hx hb dJ7_fill_53178_11 rfl (lv_at hl 0 rfl) ?_
        refine lv_iload_n hx hb dJ7_fill_53178_12 rfl (lv_at hl 2 rfl) ?_
        refine w_iast (f := g) (w := 0) hx hb hK hP hD hS 19 0 rfl rfl (i := i) (by omega) (by decide) dJ7_fill_53178_13 (fun H locs hP hD hS => ?_)
        have hP : va_P D vwCl (xW a cI cJ cZ (va_up v 19 (va_up g i 0)) c) H := hP
        have hD : va_D A (xW a cI cJ cZ (va_up v 19 (va_up g i 0)) c) := hD
        refine lv_iinc (v := nI (i + 1)) (lv' := [(2, .int (nI (i + 1))), (0, .ref (a 19)), (1, .int (nI (0))), (3, .int (nI (7)))]) hx hb dJ7_fill_53178_14 hl (k := 0) rfl (nI_add i 1) (by decide) rfl (fun ls hl => ?_)
        refine lv_goto (tgt := 5) hx hb dJ7_fill_53178_17 (by decide) ?_
        exact ih5 (i + 1) (va_up g i 0) _ _ _ (by omega) (by omega) (by rw [h2, flf_s _ (Nat.zero_le _)]) hP hD hS (lv_sub hl [0, 1, 2, 3] rfl)
  exact L5 ((7 - 0) + 1) 0 (v 19) _ _ _ (Nat.lt_succ_self _) (by omega) (by exact (flf_0 _ _ _).symm) hP hD hS (lv_sub hl [1, 2, 3, 0] rfl)

set_option maxHeartbeats 4000000 in
set_option maxRecDepth 100000 in
theorem k_fillHope (l : Launch) (D : va_G) (a : Nat → Nat) (cI cJ cZ : ClassId) (A : Nat → Prop) (v : Nat → Nat → Nat) (c : Nat → Nat → Int32) :
    mV l yJ7_fill_d0a16 wsJ7_fill_d0a16 0 0 [.ref (a 22), .long (lN 0)] D (xT cI cJ cZ) A (xW a cI cJ cZ v c) (fun u : ((Nat → Nat → Nat) × (Nat → Nat → Int32)) => xW a cI cJ cZ u.1 u.2)
    (fun (u : ((Nat → Nat → Nat) × (Nat → Nat → Int32))) => u = (va_up v 22 (flf (v 22) 0 38 0), c)) := by
  refine w_bV cJ7_fill_d0a16 5 (by decide) rfl (Nat.le_of_ble_eq_true rfl) ?_
  intro p e s m args below meth c0 ls Q hx hb hml hts hown hK hN hA hret hP hD hS hl
  have hl : lv_has ls 5 [(0, .ref (a 22)), (1, .long (lN (0)))] := hl
  refine lv_iconst (v := nI (0)) hx hb dJ7_fill_d0a16_0 (by decide) ?_
  refine lv_istore_n (lv' := [(3, .int (nI (0))), (0, .ref (a 22)), (1, .long (lN (0)))]) hx hb dJ7_fill_d0a16_1 rfl hl (by decide) rfl (fun ls hl => ?_)
  refine lv_aload_n hx hb dJ7_fill_d0a16_2 rfl (lv_at hl 1 rfl) ?_
  refine va_alen (v := nI 38) hx hb hK hP 22 1 rfl rfl rfl dJ7_fill_d0a16_3 ?_
  refine lv_istore (lv' := [(4, .int (nI (38))), (3, .int (nI (0))), (0, .ref (a 22)), (1, .long (lN (0)))]) hx hb dJ7_fill_d0a16_4 hl (by decide) rfl (fun ls hl => ?_)
  have L6 : ∀ (n : Nat) (i : Nat) (g : Nat → Nat) (H : Heap) (locs : List Loc) (ls : Array Slot), 38 - i < n → i ≤ 38 → g = flf (v 22) 0 i 0 → va_P D vwCl (xW a cI cJ cZ (va_up v 22 (g)) c) H → va_D A (xW a cI cJ cZ (va_up v 22 (g)) c) → va_S A s.heap H locs → lv_has ls 5 [(3, .int (nI (i))), (0, .ref (a 22)), (1, .long (lN (0))), (4, .int (nI (38)))] → W p l e { frames := 0, cells := 0, slots := 0, locals := 0 } s m args below meth c0 H locs 0 0 Q (F0 m 6 ls []) := by
    intro n
    induction n with
    | zero => intro i g H locs ls hm; exact absurd hm (Nat.not_lt_zero _)
    | succ n ih6 =>
      intro i g H locs ls hm6 h1 h2 hP hD hS hl
      refine lv_iload_n hx hb dJ7_fill_d0a16_6 rfl (lv_at hl 0 rfl) ?_
      refine lv_iload hx hb dJ7_fill_d0a16_7 (lv_at hl 3 rfl) ?_
      refine w_icmp_ge (x := i) (y := 38) hx hb dJ7_fill_d0a16_9 (tgt := 22) (by decide) (by omega) (by omega) (fun c9 => ?_) (fun c9 => ?_)
      · skip
        exact hret (va_up v 22 (g), c) _ _ 22 _ dJ7_fill_d0a16_22 (by have e : i = 38 := (by omega); subst e; rw [h2]) hP hD hS
      · skip
        refine lv_aload_n hx hb dJ7_fill_d0a16_12 rfl (lv_at hl 1 rfl) ?_
        refine lv_iload_n hx hb dJ7_fill_d0a16_13 rfl (lv_at hl 0 rfl) ?_
        refine lv_lload_n hx hb dJ7_fill_d0a16_14 rfl (lv_at hl 2 rfl) ?_
        refine w_last (f := g) (w := 0) hx hb hK hP hD hS 22 1 rfl rfl (i := i) (by omega) (by decide) dJ7_fill_d0a16_15 (fun H locs hP hD hS => ?_)
        have hP : va_P D vwCl (xW a cI cJ cZ (va_up v 22 (va_up g i 0)) c) H := hP
        have hD : va_D A (xW a cI cJ cZ (va_up v 22 (va_up g i 0)) c) := hD
        refine lv_iinc (v := nI (i + 1)) (lv' := [(3, .int (nI (i + 1))), (0, .ref (a 22)), (1, .long (lN (0))), (4, .int (nI (38)))]) hx hb dJ7_fill_d0a16_16 hl (k := 0) rfl (nI_add i 1) (by decide) rfl (fun ls hl => ?_)
        refine lv_goto (tgt := 6) hx hb dJ7_fill_d0a16_19 (by decide) ?_
        exact ih6 (i + 1) (va_up g i 0) _ _ _ (by omega) (by omega) (by rw [h2, flf_s _ (Nat.zero_le _)]) hP hD hS (lv_sub hl [0, 1, 2, 3] rfl)
  exact L6 ((38 - 0) + 1) 0 (v 22) _ _ _ (Nat.lt_succ_self _) (by omega) (by exact (flf_0 _ _ _).symm) hP hD hS (lv_sub hl [1, 2, 3, 0] rfl)

set_option maxHeartbeats 4000000 in
set_option maxRecDepth 100000 in
theorem k_range (l : Launch) (D : va_G) (a : Nat → Nat) (cI cJ cZ : ClassId) (A : Nat → Prop) (v : Nat → Nat → Nat) (c : Nat → Nat → Int32) (n1 : Nat) (x : Nat) (y : Nat) (h1 : x ≤ y) (h2 : y ≤ n1) (h3 : n1 < 2147483648) :
    mV l yJ7_rangeCheck_23922 wsJ7_rangeCheck_23922 0 0 [.int (nI n1), .int (nI x), .int (nI y)] D (xT cI cJ cZ) A (xW a cI cJ cZ v c) (fun _ : Unit => xW a cI cJ cZ v c)
    (fun (u : Unit) => True) := by
  refine w_bV cJ7_rangeCheck_23922 3 (by decide) rfl (Nat.le_of_ble_eq_true rfl) ?_
  intro p e s m args below meth c0 ls Q hx hb hml hts hown hK hN hA hret hP hD hS hl
  have hl : lv_has ls 3 [(0, .int (nI (n1))), (1, .int (nI (x))), (2, .int (nI (y)))] := hl
  refine lv_iload_n hx hb dJ7_rangeCheck_23922_0 rfl (lv_at hl 1 rfl) ?_
  refine lv_iload_n hx hb dJ7_rangeCheck_23922_1 rfl (lv_at hl 2 rfl) ?_
  refine w_icmp_le (x := x) (y := y) hx hb dJ7_rangeCheck_23922_2 (tgt := 46) (by decide) (by omega) (by omega) (fun c2 => ?_) (fun c2 => absurd c2 (by omega))
  refine lv_iload_n hx hb dJ7_rangeCheck_23922_46 rfl (lv_at hl 1 rfl) ?_
  refine w_if_ge (x := x) hx hb dJ7_rangeCheck_23922_47 (tgt := 59) (by decide) (by omega) ?_
  refine lv_iload_n hx hb dJ7_rangeCheck_23922_59 rfl (lv_at hl 2 rfl) ?_
  refine lv_iload_n hx hb dJ7_rangeCheck_23922_60 rfl (lv_at hl 0 rfl) ?_
  refine w_icmp_le (x := y) (y := n1) hx hb dJ7_rangeCheck_23922_61 (tgt := 73) (by decide) (by omega) (by omega) (fun c61 => ?_) (fun c61 => absurd c61 (by omega))
  exact hret () _ _ 73 _ dJ7_rangeCheck_23922_73 (by trivial) hP hD hS

set_option maxHeartbeats 4000000 in
set_option maxRecDepth 100000 in
theorem k_fillCells (l : Launch) (D : va_G) (a : Nat → Nat) (cI cJ cZ : ClassId) (A : Nat → Prop) (v : Nat → Nat → Nat) (c : Nat → Nat → Int32) (x : Nat) (y : Nat) (h1 : x ≤ y) (h2 : y ≤ 320) :
    mV l yJ7_fill_fda19 wsJ7_fill_fda19 1 22 [.ref (a 4), .int (nI x), .int (nI y), .int (nI 0)] D (xT cI cJ cZ) A (xW a cI cJ cZ v c) (fun u : ((Nat → Nat → Nat) × (Nat → Nat → Int32)) => xW a cI cJ cZ u.1 u.2)
    (fun (u : ((Nat → Nat → Nat) × (Nat → Nat → Int32))) => u = (v, va_up c 4 (flf (c 4) x y 0))) := by
  refine w_bV cJ7_fill_fda19 5 (by decide) rfl (Nat.le_of_ble_eq_true rfl) ?_
  intro p e s m args below meth c0 ls Q hx hb hml hts hown hK hN hA hret hP hD hS hl
  have hl : lv_has ls 5 [(0, .ref (a 4)), (1, .int (nI (x))), (2, .int (nI (y))), (3, .int (nI (0)))] := hl
  refine lv_aload_n hx hb dJ7_fill_fda19_0 rfl (lv_at hl 0 rfl) ?_
  refine va_alen (v := nI 320) hx hb hK hP 4 0 rfl rfl rfl dJ7_fill_fda19_1 ?_
  refine lv_iload_n hx hb dJ7_fill_fda19_2 rfl (lv_at hl 1 rfl) ?_
  refine lv_iload_n hx hb dJ7_fill_fda19_3 rfl (lv_at hl 2 rfl) ?_
  refine w_cSv (rest := []) hx hb hml hown hts (k_range l D a cI cJ cZ A v c 320 x y  (by first | assumption | omega) (by first | assumption | omega) (by first | assumption | omega)) 3 gJ7_fill_fda19_J7_rangeCheck_23922 rfl hdJ7_rangeCheck_23922 ⟨Nat.le_of_ble_eq_true rfl, Nat.le_of_ble_eq_true rfl⟩ hK hN hP hD hS hA rfl hl.1 rfl (Nat.le_of_ble_eq_true rfl) dJ7_fill_fda19_4 ⟨Nat.le_of_ble_eq_true rfl, Nat.le_of_ble_eq_true rfl⟩ (fun u H locs hq hP hD hS => ?_)
  have hP : va_P D vwCl (xW a cI cJ cZ v c) H := hP
  have hD : va_D A (xW a cI cJ cZ v c) := hD
  refine lv_iload_n hx hb dJ7_fill_fda19_7 rfl (lv_at hl 1 rfl) ?_
  refine lv_istore (lv' := [(4, .int (nI (x))), (0, .ref (a 4)), (1, .int (nI (x))), (2, .int (nI (y))), (3, .int (nI (0)))]) hx hb dJ7_fill_fda19_8 hl (by decide) rfl (fun ls hl => ?_)
  have L10 : ∀ (n : Nat) (i : Nat) (g : Nat → Int32) (H : Heap) (locs : List Loc) (ls : Array Slot), y - i < n → i ≤ y ∧ x ≤ i → g = flf (c 4) x i 0 → va_P D vwCl (xW a cI cJ cZ v (va_up c 4 (g))) H → va_D A (xW a cI cJ cZ v (va_up c 4 (g))) → va_S A s.heap H locs → lv_has ls 5 [(4, .int (nI (i))), (0, .ref (a 4)), (1, .int (nI (x))), (2, .int (nI (y))), (3, .int (nI (0)))] → W p l e { frames := 1, cells := 0, slots := 0, locals := 22 } s m args below meth c0 H locs 0 0 Q (F0 m 10 ls []) := by
    intro n
    induction n with
    | zero => intro i g H locs ls hm; exact absurd hm (Nat.not_lt_zero _)
    | succ n ih10 =>
      intro i g H locs ls hm10 h3 h4 hP hD hS hl
      refine lv_iload hx hb dJ7_fill_fda19_10 (lv_at hl 0 rfl) ?_
      refine lv_iload_n hx hb dJ7_fill_fda19_12 rfl (lv_at hl 3 rfl) ?_
      refine w_icmp_ge (x := i) (y := y) hx hb dJ7_fill_fda19_13 (tgt := 27) (by decide) (by omega) (by omega) (fun c13 => ?_) (fun c13 => ?_)
      · skip
        exact hret (v, va_up c 4 (g)) _ _ 27 _ dJ7_fill_fda19_27 (by have e : i = y := (by omega); subst e; rw [h4]) hP hD hS
      · skip
        refine lv_aload_n hx hb dJ7_fill_fda19_16 rfl (lv_at hl 1 rfl) ?_
        refine lv_iload hx hb dJ7_fill_fda19_17 (lv_at hl 0 rfl) ?_
        refine lv_iload_n hx hb dJ7_fill_fda19_19 rfl (lv_at hl 4 rfl) ?_
        refine r_iast (f := g) (w := nI (0)) hx hb hK hP hD hS 4 0 rfl rfl (i := i) (by omega) (by decide) dJ7_fill_fda19_20 (fun H locs hP hD hS => ?_)
        have hP : va_P D vwCl (xW a cI cJ cZ v (va_up c 4 (va_up g i (nI (0))))) H := hP
        have hD : va_D A (xW a cI cJ cZ v (va_up c 4 (va_up g i (nI (0))))) := hD
        refine lv_iinc (v := nI (i + 1)) (lv' := [(4, .int (nI (i + 1))), (0, .ref (a 4)), (1, .int (nI (x))), (2, .int (nI (y))), (3, .int (nI (0)))]) hx hb dJ7_fill_fda19_21 hl (k := 0) rfl (nI_add i 1) (by decide) rfl (fun ls hl => ?_)
        refine lv_goto (tgt := 10) hx hb dJ7_fill_fda19_24 (by decide) ?_
        exact ih10 (i + 1) (va_up g i (nI (0))) _ _ _ (by omega) (by omega) (by rw [h4]; exact flf_s _ h3.2 _) hP hD hS (lv_sub hl [0, 1, 2, 3, 4] rfl)
  exact L10 ((y - x) + 1) x (c 4) _ _ _ (Nat.lt_succ_self _) (by omega) (by exact (flf_0 _ _ _).symm) hP hD hS (lv_sub hl [0, 1, 2, 3, 4] rfl)

set_option maxHeartbeats 4000000 in
set_option maxRecDepth 100000 in
theorem k_ffull (l : Launch) (D : va_G) (a : Nat → Nat) (cI cJ cZ : ClassId) (A : Nat → Prop) (v : Nat → Nat → Nat) (c : Nat → Nat → Int32) (hnf : v 23 0 ≤ 6) :
    mI l yX1_isFull wsX1_isFull 0 0 [.ref (a 23)] D (xT cI cJ cZ) A (xW a cI cJ cZ v c) (fun _ : Unit => xW a cI cJ cZ v c)
    (fun (r : Int32) (u : Unit) => (r = nI (1) ∧ 6 ≤ v 23 0) ∨ (r = nI (0) ∧ v 23 0 < 6)) := by
  refine w_bI cX1_isFull 1 .boolean (by decide) rfl (Nat.le_of_ble_eq_true rfl) (Or.inr rfl) ?_
  intro p e s m args below meth c0 ls Q hx hb hml hts hown hK hN hA hret hP hD hS hl
  have hl : lv_has ls 1 [(0, .ref (a 23))] := hl
  have hinX1 : ∀ w ∈ wsX10, w ∈ wsX1_isFull := fun w h => List.mem_cons_of_mem _ (List.mem_append_right _ h)
  refine lv_aload_n hx hb dX1_isFull_0 rfl (lv_at hl 0 rfl) ?_
  refine va_get (D := D) (ci := 1) (v := .int (nI (v 23 0))) (C := RX1) (T := TX1) (N := 2) hx hb hts hinX1 hown hK hP 23 rfl rfl 0 (by decide) (hts (.fieldLink RX1 15 "DancedLock$Families" "count" "I") (List.mem_of_getElem? (i := 1) rfl)) (fun _ h9 => h9) rfl dX1_isFull_1 ?_
  refine lv_bipush (v := nI (6)) hx hb dX1_isFull_4 (by decide) ?_
  refine w_icmp_lt (x := v 23 0) (y := 6) hx hb dX1_isFull_6 (tgt := 13) (by decide) (by omega) (by omega) (fun c6 => ?_) (fun c6 => ?_)
  · skip
    refine lv_iconst (v := nI (0)) hx hb dX1_isFull_13 (by decide) ?_
    exact hret (nI (0)) () _ _ 14 _ dX1_isFull_14 rfl (by exact Or.inr ⟨rfl, by omega⟩) hP hD hS
  · skip
    refine lv_iconst (v := nI (1)) hx hb dX1_isFull_9 (by decide) ?_
    refine lv_goto (tgt := 14) hx hb dX1_isFull_10 (by decide) ?_
    exact hret (nI (1)) () _ _ 14 _ dX1_isFull_14 rfl (by exact Or.inl ⟨rfl, by omega⟩) hP hD hS

set_option maxHeartbeats 4000000 in
set_option maxRecDepth 100000 in
theorem k_fadd (l : Launch) (D : va_G) (a : Nat → Nat) (cI cJ cZ : ClassId) (A : Nat → Prop) (v : Nat → Nat → Nat) (c : Nat → Nat → Int32) (z : Nat) (hnf : v 23 0 < 6) :
    mI l yX1_add wsX1_add 1 20 [.ref (a 23), .int (nI z)] D (xT cI cJ cZ) A (xW a cI cJ cZ v c) (fun u : ((Nat → Nat → Nat) × (Nat → Nat → Int32)) => xW a cI cJ cZ u.1 u.2)
    (fun (r : Int32) (u : ((Nat → Nat → Nat) × (Nat → Nat → Int32))) => r = nI (v 23 0) ∧ u = (va_up (va_up v 23 (va_up (v 23) 0 (v 23 0 + 1))) 24 (va_up (v 24) (v 23 0) z), c)) := by
  refine w_bI cX1_add 2 .int (by decide) rfl (Nat.le_of_ble_eq_true rfl) (Or.inl rfl) ?_
  intro p e s m args below meth c0 ls Q hx hb hml hts hown hK hN hA hret hP hD hS hl
  have hl : lv_has ls 2 [(0, .ref (a 23)), (1, .int (nI (z)))] := hl
  have hinX1 : ∀ w ∈ wsX10, w ∈ wsX1_add := fun w h => List.mem_cons_of_mem _ (List.mem_append_right _ h)
  refine lv_aload_n hx hb dX1_add_0 rfl (lv_at hl 0 rfl) ?_
  refine w_cVi (rest := []) hx hb hml hown hts (k_ffull l D a cI cJ cZ A v c   (by first | assumption | omega)) 0 gX1_add_X1_isFull rfl hdX1_isFull ⟨Nat.le_of_ble_eq_true rfl, Nat.le_of_ble_eq_true rfl⟩ hK hN hP hD hS hA 23 1 rfl rfl rfl rfl hl.1 rfl (Nat.le_of_ble_eq_true rfl) dX1_add_1 ⟨Nat.le_of_ble_eq_true rfl, Nat.le_of_ble_eq_true rfl⟩ (fun r u H locs hq hP hD hS => ?_)
  rcases hq with ⟨rfl, h_1⟩ | ⟨rfl, h_1⟩
  · skip
    exfalso; omega
  · skip
    have hP : va_P D vwCl (xW a cI cJ cZ v c) H := hP
    have hD : va_D A (xW a cI cJ cZ v c) := hD
    refine w_if_eq (x := 0) hx hb dX1_add_4 (tgt := 10) (by decide) (by decide) (fun _ => ?_) (fun h => absurd h (by decide))
    refine lv_aload_n hx hb dX1_add_10 rfl (lv_at hl 0 rfl) ?_
    refine va_get (D := D) (ci := 1) (v := .ref (a 24)) (C := RX1) (T := TX1) (N := 2) hx hb hts hinX1 hown hK hP 23 rfl rfl 1 (by decide) (hts (.fieldLink RX1 11 "DancedLock$Families" "known" "[I") (List.mem_of_getElem? (i := 1) rfl)) (fun _ h9 => h9) rfl dX1_add_11 ?_
    refine lv_aload_n hx hb dX1_add_14 rfl (lv_at hl 0 rfl) ?_
    refine va_get (D := D) (ci := 1) (v := .int (nI (v 23 0))) (C := RX1) (T := TX1) (N := 2) hx hb hts hinX1 hown hK hP 23 rfl rfl 0 (by decide) (hts (.fieldLink RX1 15 "DancedLock$Families" "count" "I") (List.mem_of_getElem? (i := 2) rfl)) (fun _ h9 => h9) rfl dX1_add_15 ?_
    refine lv_iload_n hx hb dX1_add_18 rfl (lv_at hl 1 rfl) ?_
    refine w_iast (f := v 24) (w := z) hx hb hK hP hD hS 24 0 rfl rfl (i := v 23 0) (by omega) (by decide) dX1_add_19 (fun H locs hP hD hS => ?_)
    have hP : va_P D vwCl (xW a cI cJ cZ (va_up v 24 (va_up (v 24) (v 23 0) z)) c) H := hP
    have hD : va_D A (xW a cI cJ cZ (va_up v 24 (va_up (v 24) (v 23 0) z)) c) := hD
    refine lv_aload_n hx hb dX1_add_20 rfl (lv_at hl 0 rfl) ?_
    refine lv_dup hx hb dX1_add_21 rfl ?_
    refine va_get (D := D) (ci := 1) (v := .int (nI (v 23 0))) (C := RX1) (T := TX1) (N := 2) hx hb hts hinX1 hown hK hP 23 rfl rfl 0 (by decide) (hts (.fieldLink RX1 15 "DancedLock$Families" "count" "I") (List.mem_of_getElem? (i := 2) rfl)) (fun _ h9 => h9) rfl dX1_add_22 ?_
    refine lv_iconst (v := nI (1)) hx hb dX1_add_25 (by decide) ?_
    refine w_iadd (x := v 23 0) (y := 1) hx hb dX1_add_26  ?_
    refine va_put (D := D) (ci := 1) (v := .int (nI (v 23 0 + 1))) (ty := .int) (C := RX1) (T := TX1) (N := 2) hx hb hts hinX1 tyX1 tyX1_ok nmX1 hown hK hP hD hS 23 rfl rfl 0 (by decide) (hts (.fieldLink RX1 15 "DancedLock$Families" "count" "I") (List.mem_of_getElem? (i := 2) rfl)) (fun _ h9 => h9) rfl (by decide +kernel) rfl (rfl) (Nat.le_of_ble_eq_true rfl) dX1_add_27 (fun H locs hP hD hS => ?_)
    have hP : va_P D vwCl (xW a cI cJ cZ (va_up (va_up v 23 (va_up (v 23) 0 (v 23 0 + 1))) 24 (va_up (v 24) (v 23 0) z)) c) H := hP
    have hD : va_D A (xW a cI cJ cZ (va_up (va_up v 23 (va_up (v 23) 0 (v 23 0 + 1))) 24 (va_up (v 24) (v 23 0) z)) c) := hD
    refine lv_aload_n hx hb dX1_add_30 rfl (lv_at hl 0 rfl) ?_
    refine va_get (D := D) (ci := 1) (v := .int (nI (v 23 0 + 1))) (C := RX1) (T := TX1) (N := 2) hx hb hts hinX1 hown hK hP 23 rfl rfl 0 (by decide) (hts (.fieldLink RX1 15 "DancedLock$Families" "count" "I") (List.mem_of_getElem? (i := 2) rfl)) (fun _ h9 => h9) rfl dX1_add_31 ?_
    refine lv_iconst (v := nI (1)) hx hb dX1_add_34 (by decide) ?_
    refine w_isub (x := v 23 0 + 1) (y := 1) hx hb dX1_add_35 (by omega) ?_
    exact hret (nI ((v 23 0 + 1) - 1)) (va_up (va_up v 23 (va_up (v 23) 0 (v 23 0 + 1))) 24 (va_up (v 24) (v 23 0) z), c) _ _ 36 _ dX1_add_36 rfl (by exact ⟨by rw [Nat.add_sub_cancel], rfl⟩) hP hD hS

set_option maxHeartbeats 4000000 in
set_option maxRecDepth 100000 in
theorem k_fall (l : Launch) (D : va_G) (a : Nat → Nat) (cI cJ cZ : ClassId) (A : Nat → Prop) (v : Nat → Nat → Nat) (c : Nat → Nat → Int32) (hnf : v 23 0 ≤ 6) :
    mI l yX1_all wsX1_all 0 0 [.ref (a 23)] D (xT cI cJ cZ) A (xW a cI cJ cZ v c) (fun _ : Unit => xW a cI cJ cZ v c)
    (fun (r : Int32) (u : Unit) => r = nI (2 ^ v 23 0 - 1)) := by
  refine w_bI cX1_all 1 .int (by decide) rfl (Nat.le_of_ble_eq_true rfl) (Or.inl rfl) ?_
  intro p e s m args below meth c0 ls Q hx hb hml hts hown hK hN hA hret hP hD hS hl
  have hl : lv_has ls 1 [(0, .ref (a 23))] := hl
  have hinX1 : ∀ w ∈ wsX10, w ∈ wsX1_all := fun w h => List.mem_cons_of_mem _ (List.mem_append_right _ h)
  have hp := pow_le_64 hnf
  have hp1 := Nat.two_pow_pos (v 23 0)
  refine lv_iconst (v := nI (1)) hx hb dX1_all_0 (by decide) ?_
  refine lv_aload_n hx hb dX1_all_1 rfl (lv_at hl 0 rfl) ?_
  refine va_get (D := D) (ci := 1) (v := .int (nI (v 23 0))) (C := RX1) (T := TX1) (N := 2) hx hb hts hinX1 hown hK hP 23 rfl rfl 0 (by decide) (hts (.fieldLink RX1 15 "DancedLock$Families" "count" "I") (List.mem_of_getElem? (i := 1) rfl)) (fun _ h9 => h9) rfl dX1_all_2 ?_
  refine w_ishl (x := 1) (y := v 23 0) hx hb dX1_all_5 (by omega) (by omega) ?_
  refine lv_iconst (v := nI (1)) hx hb dX1_all_6 (by decide) ?_
  refine w_isub (x := 1 * 2 ^ (v 23 0)) (y := 1) hx hb dX1_all_7 (by omega) ?_
  exact hret (nI ((1 * 2 ^ (v 23 0)) - 1)) () _ _ 8 _ dX1_all_8 rfl (by rw [Nat.one_mul]) hP hD hS

set_option maxHeartbeats 4000000 in
set_option maxRecDepth 100000 in
theorem k_fbars (l : Launch) (D : va_G) (a : Nat → Nat) (cI cJ cZ : ClassId) (A : Nat → Prop) (v : Nat → Nat → Nat) (c : Nat → Nat → Int32) (f : Nat) (hnf : v 23 0 ≤ 6) (hf : f < v 23 0) :
    mI l yX1_barsOf wsX1_barsOf 1 21 [.ref (a 23), .int (nI f)] D (xT cI cJ cZ) A (xW a cI cJ cZ v c) (fun _ : Unit => xW a cI cJ cZ v c)
    (fun (r : Int32) (u : Unit) => r = nI (v 24 f)) := by
  refine w_bI cX1_barsOf 2 .int (by decide) rfl (Nat.le_of_ble_eq_true rfl) (Or.inl rfl) ?_
  intro p e s m args below meth c0 ls Q hx hb hml hts hown hK hN hA hret hP hD hS hl
  have hl : lv_has ls 2 [(0, .ref (a 23)), (1, .int (nI (f)))] := hl
  have hinX1 : ∀ w ∈ wsX10, w ∈ wsX1_barsOf := fun w h => List.mem_cons_of_mem _ (List.mem_append_right _ h)
  refine lv_aload_n hx hb dX1_barsOf_0 rfl (lv_at hl 0 rfl) ?_
  refine lv_iload_n hx hb dX1_barsOf_1 rfl (lv_at hl 1 rfl) ?_
  refine w_cVi (rest := []) hx hb hml hown hts (k_fincl_N l D a cI cJ cZ A v c f  (by first | assumption | omega) (by first | assumption | omega)) 1 gX1_barsOf_X1_includes rfl hdX1_includes ⟨Nat.le_of_ble_eq_true rfl, Nat.le_of_ble_eq_true rfl⟩ hK hN hP hD hS hA 23 1 rfl rfl rfl rfl hl.1 rfl (Nat.le_of_ble_eq_true rfl) dX1_barsOf_2 ⟨Nat.le_of_ble_eq_true rfl, Nat.le_of_ble_eq_true rfl⟩ (fun r u H locs hq hP hD hS => ?_)
  rcases hq with ⟨rfl, h_2⟩ | ⟨rfl, h_2⟩
  · skip
    have hP : va_P D vwCl (xW a cI cJ cZ v c) H := hP
    have hD : va_D A (xW a cI cJ cZ v c) := hD
    refine w_if_eq (x := 1) hx hb dX1_barsOf_5 (tgt := 17) (by decide) (by decide) (fun h => absurd h (by decide)) (fun _ => ?_)
    refine lv_aload_n hx hb dX1_barsOf_8 rfl (lv_at hl 0 rfl) ?_
    refine va_get (D := D) (ci := 1) (v := .ref (a 24)) (C := RX1) (T := TX1) (N := 2) hx hb hts hinX1 hown hK hP 23 rfl rfl 1 (by decide) (hts (.fieldLink RX1 11 "DancedLock$Families" "known" "[I") (List.mem_of_getElem? (i := 1) rfl)) (fun _ h9 => h9) rfl dX1_barsOf_9 ?_
    refine lv_iload_n hx hb dX1_barsOf_12 rfl (lv_at hl 1 rfl) ?_
    refine w_iald (f := v 24) hx hb hK hP 24 0 rfl rfl (i := f) (by omega) (by decide) dX1_barsOf_13 ?_
    refine lv_goto (tgt := 18) hx hb dX1_barsOf_14 (by decide) ?_
    exact hret (nI (v 24 f)) () _ _ 18 _ dX1_barsOf_18 rfl (by rfl) hP hD hS
  · skip
    exfalso; omega

set_option maxHeartbeats 4000000 in
set_option maxRecDepth 100000 in
theorem k_known (l : Launch) (D : va_G) (a : Nat → Nat) (cI cJ cZ : ClassId) (A : Nat → Prop) (v : Nat → Nat → Nat) (c : Nat → Nat → Int32) (z : Nat) (hnf : v 23 0 ≤ 6) (hz : z < 2147483648) :
    mI l yX1_knownTogether wsX1_knownTogether 2 42 [.ref (a 23), .int (nI z)] D (xT cI cJ cZ) A (xW a cI cJ cZ v c) (fun _ : Unit => xW a cI cJ cZ v c)
    (fun (r : Int32) (u : Unit) => r = nI (kn (v 24) z (v 23 0))) := by
  refine w_bI cX1_knownTogether 4 .int (by decide) rfl (Nat.le_of_ble_eq_true rfl) (Or.inl rfl) ?_
  intro p e s m args below meth c0 ls Q hx hb hml hts hown hK hN hA hret hP hD hS hl
  have hl : lv_has ls 4 [(0, .ref (a 23)), (1, .int (nI (z)))] := hl
  have hinX1 : ∀ w ∈ wsX10, w ∈ wsX1_knownTogether := fun w h => List.mem_cons_of_mem _ (List.mem_append_right _ h)
  refine lv_iconst (v := nI (0)) hx hb dX1_knownTogether_0 (by decide) ?_
  refine lv_istore_n (lv' := [(2, .int (nI (0))), (0, .ref (a 23)), (1, .int (nI (z)))]) hx hb dX1_knownTogether_1 rfl hl (by decide) rfl (fun ls hl => ?_)
  refine lv_iconst (v := nI (0)) hx hb dX1_knownTogether_2 (by decide) ?_
  refine lv_istore_n (lv' := [(3, .int (nI (0))), (2, .int (nI (0))), (0, .ref (a 23)), (1, .int (nI (z)))]) hx hb dX1_knownTogether_3 rfl hl (by decide) rfl (fun ls hl => ?_)
  have L4 : ∀ (n : Nat) (i : Nat) (g : Nat) (H : Heap) (locs : List Loc) (ls : Array Slot), v 23 0 - i < n → i ≤ v 23 0 → g = kn (v 24) z i → va_P D vwCl (xW a cI cJ cZ v c) H → va_D A (xW a cI cJ cZ v c) → va_S A s.heap H locs → lv_has ls 4 [(2, .int (nI (g))), (3, .int (nI (i))), (0, .ref (a 23)), (1, .int (nI (z)))] → W p l e { frames := 2, cells := 0, slots := 0, locals := 42 } s m args below meth c0 H locs 0 0 Q (F0 m 4 ls []) := by
    intro n
    induction n with
    | zero => intro i g H locs ls hm; exact absurd hm (Nat.not_lt_zero _)
    | succ n ih4 =>
      intro i g H locs ls hm4 h1 h2 hP hD hS hl
      refine lv_iload_n hx hb dX1_knownTogether_4 rfl (lv_at hl 1 rfl) ?_
      refine lv_aload_n hx hb dX1_knownTogether_5 rfl (lv_at hl 2 rfl) ?_
      refine va_get (D := D) (ci := 1) (v := .int (nI (v 23 0))) (C := RX1) (T := TX1) (N := 2) hx hb hts hinX1 hown hK hP 23 rfl rfl 0 (by decide) (hts (.fieldLink RX1 15 "DancedLock$Families" "count" "I") (List.mem_of_getElem? (i := 1) rfl)) (fun _ h9 => h9) rfl dX1_knownTogether_6 ?_
      refine w_icmp_ge (x := i) (y := v 23 0) hx hb dX1_knownTogether_9 (tgt := 34) (by decide) (by omega) (by omega) (fun c9 => ?_) (fun c9 => ?_)
      · skip
        refine lv_iload_n hx hb dX1_knownTogether_34 rfl (lv_at hl 0 rfl) ?_
        exact hret (nI (g)) () _ _ 35 _ dX1_knownTogether_35 rfl (by have e : i = v 23 0 := (by omega); subst e; rw [h2]) hP hD hS
      · skip
        refine lv_iload_n hx hb dX1_knownTogether_12 rfl (lv_at hl 3 rfl) ?_
        refine lv_iload_n hx hb dX1_knownTogether_13 rfl (lv_at hl 1 rfl) ?_
        refine w_ishr (x := z) (y := i) hx hb dX1_knownTogether_14 (by omega) (by omega) ?_
        refine lv_iconst (v := nI (1)) hx hb dX1_knownTogether_15 (by decide) ?_
        refine w_iand (x := z / 2 ^ i) (y := 1) hx hb dX1_knownTogether_16  ?_
        refine w_if_eq (x := (z / 2 ^ i) &&& 1) hx hb dX1_knownTogether_17 (tgt := 28) (by decide) (by first | omega | exact and1_lt _) (fun c17 => ?_) (fun c17 => ?_)
        · skip
          refine lv_iinc (v := nI (i + 1)) (lv' := [(3, .int (nI (i + 1))), (2, .int (nI (g))), (0, .ref (a 23)), (1, .int (nI (z)))]) hx hb dX1_knownTogether_28 hl (k := 1) rfl (nI_add i 1) (by decide) rfl (fun ls hl => ?_)
          refine lv_goto (tgt := 4) hx hb dX1_knownTogether_31 (by decide) ?_
          exact ih4 (i + 1) g _ _ _ (by omega) (by omega) (by first | (rw [h2, kn_y (by rw [and1_mod] at c17; omega)]) | (rw [h2, kn_n (by rw [and1_mod] at c17; omega)])) hP hD hS (lv_sub hl [1, 0, 2, 3] rfl)
        · skip
          refine lv_iload_n hx hb dX1_knownTogether_20 rfl (lv_at hl 0 rfl) ?_
          refine lv_aload_n hx hb dX1_knownTogether_21 rfl (lv_at hl 2 rfl) ?_
          refine lv_iload_n hx hb dX1_knownTogether_22 rfl (lv_at hl 1 rfl) ?_
          refine w_cVi (rest := [.int (nI (g))]) hx hb hml hown hts (k_fbars l D a cI cJ cZ A v c i  (by first | assumption | omega) (by first | assumption | omega)) 1 gX1_knownTogether_X1_barsOf rfl hdX1_barsOf ⟨Nat.le_of_ble_eq_true rfl, Nat.le_of_ble_eq_true rfl⟩ hK hN hP hD hS hA 23 1 rfl rfl rfl rfl hl.1 rfl (Nat.le_of_ble_eq_true rfl) dX1_knownTogether_23 ⟨Nat.le_of_ble_eq_true rfl, Nat.le_of_ble_eq_true rfl⟩ (fun r u H locs hq hP hD hS => ?_)
          obtain rfl := hq
          have hP : va_P D vwCl (xW a cI cJ cZ v c) H := hP
          have hD : va_D A (xW a cI cJ cZ v c) := hD
          refine w_ior (x := g) (y := (v 24) i) hx hb dX1_knownTogether_26  ?_
          refine lv_istore_n (lv' := [(2, .int (nI (g ||| ((v 24) i)))), (3, .int (nI (i))), (0, .ref (a 23)), (1, .int (nI (z)))]) hx hb dX1_knownTogether_27 rfl hl (by decide) rfl (fun ls hl => ?_)
          refine lv_iinc (v := nI (i + 1)) (lv' := [(3, .int (nI (i + 1))), (2, .int (nI (g ||| ((v 24) i)))), (0, .ref (a 23)), (1, .int (nI (z)))]) hx hb dX1_knownTogether_28 hl (k := 1) rfl (nI_add i 1) (by decide) rfl (fun ls hl => ?_)
          refine lv_goto (tgt := 4) hx hb dX1_knownTogether_31 (by decide) ?_
          exact ih4 (i + 1) (g ||| ((v 24) i)) _ _ _ (by omega) (by omega) (by first | (rw [h2, kn_y (by rw [and1_mod] at c17; omega)]) | (rw [h2, kn_n (by rw [and1_mod] at c17; omega)])) hP hD hS (lv_sub hl [1, 0, 2, 3] rfl)
  exact L4 ((v 23 0 - 0) + 1) 0 0 _ _ _ (Nat.lt_succ_self _) (by omega) (by rfl) hP hD hS (lv_sub hl [1, 0, 2, 3] rfl)

set_option maxHeartbeats 4000000 in
set_option maxRecDepth 100000 in
theorem k_ign (l : Launch) (D : va_G) (a : Nat → Nat) (cI cJ cZ : ClassId) (A : Nat → Prop) (v : Nat → Nat → Nat) (c : Nat → Nat → Int32) (b : Nat) (hnf : v 23 0 ≤ 6) (hkn : ∀ f, f < v 23 0 → v 24 f < 16777216) (hb24 : b < 24) :
    mI l yX1_ignorantOf wsX1_ignorantOf 2 42 [.ref (a 23), .int (nI b)] D (xT cI cJ cZ) A (xW a cI cJ cZ v c) (fun _ : Unit => xW a cI cJ cZ v c)
    (fun (r : Int32) (u : Unit) => r = nI (ig (v 24) b (v 23 0))) := by
  refine w_bI cX1_ignorantOf 4 .int (by decide) rfl (Nat.le_of_ble_eq_true rfl) (Or.inl rfl) ?_
  intro p e s m args below meth c0 ls Q hx hb hml hts hown hK hN hA hret hP hD hS hl
  have hl : lv_has ls 4 [(0, .ref (a 23)), (1, .int (nI (b)))] := hl
  have hinX1 : ∀ w ∈ wsX10, w ∈ wsX1_ignorantOf := fun w h => List.mem_cons_of_mem _ (List.mem_append_right _ h)
  refine lv_iconst (v := nI (0)) hx hb dX1_ignorantOf_0 (by decide) ?_
  refine lv_istore_n (lv' := [(2, .int (nI (0))), (0, .ref (a 23)), (1, .int (nI (b)))]) hx hb dX1_ignorantOf_1 rfl hl (by decide) rfl (fun ls hl => ?_)
  refine lv_iconst (v := nI (0)) hx hb dX1_ignorantOf_2 (by decide) ?_
  refine lv_istore_n (lv' := [(3, .int (nI (0))), (2, .int (nI (0))), (0, .ref (a 23)), (1, .int (nI (b)))]) hx hb dX1_ignorantOf_3 rfl hl (by decide) rfl (fun ls hl => ?_)
  have L4 : ∀ (n : Nat) (i : Nat) (g : Nat) (H : Heap) (locs : List Loc) (ls : Array Slot), v 23 0 - i < n → i ≤ v 23 0 → g = ig (v 24) b i → va_P D vwCl (xW a cI cJ cZ v c) H → va_D A (xW a cI cJ cZ v c) → va_S A s.heap H locs → lv_has ls 4 [(2, .int (nI (g))), (3, .int (nI (i))), (0, .ref (a 23)), (1, .int (nI (b)))] → W p l e { frames := 2, cells := 0, slots := 0, locals := 42 } s m args below meth c0 H locs 0 0 Q (F0 m 4 ls []) := by
    intro n
    induction n with
    | zero => intro i g H locs ls hm; exact absurd hm (Nat.not_lt_zero _)
    | succ n ih4 =>
      intro i g H locs ls hm4 h1 h2 hP hD hS hl
      refine lv_iload_n hx hb dX1_ignorantOf_4 rfl (lv_at hl 1 rfl) ?_
      refine lv_aload_n hx hb dX1_ignorantOf_5 rfl (lv_at hl 2 rfl) ?_
      refine va_get (D := D) (ci := 1) (v := .int (nI (v 23 0))) (C := RX1) (T := TX1) (N := 2) hx hb hts hinX1 hown hK hP 23 rfl rfl 0 (by decide) (hts (.fieldLink RX1 15 "DancedLock$Families" "count" "I") (List.mem_of_getElem? (i := 1) rfl)) (fun _ h9 => h9) rfl dX1_ignorantOf_6 ?_
      refine w_icmp_ge (x := i) (y := v 23 0) hx hb dX1_ignorantOf_9 (tgt := 33) (by decide) (by omega) (by omega) (fun c9 => ?_) (fun c9 => ?_)
      · skip
        refine lv_iload_n hx hb dX1_ignorantOf_33 rfl (lv_at hl 0 rfl) ?_
        exact hret (nI (g)) () _ _ 34 _ dX1_ignorantOf_34 rfl (by have e : i = v 23 0 := (by omega); subst e; rw [h2]) hP hD hS
      · skip
        refine lv_aload_n hx hb dX1_ignorantOf_12 rfl (lv_at hl 2 rfl) ?_
        refine lv_iload_n hx hb dX1_ignorantOf_13 rfl (lv_at hl 1 rfl) ?_
        refine w_cVi (rest := []) hx hb hml hown hts (k_fbars l D a cI cJ cZ A v c i  (by first | assumption | omega) (by first | assumption | omega)) 1 gX1_ignorantOf_X1_barsOf rfl hdX1_barsOf ⟨Nat.le_of_ble_eq_true rfl, Nat.le_of_ble_eq_true rfl⟩ hK hN hP hD hS hA 23 1 rfl rfl rfl rfl hl.1 rfl (Nat.le_of_ble_eq_true rfl) dX1_ignorantOf_14 ⟨Nat.le_of_ble_eq_true rfl, Nat.le_of_ble_eq_true rfl⟩ (fun r u H locs hq hP hD hS => ?_)
        obtain rfl := hq
        have hP : va_P D vwCl (xW a cI cJ cZ v c) H := hP
        have hD : va_D A (xW a cI cJ cZ v c) := hD
        refine lv_iload_n hx hb dX1_ignorantOf_17 rfl (lv_at hl 3 rfl) ?_
        have hki := hkn i (by omega)
        refine w_ishr (x := (v 24) i) (y := b) hx hb dX1_ignorantOf_18 (by omega) (by omega) ?_
        refine lv_iconst (v := nI (1)) hx hb dX1_ignorantOf_19 (by decide) ?_
        refine w_iand (x := ((v 24) i) / 2 ^ b) (y := 1) hx hb dX1_ignorantOf_20  ?_
        refine w_if_ne (x := (((v 24) i) / 2 ^ b) &&& 1) hx hb dX1_ignorantOf_21 (tgt := 27) (by decide) (by first | omega | exact and1_lt _) (fun c21 => ?_) (fun c21 => ?_)
        · skip
          refine lv_iinc (v := nI (i + 1)) (lv' := [(3, .int (nI (i + 1))), (2, .int (nI (g))), (0, .ref (a 23)), (1, .int (nI (b)))]) hx hb dX1_ignorantOf_27 hl (k := 1) rfl (nI_add i 1) (by decide) rfl (fun ls hl => ?_)
          refine lv_goto (tgt := 4) hx hb dX1_ignorantOf_30 (by decide) ?_
          exact ih4 (i + 1) g _ _ _ (by omega) (by omega) (by rw [and1_mod] at c21; rw [h2]; show _ = ig (v 24) b i + _; first | rw [if_pos c21] | (rw [if_neg c21]; rfl)) hP hD hS (lv_sub hl [1, 0, 2, 3] rfl)
        · skip
          refine lv_iinc (v := nI (g + 1)) (lv' := [(2, .int (nI (g + 1))), (3, .int (nI (i))), (0, .ref (a 23)), (1, .int (nI (b)))]) hx hb dX1_ignorantOf_24 hl (k := 0) rfl (nI_add g 1) (by decide) rfl (fun ls hl => ?_)
          refine lv_iinc (v := nI (i + 1)) (lv' := [(3, .int (nI (i + 1))), (2, .int (nI (g + 1))), (0, .ref (a 23)), (1, .int (nI (b)))]) hx hb dX1_ignorantOf_27 hl (k := 1) rfl (nI_add i 1) (by decide) rfl (fun ls hl => ?_)
          refine lv_goto (tgt := 4) hx hb dX1_ignorantOf_30 (by decide) ?_
          exact ih4 (i + 1) (g + 1) _ _ _ (by omega) (by omega) (by rw [and1_mod] at c21; rw [h2]; show _ = ig (v 24) b i + _; first | rw [if_pos c21] | (rw [if_neg c21]; rfl)) hP hD hS (lv_sub hl [1, 0, 2, 3] rfl)
  exact L4 ((v 23 0 - 0) + 1) 0 0 _ _ _ (Nat.lt_succ_self _) (by omega) (by rfl) hP hD hS (lv_sub hl [1, 0, 2, 3] rfl)

set_option maxHeartbeats 4000000 in
set_option maxRecDepth 100000 in
theorem k_must (l : Launch) (D : va_G) (a : Nat → Nat) (cI cJ cZ : ClassId) (A : Nat → Prop) (v : Nat → Nat → Nat) (c : Nat → Nat → Int32) (z : Nat) (hnf : v 23 0 ≤ 6) (hkn : ∀ f, f < v 23 0 → v 24 f < 16777216) (hz : z < 2147483648) :
    mI l yX1_numberThatMustKnow wsX1_numberThatMustKnow 3 65 [.ref (a 23), .int (nI z)] D (xT cI cJ cZ) A (xW a cI cJ cZ v c) (fun _ : Unit => xW a cI cJ cZ v c)
    (fun (r : Int32) (u : Unit) => r = if mst (v 24) (v 23 0) z 24 < v 23 0 then nI (mst (v 24) (v 23 0) z 24 + 1) else -9) := by
  refine w_bI cX1_numberThatMustKnow 4 .int (by decide) rfl (Nat.le_of_ble_eq_true rfl) (Or.inl rfl) ?_
  intro p e s m args below meth c0 ls Q hx hb hml hts hown hK hN hA hret hP hD hS hl
  have hl : lv_has ls 4 [(0, .ref (a 23)), (1, .int (nI (z)))] := hl
  have hinX1 : ∀ w ∈ wsX10, w ∈ wsX1_numberThatMustKnow := fun w h => List.mem_cons_of_mem _ (List.mem_append_right _ h)
  refine lv_iconst (v := nI (0)) hx hb dX1_numberThatMustKnow_0 (by decide) ?_
  refine lv_istore_n (lv' := [(2, .int (nI (0))), (0, .ref (a 23)), (1, .int (nI (z)))]) hx hb dX1_numberThatMustKnow_1 rfl hl (by decide) rfl (fun ls hl => ?_)
  refine lv_iconst (v := nI (0)) hx hb dX1_numberThatMustKnow_2 (by decide) ?_
  refine lv_istore_n (lv' := [(3, .int (nI (0))), (2, .int (nI (0))), (0, .ref (a 23)), (1, .int (nI (z)))]) hx hb dX1_numberThatMustKnow_3 rfl hl (by decide) rfl (fun ls hl => ?_)
  have L4 : ∀ (n : Nat) (i : Nat) (g : Nat) (H : Heap) (locs : List Loc) (ls : Array Slot), 24 - i < n → i ≤ 24 → g = mst (v 24) (v 23 0) z i → va_P D vwCl (xW a cI cJ cZ v c) H → va_D A (xW a cI cJ cZ v c) → va_S A s.heap H locs → lv_has ls 4 [(2, .int (nI (g))), (3, .int (nI (i))), (0, .ref (a 23)), (1, .int (nI (z)))] → W p l e { frames := 3, cells := 0, slots := 0, locals := 65 } s m args below meth c0 H locs 0 0 Q (F0 m 4 ls []) := by
    intro n
    induction n with
    | zero => intro i g H locs ls hm; exact absurd hm (Nat.not_lt_zero _)
    | succ n ih4 =>
      intro i g H locs ls hm4 h1 h2 hP hD hS hl
      refine lv_iload_n hx hb dX1_numberThatMustKnow_4 rfl (lv_at hl 1 rfl) ?_
      refine lv_bipush (v := nI (24)) hx hb dX1_numberThatMustKnow_5 (by decide) ?_
      refine w_icmp_ge (x := i) (y := 24) hx hb dX1_numberThatMustKnow_7 (tgt := 34) (by decide) (by omega) (by omega) (fun c7 => ?_) (fun c7 => ?_)
      · skip
        have e : i = 24 := by omega
        subst e
        have hm1 := mst_le (v 24) (v 23 0) z 24
        refine lv_iload_n hx hb dX1_numberThatMustKnow_34 rfl (lv_at hl 0 rfl) ?_
        refine lv_aload_n hx hb dX1_numberThatMustKnow_35 rfl (lv_at hl 2 rfl) ?_
        refine va_get (D := D) (ci := 1) (v := .int (nI (v 23 0))) (C := RX1) (T := TX1) (N := 2) hx hb hts hinX1 hown hK hP 23 rfl rfl 0 (by decide) (hts (.fieldLink RX1 15 "DancedLock$Families" "count" "I") (List.mem_of_getElem? (i := 5) rfl)) (fun _ h9 => h9) rfl dX1_numberThatMustKnow_36 ?_
        refine w_icmp_ge (x := g) (y := v 23 0) hx hb dX1_numberThatMustKnow_39 (tgt := 48) (by decide) (by omega) (by omega) (fun c39 => ?_) (fun c39 => ?_)
        · skip
          refine lv_bipush (v := -9) hx hb dX1_numberThatMustKnow_48 (by decide) ?_
          exact hret ((-9)) () _ _ 50 _ dX1_numberThatMustKnow_50 rfl (by rw [h2] at c39; rw [if_neg (by omega)]) hP hD hS
        · skip
          refine lv_iload_n hx hb dX1_numberThatMustKnow_42 rfl (lv_at hl 0 rfl) ?_
          refine lv_iconst (v := nI (1)) hx hb dX1_numberThatMustKnow_43 (by decide) ?_
          refine w_iadd (x := g) (y := 1) hx hb dX1_numberThatMustKnow_44  ?_
          refine lv_goto (tgt := 50) hx hb dX1_numberThatMustKnow_45 (by decide) ?_
          exact hret (nI (g + 1)) () _ _ 50 _ dX1_numberThatMustKnow_50 rfl (by rw [h2] at c39 ⊢; rw [if_pos (by omega)]) hP hD hS
      · skip
        refine lv_iload_n hx hb dX1_numberThatMustKnow_10 rfl (lv_at hl 3 rfl) ?_
        refine lv_iload_n hx hb dX1_numberThatMustKnow_11 rfl (lv_at hl 1 rfl) ?_
        refine w_ishr (x := z) (y := i) hx hb dX1_numberThatMustKnow_12 (by omega) (by omega) ?_
        refine lv_iconst (v := nI (1)) hx hb dX1_numberThatMustKnow_13 (by decide) ?_
        refine w_iand (x := z / 2 ^ i) (y := 1) hx hb dX1_numberThatMustKnow_14  ?_
        refine w_if_eq (x := (z / 2 ^ i) &&& 1) hx hb dX1_numberThatMustKnow_15 (tgt := 28) (by decide) (by first | omega | exact and1_lt _) (fun c15 => ?_) (fun c15 => ?_)
        · skip
          refine lv_iinc (v := nI (i + 1)) (lv' := [(3, .int (nI (i + 1))), (2, .int (nI (g))), (0, .ref (a 23)), (1, .int (nI (z)))]) hx hb dX1_numberThatMustKnow_28 hl (k := 1) rfl (nI_add i 1) (by decide) rfl (fun ls hl => ?_)
          refine lv_goto (tgt := 4) hx hb dX1_numberThatMustKnow_31 (by decide) ?_
          exact ih4 (i + 1) g _ _ _ (by omega) (by omega) (by rw [and1_mod] at c15; rw [h2]; show _ = (if _ then _ else _); first | rw [if_pos (by omega)] | rw [if_neg (by omega)]) hP hD hS (lv_sub hl [1, 0, 2, 3] rfl)
        · skip
          refine lv_iload_n hx hb dX1_numberThatMustKnow_18 rfl (lv_at hl 0 rfl) ?_
          refine lv_aload_n hx hb dX1_numberThatMustKnow_19 rfl (lv_at hl 2 rfl) ?_
          refine lv_iload_n hx hb dX1_numberThatMustKnow_20 rfl (lv_at hl 1 rfl) ?_
          refine w_cVi (rest := [.int (nI (g))]) hx hb hml hown hts (k_ign l D a cI cJ cZ A v c i  (by first | assumption | omega) (by first | assumption | omega) (by first | assumption | omega)) 1 gX1_numberThatMustKnow_X1_ignorantOf rfl hdX1_ignorantOf ⟨Nat.le_of_ble_eq_true rfl, Nat.le_of_ble_eq_true rfl⟩ hK hN hP hD hS hA 23 1 rfl rfl rfl rfl hl.1 rfl (Nat.le_of_ble_eq_true rfl) dX1_numberThatMustKnow_21 ⟨Nat.le_of_ble_eq_true rfl, Nat.le_of_ble_eq_true rfl⟩ (fun r u H locs hq hP hD hS => ?_)
          obtain rfl := hq
          have hP : va_P D vwCl (xW a cI cJ cZ v c) H := hP
          have hD : va_D A (xW a cI cJ cZ v c) := hD
          have hm1 := mst_le (v 24) (v 23 0) z i
          have hm2 := ig_le (v 24) i (v 23 0)
          refine w_mmax (x := g) (y := ig ((v 24)) i ((v 23 0))) (rest := []) hx hb (hml.trans hl.1.symm) (own := RX1) hown (hts (.methodLink RX1 46 Lib.Math.max.name) (List.mem_of_getElem? (i := 1) rfl)) (hts (.static Lib.Math.max.name) (List.mem_of_getElem? (i := 2) rfl)) (hts (.initialized "java/lang/Math") (List.mem_of_getElem? (i := 3) rfl)) (hts (.code Lib.Math.max.name Lib.Math.max.code 2 (some .int)) (List.mem_of_getElem? (i := 4) rfl)) (Nat.le_of_ble_eq_true rfl) (Nat.le_of_ble_eq_true rfl) (Nat.le_of_ble_eq_true rfl) (Nat.le_of_ble_eq_true rfl) (by omega) (by omega) dX1_numberThatMustKnow_24 ?_
          refine lv_istore_n (lv' := [(2, .int (nI (max g (ig ((v 24)) i ((v 23 0)))))), (3, .int (nI (i))), (0, .ref (a 23)), (1, .int (nI (z)))]) hx hb dX1_numberThatMustKnow_27 rfl hl (by decide) rfl (fun ls hl => ?_)
          refine lv_iinc (v := nI (i + 1)) (lv' := [(3, .int (nI (i + 1))), (2, .int (nI (max g (ig ((v 24)) i ((v 23 0)))))), (0, .ref (a 23)), (1, .int (nI (z)))]) hx hb dX1_numberThatMustKnow_28 hl (k := 1) rfl (nI_add i 1) (by decide) rfl (fun ls hl => ?_)
          refine lv_goto (tgt := 4) hx hb dX1_numberThatMustKnow_31 (by decide) ?_
          exact ih4 (i + 1) (max g (ig ((v 24)) i ((v 23 0)))) _ _ _ (by omega) (by omega) (by rw [and1_mod] at c15; rw [h2]; show _ = (if _ then _ else _); first | rw [if_pos (by omega)] | rw [if_neg (by omega)]) hP hD hS (lv_sub hl [1, 0, 2, 3] rfl)
  exact L4 ((24 - 0) + 1) 0 0 _ _ _ (Nat.lt_succ_self _) (by omega) (by rfl) hP hD hS (lv_sub hl [1, 0, 2, 3] rfl)

set_option maxHeartbeats 4000000 in
set_option maxRecDepth 100000 in
theorem k_least (l : Launch) (D : va_G) (a : Nat → Nat) (cI cJ cZ : ClassId) (A : Nat → Prop) (v : Nat → Nat → Nat) (c : Nat → Nat → Int32) (z : Nat) (hnf : v 23 0 ≤ 6) (hz : z < 2147483648) :
    mI l yX1_leastSetThatKnows wsX1_leastSetThatKnows 3 65 [.ref (a 23), .int (nI z)] D (xT cI cJ cZ) A (xW a cI cJ cZ v c) (fun _ : Unit => xW a cI cJ cZ v c)
    (fun (r : Int32) (u : Unit) => r = fwr (fw (v 24) (v 23 0) z (2 ^ v 23 0))) := by
  refine w_bI cX1_leastSetThatKnows 6 .int (by decide) rfl (Nat.le_of_ble_eq_true rfl) (Or.inl rfl) ?_
  intro p e s m args below meth c0 ls Q hx hb hml hts hown hK hN hA hret hP hD hS hl
  have hl : lv_has ls 6 [(0, .ref (a 23)), (1, .int (nI (z)))] := hl
  have hp := pow_le_64 hnf
  have hp1 := Nat.two_pow_pos (v 23 0)
  refine lv_bipush (v := -9) hx hb dX1_leastSetThatKnows_0 (by decide) ?_
  refine lv_istore_n (lv' := [(2, .int (-9)), (0, .ref (a 23)), (1, .int (nI (z)))]) hx hb dX1_leastSetThatKnows_2 rfl hl (by decide) rfl (fun ls hl => ?_)
  refine lv_bipush (v := nI (7)) hx hb dX1_leastSetThatKnows_3 (by decide) ?_
  refine lv_istore_n (lv' := [(3, .int (nI (7))), (2, .int (-9)), (0, .ref (a 23)), (1, .int (nI (z)))]) hx hb dX1_leastSetThatKnows_5 rfl hl (by decide) rfl (fun ls hl => ?_)
  refine lv_iconst (v := nI (0)) hx hb dX1_leastSetThatKnows_6 (by decide) ?_
  refine lv_istore (lv' := [(4, .int (nI (0))), (3, .int (nI (7))), (2, .int (-9)), (0, .ref (a 23)), (1, .int (nI (z)))]) hx hb dX1_leastSetThatKnows_7 hl (by decide) rfl (fun ls hl => ?_)
  have L9 : ∀ (n : Nat) (i : Nat) (q : Nat) (x : Int32) (H : Heap) (locs : List Loc) (ls : Array Slot), 2 ^ v 23 0 - i < n → i ≤ 2 ^ v 23 0 → q = (fw (v 24) (v 23 0) z i).1 → x = fwr (fw (v 24) (v 23 0) z i) → q ≤ 24 → va_P D vwCl (xW a cI cJ cZ v c) H → va_D A (xW a cI cJ cZ v c) → va_S A s.heap H locs → lv_has ls 6 [(2, .int x), (3, .int (nI (q))), (4, .int (nI (i))), (0, .ref (a 23)), (1, .int (nI (z)))] → W p l e { frames := 3, cells := 0, slots := 0, locals := 65 } s m args below meth c0 H locs 0 0 Q (F0 m 9 ls []) := by
    intro n
    induction n with
    | zero => intro i q x H locs ls hm; exact absurd hm (Nat.not_lt_zero _)
    | succ n ih9 =>
      intro i q x H locs ls hm9 h1 h2 h3 h4 hP hD hS hl
      refine lv_iload hx hb dX1_leastSetThatKnows_9 (lv_at hl 2 rfl) ?_
      refine lv_aload_n hx hb dX1_leastSetThatKnows_11 rfl (lv_at hl 3 rfl) ?_
      refine w_cVi (rest := [.int (nI (i))]) hx hb hml hown hts (k_fall l D a cI cJ cZ A v c   (by first | assumption | omega)) 0 gX1_leastSetThatKnows_X1_all rfl hdX1_all ⟨Nat.le_of_ble_eq_true rfl, Nat.le_of_ble_eq_true rfl⟩ hK hN hP hD hS hA 23 1 rfl rfl rfl rfl hl.1 rfl (Nat.le_of_ble_eq_true rfl) dX1_leastSetThatKnows_12 ⟨Nat.le_of_ble_eq_true rfl, Nat.le_of_ble_eq_true rfl⟩ (fun r u H locs hq hP hD hS => ?_)
      obtain rfl := hq
      have hP : va_P D vwCl (xW a cI cJ cZ v c) H := hP
      have hD : va_D A (xW a cI cJ cZ v c) := hD
      refine w_icmp_gt (x := i) (y := 2 ^ (v 23 0) - 1) hx hb dX1_leastSetThatKnows_15 (tgt := 67) (by decide) (by omega) (by omega) (fun c15 => ?_) (fun c15 => ?_)
      · skip
        have e : i = 2 ^ v 23 0 := by omega
        subst e
        refine lv_iload_n hx hb dX1_leastSetThatKnows_67 rfl (lv_at hl 0 rfl) ?_
        exact hret (x) () _ _ 68 _ dX1_leastSetThatKnows_68 rfl (by exact h3) hP hD hS
      · skip
        refine lv_iload_n hx hb dX1_leastSetThatKnows_18 rfl (lv_at hl 4 rfl) ?_
        refine lv_aload_n hx hb dX1_leastSetThatKnows_19 rfl (lv_at hl 3 rfl) ?_
        refine lv_iload hx hb dX1_leastSetThatKnows_20 (lv_at hl 2 rfl) ?_
        refine w_cVi (rest := [.int (nI (z))]) hx hb hml hown hts (k_known l D a cI cJ cZ A v c i  (by first | assumption | omega) (by first | assumption | omega)) 1 gX1_leastSetThatKnows_X1_knownTogether rfl hdX1_knownTogether ⟨Nat.le_of_ble_eq_true rfl, Nat.le_of_ble_eq_true rfl⟩ hK hN hP hD hS hA 23 1 rfl rfl rfl rfl hl.1 rfl (Nat.le_of_ble_eq_true rfl) dX1_leastSetThatKnows_22 ⟨Nat.le_of_ble_eq_true rfl, Nat.le_of_ble_eq_true rfl⟩ (fun r u H locs hq hP hD hS => ?_)
        obtain rfl := hq
        have hP : va_P D vwCl (xW a cI cJ cZ v c) H := hP
        have hD : va_D A (xW a cI cJ cZ v c) := hD
        refine lv_iconst (v := -1) hx hb dX1_leastSetThatKnows_25 (by decide) ?_
        refine lv_ixor hx hb dX1_leastSetThatKnows_26 ?_
        refine lv_iand hx hb dX1_leastSetThatKnows_27 ?_
        rw [show ((nI (z)) &&& ((nI (kn ((v 24)) i ((v 23 0)))) ^^^ (-1))) = (nI (z - (z &&& kn (v 24) i (v 23 0)))) from n_andn]
        have hle := Nat.and_le_left (n := z) (m := kn (v 24) i (v 23 0))
        have hpi := pc64 i (by omega)
        refine w_if_ne (x := z - (z &&& kn (v 24) i (v 23 0))) hx hb dX1_leastSetThatKnows_28 (tgt := 35) (by decide) (by omega) (fun c28 => ?_) (fun c28 => ?_)
        · skip
          refine lv_iconst (v := nI (0)) hx hb dX1_leastSetThatKnows_35 (by decide) ?_
          refine lv_istore (lv' := [(5, .int (nI (0))), (2, .int x), (3, .int (nI (q))), (4, .int (nI (i))), (0, .ref (a 23)), (1, .int (nI (z)))]) hx hb dX1_leastSetThatKnows_36 hl (by decide) rfl (fun ls hl => ?_)
          refine lv_iload hx hb dX1_leastSetThatKnows_38 (lv_at hl 0 rfl) ?_
          refine w_if_eq (x := 0) hx hb dX1_leastSetThatKnows_40 (tgt := 61) (by decide) (by decide) (fun _ => ?_) (fun h => absurd h (by decide))
          refine lv_iinc (v := nI (i + 1)) (lv' := [(4, .int (nI (i + 1))), (5, .int (nI (0))), (2, .int x), (3, .int (nI (q))), (0, .ref (a 23)), (1, .int (nI (z)))]) hx hb dX1_leastSetThatKnows_61 hl (k := 3) rfl (nI_add i 1) (by decide) rfl (fun ls hl => ?_)
          refine lv_goto (tgt := 9) hx hb dX1_leastSetThatKnows_64 (by decide) ?_
          exact ih9 (i + 1) q x _ _ _ (by omega) (by omega) (by first | (rw [fw_n (fun e => by have e1 := e.1; have e2 := e.2; omega)]; exact h2) | (rw [fw_y ⟨by omega, by omega⟩])) (by first | (rw [fw_n (fun e => by have e1 := e.1; have e2 := e.2; omega)]; exact h3) | (rw [fw_y ⟨by omega, by omega⟩]; show _ = (if pc i = 7 then _ else _); rw [if_neg (by omega)])) (by first | omega | exact pc_le _) hP hD hS (lv_sub hl [2, 3, 0, 4, 5] rfl)
        · skip
          refine lv_iconst (v := nI (1)) hx hb dX1_leastSetThatKnows_31 (by decide) ?_
          refine lv_goto (tgt := 36) hx hb dX1_leastSetThatKnows_32 (by decide) ?_
          refine lv_istore (lv' := [(5, .int (nI (1))), (2, .int x), (3, .int (nI (q))), (4, .int (nI (i))), (0, .ref (a 23)), (1, .int (nI (z)))]) hx hb dX1_leastSetThatKnows_36 hl (by decide) rfl (fun ls hl => ?_)
          refine lv_iload hx hb dX1_leastSetThatKnows_38 (lv_at hl 0 rfl) ?_
          refine w_if_eq (x := 1) hx hb dX1_leastSetThatKnows_40 (tgt := 61) (by decide) (by decide) (fun h => absurd h (by decide)) (fun _ => ?_)
          refine lv_iload hx hb dX1_leastSetThatKnows_43 (lv_at hl 3 rfl) ?_
          refine w_cSi (rest := []) hx hb hml hown hts (k_bctN l D a cI cJ cZ A v c i  (by exact bct_small i (by omega))) 1 gX1_leastSetThatKnows_J6_bitCount_0f7a4 rfl hdJ6_bitCount_0f7a4 ⟨Nat.le_of_ble_eq_true rfl, Nat.le_of_ble_eq_true rfl⟩ hK hN hP hD hS hA rfl hl.1 rfl (Nat.le_of_ble_eq_true rfl) dX1_leastSetThatKnows_45 ⟨Nat.le_of_ble_eq_true rfl, Nat.le_of_ble_eq_true rfl⟩ (fun r u H locs hq hP hD hS => ?_)
          obtain rfl := hq
          have hP : va_P D vwCl (xW a cI cJ cZ v c) H := hP
          have hD : va_D A (xW a cI cJ cZ v c) := hD
          refine lv_iload_n hx hb dX1_leastSetThatKnows_48 rfl (lv_at hl 2 rfl) ?_
          refine w_icmp_ge (x := pc i) (y := q) hx hb dX1_leastSetThatKnows_49 (tgt := 61) (by decide) (by have := pc_le i; omega) (by omega) (fun c49 => ?_) (fun c49 => ?_)
          · skip
            refine lv_iinc (v := nI (i + 1)) (lv' := [(4, .int (nI (i + 1))), (5, .int (nI (1))), (2, .int x), (3, .int (nI (q))), (0, .ref (a 23)), (1, .int (nI (z)))]) hx hb dX1_leastSetThatKnows_61 hl (k := 3) rfl (nI_add i 1) (by decide) rfl (fun ls hl => ?_)
            refine lv_goto (tgt := 9) hx hb dX1_leastSetThatKnows_64 (by decide) ?_
            exact ih9 (i + 1) q x _ _ _ (by omega) (by omega) (by first | (rw [fw_n (fun e => by have e1 := e.1; have e2 := e.2; omega)]; exact h2) | (rw [fw_y ⟨by omega, by omega⟩])) (by first | (rw [fw_n (fun e => by have e1 := e.1; have e2 := e.2; omega)]; exact h3) | (rw [fw_y ⟨by omega, by omega⟩]; show _ = (if pc i = 7 then _ else _); rw [if_neg (by omega)])) (by first | omega | exact pc_le _) hP hD hS (lv_sub hl [2, 3, 0, 4, 5] rfl)
          · skip
            refine lv_iload hx hb dX1_leastSetThatKnows_52 (lv_at hl 3 rfl) ?_
            refine w_cSi (rest := []) hx hb hml hown hts (k_bctN l D a cI cJ cZ A v c i  (by exact bct_small i (by omega))) 1 gX1_leastSetThatKnows_J6_bitCount_0f7a4 rfl hdJ6_bitCount_0f7a4 ⟨Nat.le_of_ble_eq_true rfl, Nat.le_of_ble_eq_true rfl⟩ hK hN hP hD hS hA rfl hl.1 rfl (Nat.le_of_ble_eq_true rfl) dX1_leastSetThatKnows_54 ⟨Nat.le_of_ble_eq_true rfl, Nat.le_of_ble_eq_true rfl⟩ (fun r u H locs hq hP hD hS => ?_)
            obtain rfl := hq
            have hP : va_P D vwCl (xW a cI cJ cZ v c) H := hP
            have hD : va_D A (xW a cI cJ cZ v c) := hD
            refine lv_istore_n (lv' := [(3, .int (nI (pc i))), (5, .int (nI (1))), (2, .int x), (4, .int (nI (i))), (0, .ref (a 23)), (1, .int (nI (z)))]) hx hb dX1_leastSetThatKnows_57 rfl hl (by decide) rfl (fun ls hl => ?_)
            refine lv_iload hx hb dX1_leastSetThatKnows_58 (lv_at hl 3 rfl) ?_
            refine lv_istore_n (lv' := [(2, .int (nI (i))), (3, .int (nI (pc i))), (5, .int (nI (1))), (4, .int (nI (i))), (0, .ref (a 23)), (1, .int (nI (z)))]) hx hb dX1_leastSetThatKnows_60 rfl hl (by decide) rfl (fun ls hl => ?_)
            refine lv_iinc (v := nI (i + 1)) (lv' := [(4, .int (nI (i + 1))), (2, .int (nI (i))), (3, .int (nI (pc i))), (5, .int (nI (1))), (0, .ref (a 23)), (1, .int (nI (z)))]) hx hb dX1_leastSetThatKnows_61 hl (k := 3) rfl (nI_add i 1) (by decide) rfl (fun ls hl => ?_)
            refine lv_goto (tgt := 9) hx hb dX1_leastSetThatKnows_64 (by decide) ?_
            exact ih9 (i + 1) (pc i) (nI (i)) _ _ _ (by omega) (by omega) (by first | (rw [fw_n (fun e => by have e1 := e.1; have e2 := e.2; omega)]; exact h2) | (rw [fw_y ⟨by omega, by omega⟩])) (by first | (rw [fw_n (fun e => by have e1 := e.1; have e2 := e.2; omega)]; exact h3) | (rw [fw_y ⟨by omega, by omega⟩]; show _ = (if pc i = 7 then _ else _); rw [if_neg (by omega)])) (by first | omega | exact pc_le _) hP hD hS (lv_sub hl [1, 2, 0, 4, 5] rfl)
  exact L9 ((2 ^ v 23 0 - 0) + 1) 0 7 (-9) _ _ _ (Nat.lt_succ_self _) (by omega) (by rfl) (by rfl) (by omega) hP hD hS (lv_sub hl [2, 1, 0, 3, 4] rfl)

set_option maxHeartbeats 4000000 in
set_option maxRecDepth 100000 in
theorem k_learnt (l : Launch) (D : va_G) (a : Nat → Nat) (cI cJ cZ : ClassId) (A : Nat → Prop) (v : Nat → Nat → Nat) (c : Nat → Nat → Int32) (z : Nat) (dd : Nat) (hnf : v 23 0 ≤ 6) (hkn : ∀ f, f < v 23 0 → v 24 f < 16777216) (hz : win dd z) (hdd : dd < 4) :
    mI l yX1_mostToLearn wsX1_mostToLearn 3 65 [.ref (a 23), .int (nI z)] D (xT cI cJ cZ) A (xW a cI cJ cZ v c) (fun _ : Unit => xW a cI cJ cZ v c)
    (fun (r : Int32) (u : Unit) => r = nI (lrn (v 24) (kn (v 24) (2 ^ v 23 0 - 1) (v 23 0) &&& z) (v 23 0))) := by
  refine w_bI cX1_mostToLearn 5 .int (by decide) rfl (Nat.le_of_ble_eq_true rfl) (Or.inl rfl) ?_
  intro p e s m args below meth c0 ls Q hx hb hml hts hown hK hN hA hret hP hD hS hl
  have hl : lv_has ls 5 [(0, .ref (a 23)), (1, .int (nI (z)))] := hl
  have hinX1 : ∀ w ∈ wsX10, w ∈ wsX1_mostToLearn := fun w h => List.mem_cons_of_mem _ (List.mem_append_right _ h)
  have hp := pow_le_64 hnf
  have hp1 := Nat.two_pow_pos (v 23 0)
  have hz2 : kn (v 24) (2 ^ v 23 0 - 1) (v 23 0) &&& z < 2147483648 := Nat.lt_trans (win_lt (win_and hz) hdd) (by decide)
  refine lv_aload_n hx hb dX1_mostToLearn_0 rfl (lv_at hl 0 rfl) ?_
  refine lv_aload_n hx hb dX1_mostToLearn_1 rfl (lv_at hl 0 rfl) ?_
  refine w_cVi (rest := [.ref (a 23)]) hx hb hml hown hts (k_fall l D a cI cJ cZ A v c   (by first | assumption | omega)) 0 gX1_mostToLearn_X1_all rfl hdX1_all ⟨Nat.le_of_ble_eq_true rfl, Nat.le_of_ble_eq_true rfl⟩ hK hN hP hD hS hA 23 1 rfl rfl rfl rfl hl.1 rfl (Nat.le_of_ble_eq_true rfl) dX1_mostToLearn_2 ⟨Nat.le_of_ble_eq_true rfl, Nat.le_of_ble_eq_true rfl⟩ (fun r u H locs hq hP hD hS => ?_)
  obtain rfl := hq
  have hP : va_P D vwCl (xW a cI cJ cZ v c) H := hP
  have hD : va_D A (xW a cI cJ cZ v c) := hD
  refine w_cVi (rest := []) hx hb hml hown hts (k_known l D a cI cJ cZ A v c (2 ^ (v 23 0) - 1)  (by first | assumption | omega) (by first | assumption | omega)) 1 gX1_mostToLearn_X1_knownTogether rfl hdX1_knownTogether ⟨Nat.le_of_ble_eq_true rfl, Nat.le_of_ble_eq_true rfl⟩ hK hN hP hD hS hA 23 1 rfl rfl rfl rfl hl.1 rfl (Nat.le_of_ble_eq_true rfl) dX1_mostToLearn_5 ⟨Nat.le_of_ble_eq_true rfl, Nat.le_of_ble_eq_true rfl⟩ (fun r u H locs hq hP hD hS => ?_)
  obtain rfl := hq
  have hP : va_P D vwCl (xW a cI cJ cZ v c) H := hP
  have hD : va_D A (xW a cI cJ cZ v c) := hD
  refine lv_iload_n hx hb dX1_mostToLearn_8 rfl (lv_at hl 1 rfl) ?_
  refine w_iand (x := kn ((v 24)) (2 ^ (v 23 0) - 1) ((v 23 0))) (y := z) hx hb dX1_mostToLearn_9  ?_
  refine lv_istore_n (lv' := [(2, .int (nI ((kn ((v 24)) (2 ^ (v 23 0) - 1) ((v 23 0))) &&& z))), (0, .ref (a 23)), (1, .int (nI (z)))]) hx hb dX1_mostToLearn_10 rfl hl (by decide) rfl (fun ls hl => ?_)
  refine lv_iconst (v := nI (0)) hx hb dX1_mostToLearn_11 (by decide) ?_
  refine lv_istore_n (lv' := [(3, .int (nI (0))), (2, .int (nI ((kn ((v 24)) (2 ^ (v 23 0) - 1) ((v 23 0))) &&& z))), (0, .ref (a 23)), (1, .int (nI (z)))]) hx hb dX1_mostToLearn_12 rfl hl (by decide) rfl (fun ls hl => ?_)
  refine lv_iconst (v := nI (0)) hx hb dX1_mostToLearn_13 (by decide) ?_
  refine lv_istore (lv' := [(4, .int (nI (0))), (3, .int (nI (0))), (2, .int (nI ((kn ((v 24)) (2 ^ (v 23 0) - 1) ((v 23 0))) &&& z))), (0, .ref (a 23)), (1, .int (nI (z)))]) hx hb dX1_mostToLearn_14 hl (by decide) rfl (fun ls hl => ?_)
  have L16 : ∀ (n : Nat) (i : Nat) (g : Nat) (H : Heap) (locs : List Loc) (ls : Array Slot), v 23 0 - i < n → i ≤ v 23 0 → g = lrn (v 24) (kn (v 24) (2 ^ v 23 0 - 1) (v 23 0) &&& z) i → va_P D vwCl (xW a cI cJ cZ v c) H → va_D A (xW a cI cJ cZ v c) → va_S A s.heap H locs → lv_has ls 5 [(3, .int (nI (g))), (4, .int (nI (i))), (0, .ref (a 23)), (1, .int (nI (z))), (2, .int (nI ((kn ((v 24)) (2 ^ (v 23 0) - 1) ((v 23 0))) &&& z)))] → W p l e { frames := 3, cells := 0, slots := 0, locals := 65 } s m args below meth c0 H locs 0 0 Q (F0 m 16 ls []) := by
    intro n
    induction n with
    | zero => intro i g H locs ls hm; exact absurd hm (Nat.not_lt_zero _)
    | succ n ih16 =>
      intro i g H locs ls hm16 h1 h2 hP hD hS hl
      refine lv_iload hx hb dX1_mostToLearn_16 (lv_at hl 1 rfl) ?_
      refine lv_aload_n hx hb dX1_mostToLearn_18 rfl (lv_at hl 2 rfl) ?_
      refine va_get (D := D) (ci := 1) (v := .int (nI (v 23 0))) (C := RX1) (T := TX1) (N := 2) hx hb hts hinX1 hown hK hP 23 rfl rfl 0 (by decide) (hts (.fieldLink RX1 15 "DancedLock$Families" "count" "I") (List.mem_of_getElem? (i := 1) rfl)) (fun _ h9 => h9) rfl dX1_mostToLearn_19 ?_
      refine w_icmp_ge (x := i) (y := v 23 0) hx hb dX1_mostToLearn_22 (tgt := 49) (by decide) (by omega) (by omega) (fun c22 => ?_) (fun c22 => ?_)
      · skip
        refine lv_iload_n hx hb dX1_mostToLearn_49 rfl (lv_at hl 0 rfl) ?_
        exact hret (nI (g)) () _ _ 50 _ dX1_mostToLearn_50 rfl (by have e : i = v 23 0 := (by omega); subst e; rw [h2]) hP hD hS
      · skip
        refine lv_iload_n hx hb dX1_mostToLearn_25 rfl (lv_at hl 0 rfl) ?_
        refine lv_iload_n hx hb dX1_mostToLearn_26 rfl (lv_at hl 4 rfl) ?_
        refine lv_aload_n hx hb dX1_mostToLearn_27 rfl (lv_at hl 2 rfl) ?_
        refine lv_iload hx hb dX1_mostToLearn_28 (lv_at hl 1 rfl) ?_
        refine w_cVi (rest := [.int (nI ((kn ((v 24)) (2 ^ (v 23 0) - 1) ((v 23 0))) &&& z)), .int (nI (g))]) hx hb hml hown hts (k_fbars l D a cI cJ cZ A v c i  (by first | assumption | omega) (by first | assumption | omega)) 1 gX1_mostToLearn_X1_barsOf rfl hdX1_barsOf ⟨Nat.le_of_ble_eq_true rfl, Nat.le_of_ble_eq_true rfl⟩ hK hN hP hD hS hA 23 1 rfl rfl rfl rfl hl.1 rfl (Nat.le_of_ble_eq_true rfl) dX1_mostToLearn_30 ⟨Nat.le_of_ble_eq_true rfl, Nat.le_of_ble_eq_true rfl⟩ (fun r u H locs hq hP hD hS => ?_)
        obtain rfl := hq
        have hP : va_P D vwCl (xW a cI cJ cZ v c) H := hP
        have hD : va_D A (xW a cI cJ cZ v c) := hD
        refine lv_iconst (v := -1) hx hb dX1_mostToLearn_33 (by decide) ?_
        refine lv_ixor hx hb dX1_mostToLearn_34 ?_
        refine lv_iand hx hb dX1_mostToLearn_35 ?_
        rw [show ((nI ((kn ((v 24)) (2 ^ (v 23 0) - 1) ((v 23 0))) &&& z)) &&& ((nI ((v 24) i)) ^^^ (-1))) = (nI ((kn (v 24) (2 ^ v 23 0 - 1) (v 23 0) &&& z) - ((kn (v 24) (2 ^ v 23 0 - 1) (v 23 0) &&& z) &&& (v 24) i))) from n_andn]
        have hl1 := lrn_le (v 24) (kn (v 24) (2 ^ v 23 0 - 1) (v 23 0) &&& z) i
        have hl2 := pc_le ((kn (v 24) (2 ^ v 23 0 - 1) (v 23 0) &&& z) - ((kn (v 24) (2 ^ v 23 0 - 1) (v 23 0) &&& z) &&& (v 24) i))
        refine w_cSi (rest := [.int (nI (g))]) hx hb hml hown hts (k_bctN l D a cI cJ cZ A v c ((kn (v 24) (2 ^ v 23 0 - 1) (v 23 0) &&& z) - ((kn (v 24) (2 ^ v 23 0 - 1) (v 23 0) &&& z) &&& (v 24) i))  (by exact win_bct (win_lack (win_and hz)) hdd)) 1 gX1_mostToLearn_J6_bitCount_0f7a4 rfl hdJ6_bitCount_0f7a4 ⟨Nat.le_of_ble_eq_true rfl, Nat.le_of_ble_eq_true rfl⟩ hK hN hP hD hS hA rfl hl.1 rfl (Nat.le_of_ble_eq_true rfl) dX1_mostToLearn_36 ⟨Nat.le_of_ble_eq_true rfl, Nat.le_of_ble_eq_true rfl⟩ (fun r u H locs hq hP hD hS => ?_)
        obtain rfl := hq
        have hP : va_P D vwCl (xW a cI cJ cZ v c) H := hP
        have hD : va_D A (xW a cI cJ cZ v c) := hD
        refine w_mmax (x := g) (y := pc ((kn (v 24) (2 ^ v 23 0 - 1) (v 23 0) &&& z) - ((kn (v 24) (2 ^ v 23 0 - 1) (v 23 0) &&& z) &&& (v 24) i))) (rest := []) hx hb (hml.trans hl.1.symm) (own := RX1) hown (hts (.methodLink RX1 46 Lib.Math.max.name) (List.mem_of_getElem? (i := 2) rfl)) (hts (.static Lib.Math.max.name) (List.mem_of_getElem? (i := 3) rfl)) (hts (.initialized "java/lang/Math") (List.mem_of_getElem? (i := 4) rfl)) (hts (.code Lib.Math.max.name Lib.Math.max.code 2 (some .int)) (List.mem_of_getElem? (i := 5) rfl)) (Nat.le_of_ble_eq_true rfl) (Nat.le_of_ble_eq_true rfl) (Nat.le_of_ble_eq_true rfl) (Nat.le_of_ble_eq_true rfl) (by omega) (by omega) dX1_mostToLearn_39 ?_
        refine lv_istore_n (lv' := [(3, .int (nI (max g (pc ((kn (v 24) (2 ^ v 23 0 - 1) (v 23 0) &&& z) - ((kn (v 24) (2 ^ v 23 0 - 1) (v 23 0) &&& z) &&& (v 24) i)))))), (4, .int (nI (i))), (0, .ref (a 23)), (1, .int (nI (z))), (2, .int (nI ((kn ((v 24)) (2 ^ (v 23 0) - 1) ((v 23 0))) &&& z)))]) hx hb dX1_mostToLearn_42 rfl hl (by decide) rfl (fun ls hl => ?_)
        refine lv_iinc (v := nI (i + 1)) (lv' := [(4, .int (nI (i + 1))), (3, .int (nI (max g (pc ((kn (v 24) (2 ^ v 23 0 - 1) (v 23 0) &&& z) - ((kn (v 24) (2 ^ v 23 0 - 1) (v 23 0) &&& z) &&& (v 24) i)))))), (0, .ref (a 23)), (1, .int (nI (z))), (2, .int (nI ((kn ((v 24)) (2 ^ (v 23 0) - 1) ((v 23 0))) &&& z)))]) hx hb dX1_mostToLearn_43 hl (k := 1) rfl (nI_add i 1) (by decide) rfl (fun ls hl => ?_)
        refine lv_goto (tgt := 16) hx hb dX1_mostToLearn_46 (by decide) ?_
        exact ih16 (i + 1) (max g (pc ((kn (v 24) (2 ^ v 23 0 - 1) (v 23 0) &&& z) - ((kn (v 24) (2 ^ v 23 0 - 1) (v 23 0) &&& z) &&& (v 24) i)))) _ _ _ (by omega) (by omega) (by rw [h2]; rfl) hP hD hS (lv_sub hl [1, 0, 2, 3, 4] rfl)
  exact L16 ((v 23 0 - 0) + 1) 0 0 _ _ _ (Nat.lt_succ_self _) (by omega) (by rfl) hP hD hS (lv_sub hl [1, 0, 3, 4, 2] rfl)
