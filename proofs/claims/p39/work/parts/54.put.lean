/-! ===== the law's dancer and put ===== -/
set_option maxHeartbeats 4000000 in
set_option maxRecDepth 100000 in
theorem k_dancer (l : Launch) (D : va_G) (a : Nat → Nat) (cI cJ cZ : ClassId) (A : Nat → Prop) (v : Nat → Nat → Nat) (c : Nat → Nat → Int32) (w : Nat → Nat → Nat) (x : Int32) (hI : XI v) (hgl : GL (w 30)) (hgd : GD (w 30)) (hn3 : w 30 37 < 3) (hal : AL (w 30) v) :
    mI l yL_dancer wsL_dancer 3 64 [.ref (a 0), .int x, .ref (a 30)] D (xT cI cJ cZ) A (pW a cI cJ cZ v c w) (fun u : ((Nat → Nat → Nat) × (Nat → Nat → Int32) × (Nat → Nat → Nat)) => pW a cI cJ cZ u.1 u.2.1 u.2.2)
    (fun (r : Int32) (u : ((Nat → Nat → Nat) × (Nat → Nat → Int32) × (Nat → Nat → Nat))) => r = nI 1 ∧ XI u.1 ∧ u.2.1 2 = c 2 ∧ ∃ g, u.2.2 = va_up w 30 g ∧ GL g ∧ GD g ∧ AL g u.1 ∧ g 37 = w 30 37 + 1) := by
  refine w_bI cL_dancer 4 .boolean (by decide) rfl (Nat.le_of_ble_eq_true rfl) (Or.inr rfl) ?_
  intro p e s m args below meth c0 ls Q hx hb hml hts hown hK hN hA hret hP hD hS hl
  have hl : lv_has ls 4 [(0, .ref (a 0)), (1, .int x), (2, .ref (a 30))] := hl
  refine lv_aload_n hx hb dL_dancer_0 rfl (lv_at hl 2 rfl) ?_
  refine lv_bipush (v := nI (37)) hx hb dL_dancer_1 (by decide) ?_
  refine w_iald (f := w 30) hx hb hK hP 26 0 rfl rfl (i := 37) (by omega) (by decide) dL_dancer_3 ?_
  refine lv_istore_n (lv' := [(3, .int (nI (w 30 37))), (0, .ref (a 0)), (1, .int x), (2, .ref (a 30))]) hx hb dL_dancer_4 rfl hl (by decide) rfl (fun ls hl => ?_)
  refine lv_aload_n hx hb dL_dancer_5 rfl (lv_at hl 3 rfl) ?_
  refine lv_bipush (v := nI (38)) hx hb dL_dancer_6 (by decide) ?_
  refine lv_iload_n hx hb dL_dancer_8 rfl (lv_at hl 0 rfl) ?_
  refine w_iadd (x := 38) (y := w 30 37) hx hb dL_dancer_9  ?_
  refine lv_iload_n hx hb dL_dancer_10 rfl (lv_at hl 2 rfl) ?_
  refine lv_iconst (v := nI (3)) hx hb dL_dancer_11 (by decide) ?_
  refine w_cSi (rest := [.int (nI (38 + (w 30 37))), .ref (a 30)]) hx hb hml hown hts (k_some l D cI cJ cZ A (pW a cI cJ cZ v c w) x 3 (by omega)) 2 gL_dancer_L_some rfl hdL_some ⟨Nat.le_of_ble_eq_true rfl, Nat.le_of_ble_eq_true rfl⟩ hK hN hP hD hS hA rfl hl.1 rfl (Nat.le_of_ble_eq_true rfl) dL_dancer_12 ⟨Nat.le_of_ble_eq_true rfl, Nat.le_of_ble_eq_true rfl⟩ (fun r u H locs hq hP hD hS => ?_)
  obtain ⟨j_12, hj_12, rfl⟩ := hq
  have hP : va_P D vwCl (pW a cI cJ cZ v c w) H := hP
  have hD : va_D A (pW a cI cJ cZ v c w) := hD
  refine w_iast (f := w 30) (w := j_12) hx hb hK hP hD hS 26 0 rfl rfl (i := 38 + (w 30 37)) (by omega) (by decide) dL_dancer_15 (fun H locs hP hD hS => ?_)
  have hP : va_P D vwCl (pW a cI cJ cZ v c (va_up w 30 (va_up (w 30) (38 + (w 30 37)) j_12))) H := hP
  have hD : va_D A (pW a cI cJ cZ v c (va_up w 30 (va_up (w 30) (38 + (w 30 37)) j_12))) := hD
  refine lv_aload_n hx hb dL_dancer_16 rfl (lv_at hl 3 rfl) ?_
  refine lv_bipush (v := nI (42)) hx hb dL_dancer_17 (by decide) ?_
  refine lv_iload_n hx hb dL_dancer_19 rfl (lv_at hl 0 rfl) ?_
  refine w_iadd (x := 42) (y := w 30 37) hx hb dL_dancer_20  ?_
  refine lv_iconst (v := nI (1)) hx hb dL_dancer_21 (by decide) ?_
  refine lv_iload_n hx hb dL_dancer_22 rfl (lv_at hl 2 rfl) ?_
  refine lv_iconst (v := nI (2)) hx hb dL_dancer_23 (by decide) ?_
  refine lv_ishr hx hb dL_dancer_24 ?_
  refine lv_bipush (v := nI (9)) hx hb dL_dancer_25 (by decide) ?_
  refine w_cSi (rest := [.int (nI (1)), .int (nI (42 + (w 30 37))), .ref (a 30)]) hx hb hml hown hts (k_some l D cI cJ cZ A (pW a cI cJ cZ v c (va_up w 30 (va_up (w 30) (38 + (w 30 37)) j_12))) (x >>> ((nI (2)) &&& 31)) 9 (by omega)) 2 gL_dancer_L_some rfl hdL_some ⟨Nat.le_of_ble_eq_true rfl, Nat.le_of_ble_eq_true rfl⟩ hK hN hP hD hS hA rfl hl.1 rfl (Nat.le_of_ble_eq_true rfl) dL_dancer_27 ⟨Nat.le_of_ble_eq_true rfl, Nat.le_of_ble_eq_true rfl⟩ (fun r u H locs hq hP hD hS => ?_)
  obtain ⟨j_27, hj_27, rfl⟩ := hq
  have hP : va_P D vwCl (pW a cI cJ cZ v c (va_up w 30 (va_up (w 30) (38 + (w 30 37)) j_12))) H := hP
  have hD : va_D A (pW a cI cJ cZ v c (va_up w 30 (va_up (w 30) (38 + (w 30 37)) j_12))) := hD
  refine w_iadd (x := 1) (y := j_27) hx hb dL_dancer_30  ?_
  refine w_iast (f := va_up (w 30) (38 + (w 30 37)) j_12) (w := 1 + j_27) hx hb hK hP hD hS 26 0 rfl rfl (i := 42 + (w 30 37)) (by omega) (by decide) dL_dancer_31 (fun H locs hP hD hS => ?_)
  have hP : va_P D vwCl (pW a cI cJ cZ v c (va_up w 30 (va_up (va_up (w 30) (38 + (w 30 37)) j_12) (42 + (w 30 37)) (1 + j_27)))) H := hP
  have hD : va_D A (pW a cI cJ cZ v c (va_up w 30 (va_up (va_up (w 30) (38 + (w 30 37)) j_12) (42 + (w 30 37)) (1 + j_27)))) := hD
  refine lv_aload_n hx hb dL_dancer_32 rfl (lv_at hl 3 rfl) ?_
  refine lv_bipush (v := nI (37)) hx hb dL_dancer_33 (by decide) ?_
  refine lv_dup2_11 hx hb dL_dancer_35 rfl rfl ?_
  refine w_iald (f := va_up (va_up (w 30) (38 + (w 30 37)) j_12) (42 + (w 30 37)) (1 + j_27)) hx hb hK hP 26 0 rfl rfl (i := 37) (by omega) (by decide) dL_dancer_36 ?_
  rw [show (nI ((va_up (va_up (w 30) (38 + (w 30 37)) j_12) (42 + (w 30 37)) (1 + j_27)) 37)) = (nI (w 30 37)) from by rw [up_ne (by omega), up_ne (by omega)]]
  refine lv_iconst (v := nI (1)) hx hb dL_dancer_37 (by decide) ?_
  refine w_iadd (x := w 30 37) (y := 1) hx hb dL_dancer_38  ?_
  refine w_iast (f := va_up (va_up (w 30) (38 + (w 30 37)) j_12) (42 + (w 30 37)) (1 + j_27)) (w := w 30 37 + 1) hx hb hK hP hD hS 26 0 rfl rfl (i := 37) (by omega) (by decide) dL_dancer_39 (fun H locs hP hD hS => ?_)
  have hP : va_P D vwCl (pW a cI cJ cZ v c (va_up w 30 (va_up (va_up (va_up (w 30) (38 + (w 30 37)) j_12) (42 + (w 30 37)) (1 + j_27)) 37 (w 30 37 + 1)))) H := hP
  have hD : va_D A (pW a cI cJ cZ v c (va_up w 30 (va_up (va_up (va_up (w 30) (38 + (w 30 37)) j_12) (42 + (w 30 37)) (1 + j_27)) 37 (w 30 37 + 1)))) := hD
  obtain ⟨g, eg⟩ : ∃ zz : Nat → Nat, zz = va_up (va_up (va_up (w 30) (38 + (w 30 37)) j_12) (42 + (w 30 37)) (1 + j_27)) 37 (w 30 37 + 1) := ⟨_, rfl⟩
  rw [← eg] at hP hD
  have e0 : ∀ i, i ≠ 37 → i ≠ 38 + w 30 37 → i ≠ 42 + w 30 37 → g i = w 30 i := fun i h1 h2 h3 => by rw [eg, up_ne h1, up_ne h3, up_ne h2]
  have e1 : g 37 = w 30 37 + 1 := by rw [eg, up_eq]
  have e2 : g (38 + w 30 37) = j_12 := by rw [eg, up_ne (by omega), up_ne (by omega), up_eq]
  have e3 : g (42 + w 30 37) = 1 + j_27 := by rw [eg, up_ne (by omega), up_eq]
  refine lv_aload_n hx hb dL_dancer_40 rfl (lv_at hl 1 rfl) ?_
  refine lv_aload_n hx hb dL_dancer_41 rfl (lv_at hl 3 rfl) ?_
  refine lv_bipush (v := nI (38)) hx hb dL_dancer_42 (by decide) ?_
  refine lv_iload_n hx hb dL_dancer_44 rfl (lv_at hl 0 rfl) ?_
  refine w_iadd (x := 38) (y := w 30 37) hx hb dL_dancer_45  ?_
  refine w_iald (f := g) hx hb hK hP 26 0 rfl rfl (i := 38 + (w 30 37)) (by omega) (by decide) dL_dancer_46 ?_
  rw [show (nI (g (38 + (w 30 37)))) = (nI (j_12)) from by rw [e2]]
  refine lv_aload_n hx hb dL_dancer_47 rfl (lv_at hl 3 rfl) ?_
  refine lv_bipush (v := nI (42)) hx hb dL_dancer_48 (by decide) ?_
  refine lv_iload_n hx hb dL_dancer_50 rfl (lv_at hl 0 rfl) ?_
  refine w_iadd (x := 42) (y := w 30 37) hx hb dL_dancer_51  ?_
  refine w_iald (f := g) hx hb hK hP 26 0 rfl rfl (i := 42 + (w 30 37)) (by omega) (by decide) dL_dancer_52 ?_
  rw [show (nI (g (42 + (w 30 37)))) = (nI (1 + j_27)) from by rw [e3]]
  refine l_ciJ (W1 := (xW a cI cJ cZ v c)) (W2 := (gA a cI (va_up w 30 (g)))) (rest := []) hx hb hml hown hts (t_dancer l D a cI cJ cZ (va_A (xW a cI cJ cZ v c) H.size) v c (nI (j_12)) (nI (1 + j_27)) hI) 2 gL_dancer_X6_dancer rfl hdX6_dancer ⟨Nat.le_of_ble_eq_true rfl, Nat.le_of_ble_eq_true rfl⟩ hK hN hP hD hS hA 0 6 rfl rfl rfl rfl hl.1 rfl (Nat.le_of_ble_eq_true rfl) dL_dancer_53 ⟨Nat.le_of_ble_eq_true rfl, Nat.le_of_ble_eq_true rfl⟩ (fun r_53 u H locs hq_53 hP hD hS => ?_)
  obtain ⟨v_53, c_53⟩ := u
  have hI_53 : XI v_53 := hq_53.1
  have hP : va_P D vwCl (pW a cI cJ cZ v_53 c_53 (va_up w 30 (g))) H := hP
  have hD : va_D A (pW a cI cJ cZ v_53 c_53 (va_up w 30 (g))) := hD
  obtain ⟨o1, o2, o3, o4, o5⟩ := dancer_ok (g' := g) hq_53.2 (by omega) (by omega) hgl hgd hn3 hal e0 e1 e2 e3
  have hr_53 : r_53 = nI (w 30 37) := by exact o1
  subst hr_53
  refine lv_iload_n hx hb dL_dancer_56 rfl (lv_at hl 0 rfl) ?_
  refine w_icmp_ne (x := w 30 37) (y := w 30 37) hx hb dL_dancer_57 (tgt := 64) (by decide) (by omega) (by omega) (fun c57 => absurd c57 (by exact fun z => z rfl)) (fun c57 => ?_)
  refine lv_iconst (v := nI (1)) hx hb dL_dancer_60 (by decide) ?_
  refine lv_goto (tgt := 65) hx hb dL_dancer_61 (by decide) ?_
  exact hret (nI (1)) (v_53, c_53, va_up w 30 (g)) _ _ 65 _ dL_dancer_65 rfl (by exact ⟨rfl, hI_53, o5, g, rfl, o2, o3, o4, e1⟩) hP hD hS

set_option maxHeartbeats 4000000 in
set_option maxRecDepth 100000 in
theorem k_put (l : Launch) (D : va_G) (a : Nat → Nat) (cI cJ cZ : ClassId) (A : Nat → Prop) (v : Nat → Nat → Nat) (c : Nat → Nat → Int32) (w : Nat → Nat → Nat) (b L : Nat) (xs : Nat → Int32) (hL2 : L < 2147483648) (hI : XI v) (hc3 : c 2 3 = -1) :
    sI l yL_put wsL_put 5 113 [.ref (a 0), .ref b, .int (nI 0), .int (nI 4), .ref (a 30)] D (xT cI cJ cZ) A (pW a cI cJ cZ v c w) b L xs (fun u : ((Nat → Nat → Nat) × (Nat → Nat → Int32) × (Nat → Nat → Nat)) => pW a cI cJ cZ u.1 u.2.1 u.2.2)
    (fun (r : Int32) (u : ((Nat → Nat → Nat) × (Nat → Nat → Int32) × (Nat → Nat → Nat))) => XI u.1 ∧ u.2.1 2 3 = -1 ∧ TXx u.1 u.2.1 ∧ ∃ t g, r = nI t ∧ 5 ≤ t ∧ t ≤ 80 ∧ u.2.2 = va_up w 30 g ∧ g 37 = 0 ∧ GL g ∧ ∃ S, TKN (u.2.1 4) t (g 0) (gND g) S ∧ S.1 = g 1 ∧ PSs g S (g 1)) := by
  refine s_bI cL_put 12 .int (by decide) rfl (Nat.le_of_ble_eq_true rfl) (Or.inl rfl) ?_
  intro p e s m args below meth c0 ls Q hx hb hml hts hown hK hN hA hret hX hbl hbA hP hD hS hl
  have hl : lv_has ls 12 [(0, .ref (a 0)), (1, .ref b), (2, .int (nI (0))), (3, .int (nI (4))), (4, .ref (a 30))] := hl
  refine lv_aload_n hx hb dL_put_0 rfl (lv_at hl 1 rfl) ?_
  refine lv_iload_n hx hb dL_put_1 rfl (lv_at hl 2 rfl) ?_
  refine s_cSi (rest := []) hx hb hml hown hts (k_cell l D cI cJ cZ A (pW a cI cJ cZ v c w) b L xs 0 (by omega)) 2 gL_put_L_cell rfl hdL_cell ⟨Nat.le_of_ble_eq_true rfl, Nat.le_of_ble_eq_true rfl⟩ hK hN hX hbl hbA hP hD hS hA rfl hl.1 rfl (Nat.le_of_ble_eq_true rfl) dL_put_2 ⟨Nat.le_of_ble_eq_true rfl, Nat.le_of_ble_eq_true rfl⟩ (fun r_2 u H locs hq hP hD hS => ?_)
  have hP : va_P D vwCl (pW a cI cJ cZ v c w) H := hP
  have hD : va_D A (pW a cI cJ cZ v c w) := hD
  refine lv_istore (lv' := [(5, .int r_2), (0, .ref (a 0)), (1, .ref b), (2, .int (nI (0))), (3, .int (nI (4))), (4, .ref (a 30))]) hx hb dL_put_5 hl (by decide) rfl (fun ls hl => ?_)
  refine lv_aload hx hb dL_put_7 (lv_at hl 5 rfl) ?_
  refine lv_iconst (v := nI (0)) hx hb dL_put_9 (by decide) ?_
  refine lv_iconst (v := nI (2)) hx hb dL_put_10 (by decide) ?_
  refine lv_iload hx hb dL_put_11 (lv_at hl 0 rfl) ?_
  refine lv_iload_n hx hb dL_put_13 rfl (lv_at hl 4 rfl) ?_
  refine lv_iconst (v := nI (1)) hx hb dL_put_14 (by decide) ?_
  refine lv_isub hx hb dL_put_15 ?_
  rw [show nI (4) - nI (1) = nI 3 from rfl]
  refine w_cSi (rest := [.int (nI (2)), .int (nI (0)), .ref (a 30)]) hx hb hml hown hts (k_some l D cI cJ cZ A (pW a cI cJ cZ v c w) r_2 3 (by omega)) 2 gL_put_L_some rfl hdL_some ⟨Nat.le_of_ble_eq_true rfl, Nat.le_of_ble_eq_true rfl⟩ hK hN hP hD hS hA rfl hl.1 rfl (Nat.le_of_ble_eq_true rfl) dL_put_16 ⟨Nat.le_of_ble_eq_true rfl, Nat.le_of_ble_eq_true rfl⟩ (fun r u H locs hq hP hD hS => ?_)
  obtain ⟨j_16, hj_16, rfl⟩ := hq
  have hP : va_P D vwCl (pW a cI cJ cZ v c w) H := hP
  have hD : va_D A (pW a cI cJ cZ v c w) := hD
  refine w_iadd (x := 2) (y := j_16) hx hb dL_put_19  ?_
  refine w_iast (f := w 30) (w := 2 + j_16) hx hb hK hP hD hS 26 0 rfl rfl (i := 0) (by omega) (by decide) dL_put_20 (fun H locs hP hD hS => ?_)
  have hP : va_P D vwCl (pW a cI cJ cZ v c (va_up w 30 (va_up (w 30) 0 (2 + j_16)))) H := hP
  have hD : va_D A (pW a cI cJ cZ v c (va_up w 30 (va_up (w 30) 0 (2 + j_16)))) := hD
  refine lv_aload hx hb dL_put_21 (lv_at hl 5 rfl) ?_
  refine lv_iconst (v := nI (1)) hx hb dL_put_23 (by decide) ?_
  refine lv_iconst (v := nI (1)) hx hb dL_put_24 (by decide) ?_
  refine lv_iload hx hb dL_put_25 (lv_at hl 0 rfl) ?_
  refine lv_iconst (v := nI (3)) hx hb dL_put_27 (by decide) ?_
  refine lv_ishr hx hb dL_put_28 ?_
  refine lv_iconst (v := nI (4)) hx hb dL_put_29 (by decide) ?_
  refine w_cSi (rest := [.int (nI (1)), .int (nI (1)), .ref (a 30)]) hx hb hml hown hts (k_some l D cI cJ cZ A (pW a cI cJ cZ v c (va_up w 30 (va_up (w 30) 0 (2 + j_16)))) (r_2 >>> ((nI (3)) &&& 31)) 4 (by omega)) 2 gL_put_L_some rfl hdL_some ⟨Nat.le_of_ble_eq_true rfl, Nat.le_of_ble_eq_true rfl⟩ hK hN hP hD hS hA rfl hl.1 rfl (Nat.le_of_ble_eq_true rfl) dL_put_30 ⟨Nat.le_of_ble_eq_true rfl, Nat.le_of_ble_eq_true rfl⟩ (fun r u H locs hq hP hD hS => ?_)
  obtain ⟨j_30, hj_30, rfl⟩ := hq
  have hP : va_P D vwCl (pW a cI cJ cZ v c (va_up w 30 (va_up (w 30) 0 (2 + j_16)))) H := hP
  have hD : va_D A (pW a cI cJ cZ v c (va_up w 30 (va_up (w 30) 0 (2 + j_16)))) := hD
  refine w_iadd (x := 1) (y := j_30) hx hb dL_put_33  ?_
  refine w_iast (f := va_up (w 30) 0 (2 + j_16)) (w := 1 + j_30) hx hb hK hP hD hS 26 0 rfl rfl (i := 1) (by omega) (by decide) dL_put_34 (fun H locs hP hD hS => ?_)
  have hP : va_P D vwCl (pW a cI cJ cZ v c (va_up w 30 (va_up (va_up (w 30) 0 (2 + j_16)) 1 (1 + j_30)))) H := hP
  have hD : va_D A (pW a cI cJ cZ v c (va_up w 30 (va_up (va_up (w 30) 0 (2 + j_16)) 1 (1 + j_30)))) := hD
  refine lv_aload hx hb dL_put_35 (lv_at hl 5 rfl) ?_
  refine lv_bipush (v := nI (37)) hx hb dL_put_37 (by decide) ?_
  refine lv_iconst (v := nI (0)) hx hb dL_put_39 (by decide) ?_
  refine w_iast (f := va_up (va_up (w 30) 0 (2 + j_16)) 1 (1 + j_30)) (w := 0) hx hb hK hP hD hS 26 0 rfl rfl (i := 37) (by omega) (by decide) dL_put_40 (fun H locs hP hD hS => ?_)
  have hP : va_P D vwCl (pW a cI cJ cZ v c (va_up w 30 (va_up (va_up (va_up (w 30) 0 (2 + j_16)) 1 (1 + j_30)) 37 0))) H := hP
  have hD : va_D A (pW a cI cJ cZ v c (va_up w 30 (va_up (va_up (va_up (w 30) 0 (2 + j_16)) 1 (1 + j_30)) 37 0))) := hD
  refine lv_aload hx hb dL_put_41 (lv_at hl 5 rfl) ?_
  refine lv_bipush (v := nI (46)) hx hb dL_put_43 (by decide) ?_
  refine lv_iconst (v := nI (0)) hx hb dL_put_45 (by decide) ?_
  refine w_iast (f := va_up (va_up (va_up (w 30) 0 (2 + j_16)) 1 (1 + j_30)) 37 0) (w := 0) hx hb hK hP hD hS 26 0 rfl rfl (i := 46) (by omega) (by decide) dL_put_46 (fun H locs hP hD hS => ?_)
  have hP : va_P D vwCl (pW a cI cJ cZ v c (va_up w 30 (va_up (va_up (va_up (va_up (w 30) 0 (2 + j_16)) 1 (1 + j_30)) 37 0) 46 0))) H := hP
  have hD : va_D A (pW a cI cJ cZ v c (va_up w 30 (va_up (va_up (va_up (va_up (w 30) 0 (2 + j_16)) 1 (1 + j_30)) 37 0) 46 0))) := hD
  obtain ⟨g0, eg0⟩ : ∃ zz : Nat → Nat, zz = va_up (va_up (va_up (va_up (w 30) 0 (2 + j_16)) 1 (1 + j_30)) 37 0) 46 0 := ⟨_, rfl⟩
  rw [← eg0] at hP hD
  have e0 : g0 0 = 2 + j_16 := by rw [eg0, up_ne (by decide), up_ne (by decide), up_ne (by decide), up_eq]
  have e1 : g0 1 = 1 + j_30 := by rw [eg0, up_ne (by decide), up_ne (by decide), up_eq]
  have e37 : g0 37 = 0 := by rw [eg0, up_ne (by decide), up_eq]
  refine lv_aload_n hx hb dL_put_47 rfl (lv_at hl 1 rfl) ?_
  refine lv_iconst (v := nI (0)) hx hb dL_put_48 (by decide) ?_
  refine lv_iconst (v := nI (0)) hx hb dL_put_49 (by decide) ?_
  refine lv_bipush (v := nI (80)) hx hb dL_put_50 (by decide) ?_
  refine l_ciJ (W1 := (xW a cI cJ cZ v c)) (W2 := (gA a cI (va_up w 30 (g0)))) (rest := []) hx hb hml hown hts (t_sheet l D a cI cJ cZ (va_A (xW a cI cJ cZ v c) H.size) v c (nI (0)) (nI (0)) (nI (80)) hI) 3 gL_put_X6_sheet rfl hdX6_sheet ⟨Nat.le_of_ble_eq_true rfl, Nat.le_of_ble_eq_true rfl⟩ hK hN hP hD hS hA 0 6 rfl rfl rfl rfl hl.1 rfl (Nat.le_of_ble_eq_true rfl) dL_put_52 ⟨Nat.le_of_ble_eq_true rfl, Nat.le_of_ble_eq_true rfl⟩ (fun r_52 u H locs hq_52 hP hD hS => ?_)
  obtain ⟨v_52, c_52⟩ := u
  have hI_52 : XI v_52 := hq_52.1
  have hP : va_P D vwCl (pW a cI cJ cZ v_52 c_52 (va_up w 30 (g0))) H := hP
  have hD : va_D A (pW a cI cJ cZ v_52 c_52 (va_up w 30 (g0))) := hD
  have hs_52 := sheet0 hq_52.2 hc3
  have hr_52 : r_52 = nI (1) := by exact hs_52.1
  subst hr_52
  refine lv_iconst (v := nI (1)) hx hb dL_put_55 (by decide) ?_
  refine w_icmp_ne (x := 1) (y := 1) hx hb dL_put_56 (tgt := 88) (by decide) (by decide) (by decide) (fun h => absurd h (by decide)) (fun _ => ?_)
  refine lv_aload_n hx hb dL_put_59 rfl (lv_at hl 1 rfl) ?_
  refine lv_iconst (v := nI (0)) hx hb dL_put_60 (by decide) ?_
  refine lv_iconst (v := nI (0)) hx hb dL_put_61 (by decide) ?_
  refine lv_bipush (v := nI (108)) hx hb dL_put_62 (by decide) ?_
  refine l_ciJ (W1 := (xW a cI cJ cZ v_52 c_52)) (W2 := (gA a cI (va_up w 30 (g0)))) (rest := []) hx hb hml hown hts (t_put l D a cI cJ cZ (va_A (xW a cI cJ cZ v_52 c_52) H.size) v_52 c_52 (nI (0)) (nI (0)) (nI (108)) hI_52) 3 gL_put_X6_put rfl hdX6_put ⟨Nat.le_of_ble_eq_true rfl, Nat.le_of_ble_eq_true rfl⟩ hK hN hP hD hS hA 0 6 rfl rfl rfl rfl hl.1 rfl (Nat.le_of_ble_eq_true rfl) dL_put_64 ⟨Nat.le_of_ble_eq_true rfl, Nat.le_of_ble_eq_true rfl⟩ (fun r_64 u H locs hq_64 hP hD hS => ?_)
  obtain ⟨v_64, c_64⟩ := u
  have hI_64 : XI v_64 := hq_64.1
  have hP : va_P D vwCl (pW a cI cJ cZ v_64 c_64 (va_up w 30 (g0))) H := hP
  have hD : va_D A (pW a cI cJ cZ v_64 c_64 (va_up w 30 (g0))) := hD
  have hp_64 := put0 (z := 108) hq_64.2 hs_52.2 (by omega) (by omega)
  have hr_64 : r_64 = nI (1) := by exact hp_64.1
  subst hr_64
  refine lv_iconst (v := nI (1)) hx hb dL_put_67 (by decide) ?_
  refine w_icmp_ne (x := 1) (y := 1) hx hb dL_put_68 (tgt := 88) (by decide) (by decide) (by decide) (fun h => absurd h (by decide)) (fun _ => ?_)
  refine lv_aload_n hx hb dL_put_71 rfl (lv_at hl 1 rfl) ?_
  refine lv_iconst (v := nI (0)) hx hb dL_put_72 (by decide) ?_
  refine lv_iconst (v := nI (1)) hx hb dL_put_73 (by decide) ?_
  refine lv_bipush (v := nI (48)) hx hb dL_put_74 (by decide) ?_
  refine lv_aload hx hb dL_put_76 (lv_at hl 5 rfl) ?_
  refine lv_iconst (v := nI (0)) hx hb dL_put_78 (by decide) ?_
  refine w_iald (f := g0) hx hb hK hP 26 0 rfl rfl (i := 0) (by omega) (by decide) dL_put_79 ?_
  refine w_iadd (x := 48) (y := g0 0) hx hb dL_put_80  ?_
  refine l_ciJ (W1 := (xW a cI cJ cZ v_64 c_64)) (W2 := (gA a cI (va_up w 30 (g0)))) (rest := []) hx hb hml hown hts (t_put l D a cI cJ cZ (va_A (xW a cI cJ cZ v_64 c_64) H.size) v_64 c_64 (nI (0)) (nI (1)) (nI (48 + (g0 0))) hI_64) 3 gL_put_X6_put rfl hdX6_put ⟨Nat.le_of_ble_eq_true rfl, Nat.le_of_ble_eq_true rfl⟩ hK hN hP hD hS hA 0 6 rfl rfl rfl rfl hl.1 rfl (Nat.le_of_ble_eq_true rfl) dL_put_81 ⟨Nat.le_of_ble_eq_true rfl, Nat.le_of_ble_eq_true rfl⟩ (fun r_81 u H locs hq_81 hP hD hS => ?_)
  obtain ⟨v_81, c_81⟩ := u
  have hI_81 : XI v_81 := hq_81.1
  have hP : va_P D vwCl (pW a cI cJ cZ v_81 c_81 (va_up w 30 (g0))) H := hP
  have hD : va_D A (pW a cI cJ cZ v_81 c_81 (va_up w 30 (g0))) := hD
  have hp_81 := put0 (z := 48 + g0 0) hq_81.2 hp_64.2.1 (by omega) (by omega)
  have hr_81 : r_81 = nI (1) := by exact hp_81.1
  subst hr_81
  refine lv_iconst (v := nI (1)) hx hb dL_put_84 (by decide) ?_
  refine w_icmp_eq (x := 1) (y := 1) hx hb dL_put_85 (tgt := 91) (by decide) (by decide) (by decide) (fun _ => ?_) (fun h => absurd h (by decide))
  refine lv_iconst (v := nI (2)) hx hb dL_put_91 (by decide) ?_
  refine lv_istore (lv' := [(6, .int (nI (2))), (5, .int r_2), (0, .ref (a 0)), (1, .ref b), (2, .int (nI (0))), (3, .int (nI (4))), (4, .ref (a 30))]) hx hb dL_put_92 hl (by decide) rfl (fun ls hl => ?_)
  refine lv_iconst (v := nI (0)) hx hb dL_put_94 (by decide) ?_
  refine lv_istore (lv' := [(7, .int (nI (0))), (6, .int (nI (2))), (5, .int r_2), (0, .ref (a 0)), (1, .ref b), (2, .int (nI (0))), (3, .int (nI (4))), (4, .ref (a 30))]) hx hb dL_put_95 hl (by decide) rfl (fun ls hl => ?_)
  have L97 : ∀ (n : Nat) (v : Nat → Nat → Nat) (c : Nat → Nat → Int32) (g : Nat → Nat) (i : Nat) (H : Heap) (locs : List Loc) (ls : Array Slot), g 0 - i < n → (XI v) → (i ≤ g 0) → (2 ≤ g 0 ∧ g 0 ≤ 4 ∧ 1 ≤ g 1 ∧ g 1 ≤ 4 ∧ g 37 = 0) → (TXx v c) → (PHD g (c 4) i) → va_P D vwCl (pW a cI cJ cZ v c (va_up w 30 (g))) H → va_D A (pW a cI cJ cZ v c (va_up w 30 (g))) → va_S A s.heap H locs → lv_has ls 12 [(6, .int (nI (2 + i))), (7, .int (nI (i))), (0, .ref (a 0)), (1, .ref b), (2, .int (nI (0))), (3, .int (nI (4))), (4, .ref (a 30)), (5, .int r_2)] → W p l e { frames := 5, cells := 0, slots := 0, locals := 113 } s m args below meth c0 H locs 0 0 Q (F0 m 97 ls []) := by
    intro n
    induction n with
    | zero => intro v c g i H locs ls hm; exact absurd hm (Nat.not_lt_zero _)
    | succ n ih97 =>
      intro v c g i H locs ls hm97 hI hi hG hT hH hP hD hS hl
      refine lv_iload hx hb dL_put_97 (lv_at hl 1 rfl) ?_
      refine lv_aload hx hb dL_put_99 (lv_at hl 6 rfl) ?_
      refine lv_iconst (v := nI (0)) hx hb dL_put_101 (by decide) ?_
      refine w_iald (f := g) hx hb hK hP 26 0 rfl rfl (i := 0) (by omega) (by decide) dL_put_102 ?_
      refine w_icmp_ge (x := i) (y := g 0) hx hb dL_put_103 (tgt := 178) (by decide) (by omega) (by omega) (fun c103 => ?_) (fun c103 => ?_)
      · skip
        refine lv_iconst (v := nI (0)) hx hb dL_put_178 (by decide) ?_
        refine lv_istore (lv' := [(7, .int (nI (0))), (6, .int (nI (2 + i))), (0, .ref (a 0)), (1, .ref b), (2, .int (nI (0))), (3, .int (nI (4))), (4, .ref (a 30)), (5, .int r_2)]) hx hb dL_put_179 hl (by decide) rfl (fun ls hl => ?_)
        have L181 : ∀ (n : Nat) (v : Nat → Nat → Nat) (c : Nat → Nat → Int32) (g : Nat → Nat) (dd : Nat) (t : Nat) (H : Heap) (locs : List Loc) (ls : Array Slot), g 1 - dd < n → (XI v) → (dd ≤ g 1) → (2 ≤ g 0 ∧ g 0 ≤ 4 ∧ 1 ≤ g 1 ∧ g 1 ≤ 4 ∧ g 37 = 0) → (TXx v c) → ((dd = 0 ∧ t ≤ 6) ∨ (0 < dd ∧ t ≤ 9 + 15 * dd)) → (PD g (c 4) t dd) → va_P D vwCl (pW a cI cJ cZ v c (va_up w 30 (g))) H → va_D A (pW a cI cJ cZ v c (va_up w 30 (g))) → va_S A s.heap H locs → lv_has ls 12 [(6, .int (nI (t))), (7, .int (nI (dd))), (0, .ref (a 0)), (1, .ref b), (2, .int (nI (0))), (3, .int (nI (4))), (4, .ref (a 30)), (5, .int r_2)] → W p l e { frames := 5, cells := 0, slots := 0, locals := 113 } s m args below meth c0 H locs 0 0 Q (F0 m 181 ls []) := by
          intro n
          induction n with
          | zero => intro v c g dd t H locs ls hm; exact absurd hm (Nat.not_lt_zero _)
          | succ n ih181 =>
            intro v c g dd t H locs ls hm181 hI hd hG hT hB hPD hP hD hS hl
            refine lv_iload hx hb dL_put_181 (lv_at hl 1 rfl) ?_
            refine lv_aload hx hb dL_put_183 (lv_at hl 6 rfl) ?_
            refine lv_iconst (v := nI (1)) hx hb dL_put_185 (by decide) ?_
            refine w_iald (f := g) hx hb hK hP 26 0 rfl rfl (i := 1) (by omega) (by decide) dL_put_186 ?_
            refine w_icmp_ge (x := dd) (y := g 1) hx hb dL_put_187 (tgt := 417) (by decide) (by omega) (by omega) (fun c187 => ?_) (fun c187 => ?_)
            · skip
              refine lv_iload hx hb dL_put_417 (lv_at hl 0 rfl) ?_
              exact hret (nI (t)) (v, c, va_up w 30 (g)) _ _ 419 _ dL_put_419 rfl (by have e : dd = g 1 := (by omega); rw [e] at hPD; obtain ⟨f1, S, f2, f3, f4⟩ := PD_end hPD ⟨hG.1, hG.2.1⟩ ⟨hG.2.2.1, hG.2.2.2.1⟩; have f5 := RS_0n f2.2.2.2.1 (by omega); exact ⟨hI, hT.2.2, hT, t, g, rfl, by omega, by omega, rfl, hG.2.2.2.2, f1, S, f2, f3, f4⟩) hP hD hS
            · skip
              refine lv_aload_n hx hb dL_put_190 rfl (lv_at hl 3 rfl) ?_
              refine lv_iload_n hx hb dL_put_191 rfl (lv_at hl 4 rfl) ?_
              refine lv_iconst (v := nI (1)) hx hb dL_put_192 (by decide) ?_
              refine lv_iadd hx hb dL_put_193 ?_
              rw [show nI (0) + nI (1) = nI 1 from rfl]
              refine lv_iload hx hb dL_put_194 (lv_at hl 1 rfl) ?_
              refine w_iadd (x := 1) (y := dd) hx hb dL_put_196  ?_
              refine s_cSi (rest := []) hx hb hml hown hts (k_cell l D cI cJ cZ A (pW a cI cJ cZ v c (va_up w 30 (g))) b L xs (1 + dd) (by omega)) 2 gL_put_L_cell rfl hdL_cell ⟨Nat.le_of_ble_eq_true rfl, Nat.le_of_ble_eq_true rfl⟩ hK hN hX hbl hbA hP hD hS hA rfl hl.1 rfl (Nat.le_of_ble_eq_true rfl) dL_put_197 ⟨Nat.le_of_ble_eq_true rfl, Nat.le_of_ble_eq_true rfl⟩ (fun r_197 u H locs hq hP hD hS => ?_)
              have hP : va_P D vwCl (pW a cI cJ cZ v c (va_up w 30 (g))) H := hP
              have hD : va_D A (pW a cI cJ cZ v c (va_up w 30 (g))) := hD
              refine lv_istore (lv' := [(8, .int r_197), (6, .int (nI (t))), (7, .int (nI (dd))), (0, .ref (a 0)), (1, .ref b), (2, .int (nI (0))), (3, .int (nI (4))), (4, .ref (a 30)), (5, .int r_2)]) hx hb dL_put_200 hl (by decide) rfl (fun ls hl => ?_)
              refine lv_aload hx hb dL_put_202 (lv_at hl 7 rfl) ?_
              refine lv_bipush (v := nI (9)) hx hb dL_put_204 (by decide) ?_
              refine lv_iload hx hb dL_put_206 (lv_at hl 2 rfl) ?_
              refine w_iadd (x := 9) (y := dd) hx hb dL_put_208  ?_
              refine lv_iconst (v := nI (1)) hx hb dL_put_209 (by decide) ?_
              refine lv_iload hx hb dL_put_210 (lv_at hl 0 rfl) ?_
              refine lv_iload hx hb dL_put_212 (lv_at hl 2 rfl) ?_
              refine w_if_ne (x := dd) hx hb dL_put_214 (tgt := 222) (by decide) (by omega) (fun c214 => ?_) (fun c214 => ?_)
              · skip
                refine lv_iconst (v := nI (5)) hx hb dL_put_222 (by decide) ?_
                refine w_cSi (rest := [.int (nI (1)), .int (nI (9 + dd)), .ref (a 30)]) hx hb hml hown hts (k_some l D cI cJ cZ A (pW a cI cJ cZ v c (va_up w 30 (g))) r_197 5 (by omega)) 2 gL_put_L_some rfl hdL_some ⟨Nat.le_of_ble_eq_true rfl, Nat.le_of_ble_eq_true rfl⟩ hK hN hP hD hS hA rfl hl.1 rfl (Nat.le_of_ble_eq_true rfl) dL_put_223 ⟨Nat.le_of_ble_eq_true rfl, Nat.le_of_ble_eq_true rfl⟩ (fun r u H locs hq hP hD hS => ?_)
                obtain ⟨j_223, hj_223, rfl⟩ := hq
                have hP : va_P D vwCl (pW a cI cJ cZ v c (va_up w 30 (g))) H := hP
                have hD : va_D A (pW a cI cJ cZ v c (va_up w 30 (g))) := hD
                refine w_iadd (x := 1) (y := j_223) hx hb dL_put_226  ?_
                refine w_iast (f := g) (w := 1 + j_223) hx hb hK hP hD hS 26 0 rfl rfl (i := 9 + dd) (by omega) (by decide) dL_put_227 (fun H locs hP hD hS => ?_)
                have hP : va_P D vwCl (pW a cI cJ cZ v c (va_up w 30 (va_up g (9 + dd) (1 + j_223)))) H := hP
                have hD : va_D A (pW a cI cJ cZ v c (va_up w 30 (va_up g (9 + dd) (1 + j_223)))) := hD
                obtain ⟨g2, eg2⟩ : ∃ zz : Nat → Nat, zz = va_up g (9 + dd) (1 + j_223) := ⟨_, rfl⟩
                rw [← eg2] at hP hD
                have ek2 : ∀ q, q ≠ 9 + dd → g2 q = g q := fun q hq => by rw [eg2]; exact up_ne hq
                have ev2 : g2 (9 + dd) = 1 + j_223 := by rw [eg2]; exact up_eq
                refine lv_iconst (v := nI (0)) hx hb dL_put_228 (by decide) ?_
                refine lv_istore (lv' := [(9, .int (nI (0))), (8, .int r_197), (6, .int (nI (t))), (7, .int (nI (dd))), (0, .ref (a 0)), (1, .ref b), (2, .int (nI (0))), (3, .int (nI (4))), (4, .ref (a 30)), (5, .int r_2)]) hx hb dL_put_229 hl (by decide) rfl (fun ls hl => ?_)
                have L231 : ∀ (n : Nat) (v : Nat → Nat → Nat) (c : Nat → Nat → Int32) (gk : Nat → Nat) (kk : Nat) (t : Nat) (H : Heap) (locs : List Loc) (ls : Array Slot), gk (9 + dd) - kk < n → (XI v) → (dd < gk 1) → (gk 1 = g 1) → (2 ≤ gk 0 ∧ gk 0 ≤ 4 ∧ 1 ≤ gk 1 ∧ gk 1 ≤ 4 ∧ gk 37 = 0) → (TXx v c) → (kk ≤ gk (9 + dd)) → ((1 ≤ gk (9 + dd) ∧ gk (9 + dd) ≤ 6) ∧ (0 < dd → gk (9 + dd) ≤ 5)) → ((dd = 0 ∧ t ≤ 6 + 3 * kk) ∨ (0 < dd ∧ t ≤ 9 + 15 * dd + 3 * kk)) → (PK gk (c 4) t dd kk) → va_P D vwCl (pW a cI cJ cZ v c (va_up w 30 (gk))) H → va_D A (pW a cI cJ cZ v c (va_up w 30 (gk))) → va_S A s.heap H locs → lv_has ls 12 [(6, .int (nI (t))), (9, .int (nI (kk))), (0, .ref (a 0)), (1, .ref b), (2, .int (nI (0))), (3, .int (nI (4))), (4, .ref (a 30)), (5, .int r_2), (7, .int (nI (dd))), (8, .int r_197)] → W p l e { frames := 5, cells := 0, slots := 0, locals := 113 } s m args below meth c0 H locs 0 0 Q (F0 m 231 ls []) := by
                  intro n
                  induction n with
                  | zero => intro v c gk kk t H locs ls hm; exact absurd hm (Nat.not_lt_zero _)
                  | succ n ih231 =>
                    intro v c gk kk t H locs ls hm231 hI hd h1 hG hT hk hbt hB hPK hP hD hS hl
                    refine lv_iload hx hb dL_put_231 (lv_at hl 1 rfl) ?_
                    refine lv_aload hx hb dL_put_233 (lv_at hl 6 rfl) ?_
                    refine lv_bipush (v := nI (9)) hx hb dL_put_235 (by decide) ?_
                    refine lv_iload hx hb dL_put_237 (lv_at hl 8 rfl) ?_
                    refine w_iadd (x := 9) (y := dd) hx hb dL_put_239  ?_
                    refine w_iald (f := gk) hx hb hK hP 26 0 rfl rfl (i := 9 + dd) (by omega) (by decide) dL_put_240 ?_
                    refine w_icmp_ge (x := kk) (y := gk (9 + dd)) hx hb dL_put_241 (tgt := 411) (by decide) (by omega) (by omega) (fun c241 => ?_) (fun c241 => ?_)
                    · skip
                      refine lv_iinc (v := nI (dd + 1)) (lv' := [(7, .int (nI (dd + 1))), (6, .int (nI (t))), (9, .int (nI (kk))), (0, .ref (a 0)), (1, .ref b), (2, .int (nI (0))), (3, .int (nI (4))), (4, .ref (a 30)), (5, .int r_2), (8, .int r_197)]) hx hb dL_put_411 hl (k := 8) rfl (nI_add dd 1) (by decide) rfl (fun ls hl => ?_)
                      refine lv_goto (tgt := 181) hx hb dL_put_414 (by decide) ?_
                      exact ih181 v c gk (dd + 1) t _ _ _ (by omega) (by exact hI) (by omega) (by exact hG) (by exact hT) (by omega) (by have e : kk = gk (9 + dd) := (by omega); rw [e] at hPK; exact PD_s hPK hbt.1) hP hD hS (lv_sub hl [1, 0, 3, 4, 5, 6, 7, 8] rfl)
                    · skip
                      refine lv_iconst (v := nI (0)) hx hb dL_put_244 (by decide) ?_
                      refine lv_istore (lv' := [(10, .int (nI (0))), (6, .int (nI (t))), (9, .int (nI (kk))), (0, .ref (a 0)), (1, .ref b), (2, .int (nI (0))), (3, .int (nI (4))), (4, .ref (a 30)), (5, .int r_2), (7, .int (nI (dd))), (8, .int r_197)]) hx hb dL_put_245 hl (by decide) rfl (fun ls hl => ?_)
                      refine lv_iconst (v := nI (0)) hx hb dL_put_247 (by decide) ?_
                      refine lv_istore (lv' := [(11, .int (nI (0))), (10, .int (nI (0))), (6, .int (nI (t))), (9, .int (nI (kk))), (0, .ref (a 0)), (1, .ref b), (2, .int (nI (0))), (3, .int (nI (4))), (4, .ref (a 30)), (5, .int r_2), (7, .int (nI (dd))), (8, .int r_197)]) hx hb dL_put_248 hl (by decide) rfl (fun ls hl => ?_)
                      have L250 : ∀ (n : Nat) (qq : Nat) (z : Nat) (H : Heap) (locs : List Loc) (ls : Array Slot), 2 - qq < n → (qq ≤ 2) → (z < 2 ^ gk 0) → (pc z ≤ qq) → va_P D vwCl (pW a cI cJ cZ v c (va_up w 30 (gk))) H → va_D A (pW a cI cJ cZ v c (va_up w 30 (gk))) → va_S A s.heap H locs → lv_has ls 12 [(10, .int (nI (z))), (11, .int (nI (qq))), (0, .ref (a 0)), (1, .ref b), (2, .int (nI (0))), (3, .int (nI (4))), (4, .ref (a 30)), (5, .int r_2), (6, .int (nI (t))), (7, .int (nI (dd))), (8, .int r_197), (9, .int (nI (kk)))] → W p l e { frames := 5, cells := 0, slots := 0, locals := 113 } s m args below meth c0 H locs 0 0 Q (F0 m 250 ls []) := by
                        intro n
                        induction n with
                        | zero => intro qq z H locs ls hm; exact absurd hm (Nat.not_lt_zero _)
                        | succ n ih250 =>
                          intro qq z H locs ls hm250 hq2 hz hpz hP hD hS hl
                          refine lv_iload hx hb dL_put_250 (lv_at hl 1 rfl) ?_
                          refine lv_iconst (v := nI (2)) hx hb dL_put_252 (by decide) ?_
                          refine w_icmp_ge (x := qq) (y := 2) hx hb dL_put_253 (tgt := 309) (by decide) (by omega) (by omega) (fun c253 => ?_) (fun c253 => ?_)
                          · skip
                            refine lv_aload hx hb dL_put_309 (lv_at hl 6 rfl) ?_
                            refine lv_bipush (v := nI (13)) hx hb dL_put_311 (by decide) ?_
                            refine lv_bipush (v := nI (6)) hx hb dL_put_313 (by decide) ?_
                            refine lv_iload hx hb dL_put_315 (lv_at hl 9 rfl) ?_
                            refine w_imul (x := 6) (y := dd) hx hb dL_put_317  ?_
                            refine w_iadd (x := 13) (y := 6 * dd) hx hb dL_put_318  ?_
                            refine lv_iload hx hb dL_put_319 (lv_at hl 11 rfl) ?_
                            refine w_iadd (x := 13 + (6 * dd)) (y := kk) hx hb dL_put_321  ?_
                            refine lv_iload hx hb dL_put_322 (lv_at hl 0 rfl) ?_
                            refine w_iast (f := gk) (w := z) hx hb hK hP hD hS 26 0 rfl rfl (i := 13 + (6 * dd) + kk) (by omega) (by decide) dL_put_324 (fun H locs hP hD hS => ?_)
                            have hP : va_P D vwCl (pW a cI cJ cZ v c (va_up w 30 (va_up gk (13 + (6 * dd) + kk) z))) H := hP
                            have hD : va_D A (pW a cI cJ cZ v c (va_up w 30 (va_up gk (13 + (6 * dd) + kk) z))) := hD
                            obtain ⟨g3, eg3⟩ : ∃ zz : Nat → Nat, zz = va_up gk (13 + (6 * dd) + kk) z := ⟨_, rfl⟩
                            rw [← eg3] at hP hD
                            have ek3 : ∀ q, q ≠ 13 + 6 * dd + kk → g3 q = gk q := fun q hq => by rw [eg3]; exact up_ne hq
                            have ev3 : g3 (13 + 6 * dd + kk) = z := by rw [eg3]; exact up_eq
                            have hG3 : 2 ≤ g3 0 ∧ g3 0 ≤ 4 ∧ 1 ≤ g3 1 ∧ g3 1 ≤ 4 ∧ g3 37 = 0 := by rw [ek3 0 (by omega), ek3 1 (by omega), ek3 37 (by omega)]; exact hG
                            have hz16 : z < 16 := Nat.lt_of_lt_of_le hz (p2_16 hG.2.1)
                            have e30 : g3 0 = gk 0 := ek3 0 (by omega)
                            refine lv_aload_n hx hb dL_put_325 rfl (lv_at hl 2 rfl) ?_
                            refine lv_iconst (v := nI (0)) hx hb dL_put_326 (by decide) ?_
                            refine lv_iload hx hb dL_put_327 (lv_at hl 8 rfl) ?_
                            refine lv_iinc (v := nI (t + 1)) (lv' := [(6, .int (nI (t + 1))), (10, .int (nI (z))), (11, .int (nI (qq))), (0, .ref (a 0)), (1, .ref b), (2, .int (nI (0))), (3, .int (nI (4))), (4, .ref (a 30)), (5, .int r_2), (7, .int (nI (dd))), (8, .int r_197), (9, .int (nI (kk)))]) hx hb dL_put_329 hl (k := 8) rfl (nI_add t 1) (by decide) rfl (fun ls hl => ?_)
                            refine lv_iload hx hb dL_put_332 (lv_at hl 11 rfl) ?_
                            refine w_if_ne (x := kk) hx hb dL_put_334 (tgt := 342) (by decide) (by omega) (fun c334 => ?_) (fun c334 => ?_)
                            · skip
                              refine lv_bipush (v := nI (44)) hx hb dL_put_342 (by decide) ?_
                              refine l_ciJ (W1 := (xW a cI cJ cZ v c)) (W2 := (gA a cI (va_up w 30 (g3)))) (rest := []) hx hb hml hown hts (t_put l D a cI cJ cZ (va_A (xW a cI cJ cZ v c) H.size) v c (nI (0)) (nI (t)) (nI (44)) hI) 3 gL_put_X6_put rfl hdX6_put ⟨Nat.le_of_ble_eq_true rfl, Nat.le_of_ble_eq_true rfl⟩ hK hN hP hD hS hA 0 6 rfl rfl rfl rfl hl.1 rfl (Nat.le_of_ble_eq_true rfl) dL_put_344 ⟨Nat.le_of_ble_eq_true rfl, Nat.le_of_ble_eq_true rfl⟩ (fun r_344 u H locs hq_344 hP hD hS => ?_)
                              obtain ⟨v_344, c_344⟩ := u
                              have hI_344 : XI v_344 := hq_344.1
                              have hP : va_P D vwCl (pW a cI cJ cZ v_344 c_344 (va_up w 30 (g3))) H := hP
                              have hD : va_D A (pW a cI cJ cZ v_344 c_344 (va_up w 30 (g3))) := hD
                              have hp_344 := put0 hq_344.2 hT (by omega) (by omega)
                              have hr_344 : r_344 = nI (1) := by exact hp_344.1
                              subst hr_344
                              refine lv_iconst (v := nI (1)) hx hb dL_put_347 (by decide) ?_
                              refine w_icmp_eq (x := 1) (y := 1) hx hb dL_put_348 (tgt := 354) (by decide) (by decide) (by decide) (fun _ => ?_) (fun h => absurd h (by decide))
                              refine lv_iconst (v := nI (0)) hx hb dL_put_354 (by decide) ?_
                              refine lv_istore (lv' := [(11, .int (nI (0))), (6, .int (nI (t + 1))), (10, .int (nI (z))), (0, .ref (a 0)), (1, .ref b), (2, .int (nI (0))), (3, .int (nI (4))), (4, .ref (a 30)), (5, .int r_2), (7, .int (nI (dd))), (8, .int r_197), (9, .int (nI (kk)))]) hx hb dL_put_355 hl (by decide) rfl (fun ls hl => ?_)
                              have L357 : ∀ (n : Nat) (v : Nat → Nat → Nat) (c : Nat → Nat → Int32) (tb : Nat) (bb : Nat) (H : Heap) (locs : List Loc) (ls : Array Slot), g3 0 - bb < n → (XI v) → (bb ≤ g3 0) → (TXx v c) → (tb = t + 1 + pc (z % 2 ^ bb)) → (PB g3 (c 4) tb dd kk z bb) → va_P D vwCl (pW a cI cJ cZ v c (va_up w 30 (g3))) H → va_D A (pW a cI cJ cZ v c (va_up w 30 (g3))) → va_S A s.heap H locs → lv_has ls 12 [(6, .int (nI (tb))), (11, .int (nI (bb))), (0, .ref (a 0)), (1, .ref b), (2, .int (nI (0))), (3, .int (nI (4))), (4, .ref (a 30)), (5, .int r_2), (7, .int (nI (dd))), (8, .int r_197), (9, .int (nI (kk))), (10, .int (nI (z)))] → W p l e { frames := 5, cells := 0, slots := 0, locals := 113 } s m args below meth c0 H locs 0 0 Q (F0 m 357 ls []) := by
                                intro n
                                induction n with
                                | zero => intro v c tb bb H locs ls hm; exact absurd hm (Nat.not_lt_zero _)
                                | succ n ih357 =>
                                  intro v c tb bb H locs ls hm357 hI hbb hT htb hPB hP hD hS hl
                                  refine lv_iload hx hb dL_put_357 (lv_at hl 1 rfl) ?_
                                  refine lv_aload hx hb dL_put_359 (lv_at hl 6 rfl) ?_
                                  refine lv_iconst (v := nI (0)) hx hb dL_put_361 (by decide) ?_
                                  refine w_iald (f := g3) hx hb hK hP 26 0 rfl rfl (i := 0) (by omega) (by decide) dL_put_362 ?_
                                  refine w_icmp_ge (x := bb) (y := g3 0) hx hb dL_put_363 (tgt := 405) (by decide) (by omega) (by omega) (fun c363 => ?_) (fun c363 => ?_)
                                  · skip
                                    have ebb : bb = g3 0 := by omega
                                    rw [ebb] at hPB htb
                                    have hpc := pcm_le z hz16 (g3 0) (by omega)
                                    refine lv_iinc (v := nI (kk + 1)) (lv' := [(9, .int (nI (kk + 1))), (6, .int (nI (tb))), (11, .int (nI (bb))), (0, .ref (a 0)), (1, .ref b), (2, .int (nI (0))), (3, .int (nI (4))), (4, .ref (a 30)), (5, .int r_2), (7, .int (nI (dd))), (8, .int r_197), (10, .int (nI (z)))]) hx hb dL_put_405 hl (k := 10) rfl (nI_add kk 1) (by decide) rfl (fun ls hl => ?_)
                                    refine lv_goto (tgt := 231) hx hb dL_put_408 (by decide) ?_
                                    exact ih231 v c g3 (kk + 1) tb _ _ _ (by rw [ek3 _ (by omega)]; omega) (by exact hI) (by rw [ek3 1 (by omega)]; exact hd) (by rw [ek3 1 (by omega)]; exact h1) (by exact hG3) (by exact hT) (by rw [ek3 _ (by omega)]; omega) (by rw [ek3 _ (by omega)]; exact hbt) (by omega) (by exact PK_s hPB) hP hD hS (lv_sub hl [1, 0, 3, 4, 5, 6, 7, 8, 9, 10] rfl)
                                  · skip
                                    refine lv_iload hx hb dL_put_366 (lv_at hl 11 rfl) ?_
                                    refine lv_iload hx hb dL_put_368 (lv_at hl 1 rfl) ?_
                                    refine w_ishr (x := z) (y := bb) hx hb dL_put_370 (by have h9 := Nat.div_le_self z (2 ^ bb); omega) (by omega) ?_
                                    refine lv_iconst (v := nI (1)) hx hb dL_put_371 (by decide) ?_
                                    refine w_iand (x := z / 2 ^ bb) (y := 1) hx hb dL_put_372  ?_
                                    refine lv_iconst (v := nI (1)) hx hb dL_put_373 (by decide) ?_
                                    have hnd2 := and1_mod (z / 2 ^ bb)
                                    have hpc2 := pcm_le z hz16 bb (by omega)
                                    refine w_icmp_ne (x := (z / 2 ^ bb) &&& 1) (y := 1) hx hb dL_put_374 (tgt := 399) (by decide) (by exact and1_lt _) (by decide) (fun c374 => ?_) (fun c374 => ?_)
                                    · skip
                                      refine lv_iinc (v := nI (bb + 1)) (lv' := [(11, .int (nI (bb + 1))), (6, .int (nI (tb))), (0, .ref (a 0)), (1, .ref b), (2, .int (nI (0))), (3, .int (nI (4))), (4, .ref (a 30)), (5, .int r_2), (7, .int (nI (dd))), (8, .int r_197), (9, .int (nI (kk))), (10, .int (nI (z)))]) hx hb dL_put_399 hl (k := 1) rfl (nI_add bb 1) (by decide) rfl (fun ls hl => ?_)
                                      refine lv_goto (tgt := 357) hx hb dL_put_402 (by decide) ?_
                                      exact ih357 v c tb (bb + 1) _ _ _ (by omega) (by exact hI) (by omega) (by first | exact hp_389.2.1 | exact hT) (by first | (have h9 := bit_y z hz16 bb (by omega) (by omega); omega) | (rw [bit_n z hz16 bb (by omega) (by omega)]; exact htb)) (by first | exact PB_y hPB (by omega) hz16 (by omega) (by omega) hp_389.2.2.2 hp_389.2.2.1 | exact PB_n hPB hz16 (by omega) (by omega)) hP hD hS (lv_sub hl [1, 0, 2, 3, 4, 5, 6, 7, 8, 9, 10, 11] rfl)
                                    · skip
                                      refine lv_aload_n hx hb dL_put_377 rfl (lv_at hl 2 rfl) ?_
                                      refine lv_iconst (v := nI (0)) hx hb dL_put_378 (by decide) ?_
                                      refine lv_iload hx hb dL_put_379 (lv_at hl 0 rfl) ?_
                                      refine lv_iinc (v := nI (tb + 1)) (lv' := [(6, .int (nI (tb + 1))), (11, .int (nI (bb))), (0, .ref (a 0)), (1, .ref b), (2, .int (nI (0))), (3, .int (nI (4))), (4, .ref (a 30)), (5, .int r_2), (7, .int (nI (dd))), (8, .int r_197), (9, .int (nI (kk))), (10, .int (nI (z)))]) hx hb dL_put_381 hl (k := 0) rfl (nI_add tb 1) (by decide) rfl (fun ls hl => ?_)
                                      refine lv_bipush (v := nI (48)) hx hb dL_put_384 (by decide) ?_
                                      refine lv_iload hx hb dL_put_386 (lv_at hl 1 rfl) ?_
                                      refine w_iadd (x := 48) (y := bb) hx hb dL_put_388  ?_
                                      refine l_ciJ (W1 := (xW a cI cJ cZ v c)) (W2 := (gA a cI (va_up w 30 (g3)))) (rest := []) hx hb hml hown hts (t_put l D a cI cJ cZ (va_A (xW a cI cJ cZ v c) H.size) v c (nI (0)) (nI (tb)) (nI (48 + bb)) hI) 3 gL_put_X6_put rfl hdX6_put ⟨Nat.le_of_ble_eq_true rfl, Nat.le_of_ble_eq_true rfl⟩ hK hN hP hD hS hA 0 6 rfl rfl rfl rfl hl.1 rfl (Nat.le_of_ble_eq_true rfl) dL_put_389 ⟨Nat.le_of_ble_eq_true rfl, Nat.le_of_ble_eq_true rfl⟩ (fun r_389 u H locs hq_389 hP hD hS => ?_)
                                      obtain ⟨v_389, c_389⟩ := u
                                      have hI_389 : XI v_389 := hq_389.1
                                      have hP : va_P D vwCl (pW a cI cJ cZ v_389 c_389 (va_up w 30 (g3))) H := hP
                                      have hD : va_D A (pW a cI cJ cZ v_389 c_389 (va_up w 30 (g3))) := hD
                                      have hp_389 := put0 (z := 48 + bb) hq_389.2 hT (by omega) (by omega)
                                      have hr_389 : r_389 = nI (1) := by exact hp_389.1
                                      subst hr_389
                                      refine lv_iconst (v := nI (1)) hx hb dL_put_392 (by decide) ?_
                                      refine w_icmp_eq (x := 1) (y := 1) hx hb dL_put_393 (tgt := 399) (by decide) (by decide) (by decide) (fun _ => ?_) (fun h => absurd h (by decide))
                                      refine lv_iinc (v := nI (bb + 1)) (lv' := [(11, .int (nI (bb + 1))), (6, .int (nI (tb + 1))), (0, .ref (a 0)), (1, .ref b), (2, .int (nI (0))), (3, .int (nI (4))), (4, .ref (a 30)), (5, .int r_2), (7, .int (nI (dd))), (8, .int r_197), (9, .int (nI (kk))), (10, .int (nI (z)))]) hx hb dL_put_399 hl (k := 1) rfl (nI_add bb 1) (by decide) rfl (fun ls hl => ?_)
                                      refine lv_goto (tgt := 357) hx hb dL_put_402 (by decide) ?_
                                      exact ih357 v_389 c_389 (tb + 1) (bb + 1) _ _ _ (by omega) (by exact hI_389) (by omega) (by first | exact hp_389.2.1 | exact hT) (by first | (have h9 := bit_y z hz16 bb (by omega) (by omega); omega) | (rw [bit_n z hz16 bb (by omega) (by omega)]; exact htb)) (by first | exact PB_y hPB (by omega) hz16 (by omega) (by omega) hp_389.2.2.2 hp_389.2.2.1 | exact PB_n hPB hz16 (by omega) (by omega)) hP hD hS (lv_sub hl [1, 0, 2, 3, 4, 5, 6, 7, 8, 9, 10, 11] rfl)
                              exact L357 ((g3 0 - 0) + 1) v_344 c_344 (t + 1) 0 _ _ _ (Nat.lt_succ_self _) (by exact hI_344) (by omega) (by exact hp_344.2.1) (by rw [Nat.pow_zero, Nat.mod_one]; rfl) (by exact PB_0 hPK hG.2.1 (by omega) (by omega) hz ek3 ev3 hp_344.2.2.2 (by first | (rw [if_neg c334]; exact hp_344.2.2.1) | (rw [if_pos c334]; exact hp_344.2.2.1))) hP hD hS (lv_sub hl [1, 0, 3, 4, 5, 6, 7, 8, 9, 10, 11, 2] rfl)
                            · skip
                              refine lv_bipush (v := nI (59)) hx hb dL_put_337 (by decide) ?_
                              refine lv_goto (tgt := 344) hx hb dL_put_339 (by decide) ?_
                              refine l_ciJ (W1 := (xW a cI cJ cZ v c)) (W2 := (gA a cI (va_up w 30 (g3)))) (rest := []) hx hb hml hown hts (t_put l D a cI cJ cZ (va_A (xW a cI cJ cZ v c) H.size) v c (nI (0)) (nI (t)) (nI (59)) hI) 3 gL_put_X6_put rfl hdX6_put ⟨Nat.le_of_ble_eq_true rfl, Nat.le_of_ble_eq_true rfl⟩ hK hN hP hD hS hA 0 6 rfl rfl rfl rfl hl.1 rfl (Nat.le_of_ble_eq_true rfl) dL_put_344 ⟨Nat.le_of_ble_eq_true rfl, Nat.le_of_ble_eq_true rfl⟩ (fun r_344 u H locs hq_344 hP hD hS => ?_)
                              obtain ⟨v_344, c_344⟩ := u
                              have hI_344 : XI v_344 := hq_344.1
                              have hP : va_P D vwCl (pW a cI cJ cZ v_344 c_344 (va_up w 30 (g3))) H := hP
                              have hD : va_D A (pW a cI cJ cZ v_344 c_344 (va_up w 30 (g3))) := hD
                              have hp_344 := put0 hq_344.2 hT (by omega) (by omega)
                              have hr_344 : r_344 = nI (1) := by exact hp_344.1
                              subst hr_344
                              refine lv_iconst (v := nI (1)) hx hb dL_put_347 (by decide) ?_
                              refine w_icmp_eq (x := 1) (y := 1) hx hb dL_put_348 (tgt := 354) (by decide) (by decide) (by decide) (fun _ => ?_) (fun h => absurd h (by decide))
                              refine lv_iconst (v := nI (0)) hx hb dL_put_354 (by decide) ?_
                              refine lv_istore (lv' := [(11, .int (nI (0))), (6, .int (nI (t + 1))), (10, .int (nI (z))), (0, .ref (a 0)), (1, .ref b), (2, .int (nI (0))), (3, .int (nI (4))), (4, .ref (a 30)), (5, .int r_2), (7, .int (nI (dd))), (8, .int r_197), (9, .int (nI (kk)))]) hx hb dL_put_355 hl (by decide) rfl (fun ls hl => ?_)
                              have L357 : ∀ (n : Nat) (v : Nat → Nat → Nat) (c : Nat → Nat → Int32) (tb : Nat) (bb : Nat) (H : Heap) (locs : List Loc) (ls : Array Slot), g3 0 - bb < n → (XI v) → (bb ≤ g3 0) → (TXx v c) → (tb = t + 1 + pc (z % 2 ^ bb)) → (PB g3 (c 4) tb dd kk z bb) → va_P D vwCl (pW a cI cJ cZ v c (va_up w 30 (g3))) H → va_D A (pW a cI cJ cZ v c (va_up w 30 (g3))) → va_S A s.heap H locs → lv_has ls 12 [(6, .int (nI (tb))), (11, .int (nI (bb))), (0, .ref (a 0)), (1, .ref b), (2, .int (nI (0))), (3, .int (nI (4))), (4, .ref (a 30)), (5, .int r_2), (7, .int (nI (dd))), (8, .int r_197), (9, .int (nI (kk))), (10, .int (nI (z)))] → W p l e { frames := 5, cells := 0, slots := 0, locals := 113 } s m args below meth c0 H locs 0 0 Q (F0 m 357 ls []) := by
                                intro n
                                induction n with
                                | zero => intro v c tb bb H locs ls hm; exact absurd hm (Nat.not_lt_zero _)
                                | succ n ih357 =>
                                  intro v c tb bb H locs ls hm357 hI hbb hT htb hPB hP hD hS hl
                                  refine lv_iload hx hb dL_put_357 (lv_at hl 1 rfl) ?_
                                  refine lv_aload hx hb dL_put_359 (lv_at hl 6 rfl) ?_
                                  refine lv_iconst (v := nI (0)) hx hb dL_put_361 (by decide) ?_
                                  refine w_iald (f := g3) hx hb hK hP 26 0 rfl rfl (i := 0) (by omega) (by decide) dL_put_362 ?_
                                  refine w_icmp_ge (x := bb) (y := g3 0) hx hb dL_put_363 (tgt := 405) (by decide) (by omega) (by omega) (fun c363 => ?_) (fun c363 => ?_)
                                  · skip
                                    have ebb : bb = g3 0 := by omega
                                    rw [ebb] at hPB htb
                                    have hpc := pcm_le z hz16 (g3 0) (by omega)
                                    refine lv_iinc (v := nI (kk + 1)) (lv' := [(9, .int (nI (kk + 1))), (6, .int (nI (tb))), (11, .int (nI (bb))), (0, .ref (a 0)), (1, .ref b), (2, .int (nI (0))), (3, .int (nI (4))), (4, .ref (a 30)), (5, .int r_2), (7, .int (nI (dd))), (8, .int r_197), (10, .int (nI (z)))]) hx hb dL_put_405 hl (k := 10) rfl (nI_add kk 1) (by decide) rfl (fun ls hl => ?_)
                                    refine lv_goto (tgt := 231) hx hb dL_put_408 (by decide) ?_
                                    exact ih231 v c g3 (kk + 1) tb _ _ _ (by rw [ek3 _ (by omega)]; omega) (by exact hI) (by rw [ek3 1 (by omega)]; exact hd) (by rw [ek3 1 (by omega)]; exact h1) (by exact hG3) (by exact hT) (by rw [ek3 _ (by omega)]; omega) (by rw [ek3 _ (by omega)]; exact hbt) (by omega) (by exact PK_s hPB) hP hD hS (lv_sub hl [1, 0, 3, 4, 5, 6, 7, 8, 9, 10] rfl)
                                  · skip
                                    refine lv_iload hx hb dL_put_366 (lv_at hl 11 rfl) ?_
                                    refine lv_iload hx hb dL_put_368 (lv_at hl 1 rfl) ?_
                                    refine w_ishr (x := z) (y := bb) hx hb dL_put_370 (by have h9 := Nat.div_le_self z (2 ^ bb); omega) (by omega) ?_
                                    refine lv_iconst (v := nI (1)) hx hb dL_put_371 (by decide) ?_
                                    refine w_iand (x := z / 2 ^ bb) (y := 1) hx hb dL_put_372  ?_
                                    refine lv_iconst (v := nI (1)) hx hb dL_put_373 (by decide) ?_
                                    have hnd2 := and1_mod (z / 2 ^ bb)
                                    have hpc2 := pcm_le z hz16 bb (by omega)
                                    refine w_icmp_ne (x := (z / 2 ^ bb) &&& 1) (y := 1) hx hb dL_put_374 (tgt := 399) (by decide) (by exact and1_lt _) (by decide) (fun c374 => ?_) (fun c374 => ?_)
                                    · skip
                                      refine lv_iinc (v := nI (bb + 1)) (lv' := [(11, .int (nI (bb + 1))), (6, .int (nI (tb))), (0, .ref (a 0)), (1, .ref b), (2, .int (nI (0))), (3, .int (nI (4))), (4, .ref (a 30)), (5, .int r_2), (7, .int (nI (dd))), (8, .int r_197), (9, .int (nI (kk))), (10, .int (nI (z)))]) hx hb dL_put_399 hl (k := 1) rfl (nI_add bb 1) (by decide) rfl (fun ls hl => ?_)
                                      refine lv_goto (tgt := 357) hx hb dL_put_402 (by decide) ?_
                                      exact ih357 v c tb (bb + 1) _ _ _ (by omega) (by exact hI) (by omega) (by first | exact hp_389.2.1 | exact hT) (by first | (have h9 := bit_y z hz16 bb (by omega) (by omega); omega) | (rw [bit_n z hz16 bb (by omega) (by omega)]; exact htb)) (by first | exact PB_y hPB (by omega) hz16 (by omega) (by omega) hp_389.2.2.2 hp_389.2.2.1 | exact PB_n hPB hz16 (by omega) (by omega)) hP hD hS (lv_sub hl [1, 0, 2, 3, 4, 5, 6, 7, 8, 9, 10, 11] rfl)
                                    · skip
                                      refine lv_aload_n hx hb dL_put_377 rfl (lv_at hl 2 rfl) ?_
                                      refine lv_iconst (v := nI (0)) hx hb dL_put_378 (by decide) ?_
                                      refine lv_iload hx hb dL_put_379 (lv_at hl 0 rfl) ?_
                                      refine lv_iinc (v := nI (tb + 1)) (lv' := [(6, .int (nI (tb + 1))), (11, .int (nI (bb))), (0, .ref (a 0)), (1, .ref b), (2, .int (nI (0))), (3, .int (nI (4))), (4, .ref (a 30)), (5, .int r_2), (7, .int (nI (dd))), (8, .int r_197), (9, .int (nI (kk))), (10, .int (nI (z)))]) hx hb dL_put_381 hl (k := 0) rfl (nI_add tb 1) (by decide) rfl (fun ls hl => ?_)
                                      refine lv_bipush (v := nI (48)) hx hb dL_put_384 (by decide) ?_
                                      refine lv_iload hx hb dL_put_386 (lv_at hl 1 rfl) ?_
                                      refine w_iadd (x := 48) (y := bb) hx hb dL_put_388  ?_
                                      refine l_ciJ (W1 := (xW a cI cJ cZ v c)) (W2 := (gA a cI (va_up w 30 (g3)))) (rest := []) hx hb hml hown hts (t_put l D a cI cJ cZ (va_A (xW a cI cJ cZ v c) H.size) v c (nI (0)) (nI (tb)) (nI (48 + bb)) hI) 3 gL_put_X6_put rfl hdX6_put ⟨Nat.le_of_ble_eq_true rfl, Nat.le_of_ble_eq_true rfl⟩ hK hN hP hD hS hA 0 6 rfl rfl rfl rfl hl.1 rfl (Nat.le_of_ble_eq_true rfl) dL_put_389 ⟨Nat.le_of_ble_eq_true rfl, Nat.le_of_ble_eq_true rfl⟩ (fun r_389 u H locs hq_389 hP hD hS => ?_)
                                      obtain ⟨v_389, c_389⟩ := u
                                      have hI_389 : XI v_389 := hq_389.1
                                      have hP : va_P D vwCl (pW a cI cJ cZ v_389 c_389 (va_up w 30 (g3))) H := hP
                                      have hD : va_D A (pW a cI cJ cZ v_389 c_389 (va_up w 30 (g3))) := hD
                                      have hp_389 := put0 (z := 48 + bb) hq_389.2 hT (by omega) (by omega)
                                      have hr_389 : r_389 = nI (1) := by exact hp_389.1
                                      subst hr_389
                                      refine lv_iconst (v := nI (1)) hx hb dL_put_392 (by decide) ?_
                                      refine w_icmp_eq (x := 1) (y := 1) hx hb dL_put_393 (tgt := 399) (by decide) (by decide) (by decide) (fun _ => ?_) (fun h => absurd h (by decide))
                                      refine lv_iinc (v := nI (bb + 1)) (lv' := [(11, .int (nI (bb + 1))), (6, .int (nI (tb + 1))), (0, .ref (a 0)), (1, .ref b), (2, .int (nI (0))), (3, .int (nI (4))), (4, .ref (a 30)), (5, .int r_2), (7, .int (nI (dd))), (8, .int r_197), (9, .int (nI (kk))), (10, .int (nI (z)))]) hx hb dL_put_399 hl (k := 1) rfl (nI_add bb 1) (by decide) rfl (fun ls hl => ?_)
                                      refine lv_goto (tgt := 357) hx hb dL_put_402 (by decide) ?_
                                      exact ih357 v_389 c_389 (tb + 1) (bb + 1) _ _ _ (by omega) (by exact hI_389) (by omega) (by first | exact hp_389.2.1 | exact hT) (by first | (have h9 := bit_y z hz16 bb (by omega) (by omega); omega) | (rw [bit_n z hz16 bb (by omega) (by omega)]; exact htb)) (by first | exact PB_y hPB (by omega) hz16 (by omega) (by omega) hp_389.2.2.2 hp_389.2.2.1 | exact PB_n hPB hz16 (by omega) (by omega)) hP hD hS (lv_sub hl [1, 0, 2, 3, 4, 5, 6, 7, 8, 9, 10, 11] rfl)
                              exact L357 ((g3 0 - 0) + 1) v_344 c_344 (t + 1) 0 _ _ _ (Nat.lt_succ_self _) (by exact hI_344) (by omega) (by exact hp_344.2.1) (by rw [Nat.pow_zero, Nat.mod_one]; rfl) (by exact PB_0 hPK hG.2.1 (by omega) (by omega) hz ek3 ev3 hp_344.2.2.2 (by first | (rw [if_neg c334]; exact hp_344.2.2.1) | (rw [if_pos c334]; exact hp_344.2.2.1))) hP hD hS (lv_sub hl [1, 0, 3, 4, 5, 6, 7, 8, 9, 10, 11, 2] rfl)
                          · skip
                            have hz16 : z < 16 := Nat.lt_of_lt_of_le hz (p2_16 hG.2.1)
                            refine lv_iload hx hb dL_put_256 (lv_at hl 10 rfl) ?_
                            refine lv_iconst (v := nI (2)) hx hb dL_put_258 (by decide) ?_
                            refine lv_iconst (v := nI (3)) hx hb dL_put_259 (by decide) ?_
                            refine lv_iload hx hb dL_put_260 (lv_at hl 11 rfl) ?_
                            refine w_imul (x := 3) (y := kk) hx hb dL_put_262  ?_
                            refine w_iadd (x := 2) (y := 3 * kk) hx hb dL_put_263  ?_
                            refine lv_iload hx hb dL_put_264 (lv_at hl 1 rfl) ?_
                            refine w_iadd (x := 2 + (3 * kk)) (y := qq) hx hb dL_put_266  ?_
                            refine lv_ishr hx hb dL_put_267 ?_
                            refine lv_iconst (v := nI (3)) hx hb dL_put_268 (by decide) ?_
                            refine w_cSi (rest := []) hx hb hml hown hts (k_some l D cI cJ cZ A (pW a cI cJ cZ v c (va_up w 30 (gk))) (r_197 >>> ((nI (2 + (3 * kk) + qq)) &&& 31)) 3 (by omega)) 2 gL_put_L_some rfl hdL_some ⟨Nat.le_of_ble_eq_true rfl, Nat.le_of_ble_eq_true rfl⟩ hK hN hP hD hS hA rfl hl.1 rfl (Nat.le_of_ble_eq_true rfl) dL_put_269 ⟨Nat.le_of_ble_eq_true rfl, Nat.le_of_ble_eq_true rfl⟩ (fun r u H locs hq hP hD hS => ?_)
                            obtain ⟨j_269, hj_269, rfl⟩ := hq
                            have hP : va_P D vwCl (pW a cI cJ cZ v c (va_up w 30 (gk))) H := hP
                            have hD : va_D A (pW a cI cJ cZ v c (va_up w 30 (gk))) := hD
                            refine w_if_le (x := j_269) hx hb dL_put_272 (tgt := 303) (by decide) (by omega) (fun c272 => ?_) (fun c272 => ?_)
                            · skip
                              refine lv_iinc (v := nI (qq + 1)) (lv' := [(11, .int (nI (qq + 1))), (10, .int (nI (z))), (0, .ref (a 0)), (1, .ref b), (2, .int (nI (0))), (3, .int (nI (4))), (4, .ref (a 30)), (5, .int r_2), (6, .int (nI (t))), (7, .int (nI (dd))), (8, .int r_197), (9, .int (nI (kk)))]) hx hb dL_put_303 hl (k := 1) rfl (nI_add qq 1) (by decide) rfl (fun ls hl => ?_)
                              refine lv_goto (tgt := 250) hx hb dL_put_306 (by decide) ?_
                              exact ih250 (qq + 1) z _ _ _ (by omega) (by omega) (by first | exact or_in hz (by omega) | exact hz) (by first | (have h9 := pc_or1 z hz16 j_296 (by omega); omega) | omega) hP hD hS (lv_sub hl [1, 0, 2, 3, 4, 5, 6, 7, 8, 9, 10, 11] rfl)
                            · skip
                              refine lv_iload hx hb dL_put_275 (lv_at hl 0 rfl) ?_
                              refine lv_iconst (v := nI (1)) hx hb dL_put_277 (by decide) ?_
                              refine lv_iload hx hb dL_put_278 (lv_at hl 10 rfl) ?_
                              refine lv_iconst (v := nI (1)) hx hb dL_put_280 (by decide) ?_
                              refine lv_iconst (v := nI (3)) hx hb dL_put_281 (by decide) ?_
                              refine lv_iload hx hb dL_put_282 (lv_at hl 11 rfl) ?_
                              refine w_imul (x := 3) (y := kk) hx hb dL_put_284  ?_
                              refine w_iadd (x := 1) (y := 3 * kk) hx hb dL_put_285  ?_
                              refine lv_iconst (v := nI (2)) hx hb dL_put_286 (by decide) ?_
                              refine lv_iload hx hb dL_put_287 (lv_at hl 1 rfl) ?_
                              refine w_imul (x := 2) (y := qq) hx hb dL_put_289  ?_
                              refine w_iadd (x := 1 + (3 * kk)) (y := 2 * qq) hx hb dL_put_290  ?_
                              refine lv_ishr hx hb dL_put_291 ?_
                              refine lv_aload hx hb dL_put_292 (lv_at hl 6 rfl) ?_
                              refine lv_iconst (v := nI (0)) hx hb dL_put_294 (by decide) ?_
                              refine w_iald (f := gk) hx hb hK hP 26 0 rfl rfl (i := 0) (by omega) (by decide) dL_put_295 ?_
                              refine w_cSi (rest := [.int (nI (1)), .int (nI (z))]) hx hb hml hown hts (k_some l D cI cJ cZ A (pW a cI cJ cZ v c (va_up w 30 (gk))) (r_197 >>> ((nI (1 + (3 * kk) + (2 * qq))) &&& 31)) (gk 0) (by omega)) 2 gL_put_L_some rfl hdL_some ⟨Nat.le_of_ble_eq_true rfl, Nat.le_of_ble_eq_true rfl⟩ hK hN hP hD hS hA rfl hl.1 rfl (Nat.le_of_ble_eq_true rfl) dL_put_296 ⟨Nat.le_of_ble_eq_true rfl, Nat.le_of_ble_eq_true rfl⟩ (fun r u H locs hq hP hD hS => ?_)
                              obtain ⟨j_296, hj_296, rfl⟩ := hq
                              have hP : va_P D vwCl (pW a cI cJ cZ v c (va_up w 30 (gk))) H := hP
                              have hD : va_D A (pW a cI cJ cZ v c (va_up w 30 (gk))) := hD
                              refine w_ishl (x := 1) (y := j_296) hx hb dL_put_299 (by omega) (by have h9 := p2_16 (show j_296 ≤ 4 by omega); omega) ?_
                              refine w_ior (x := z) (y := 1 * 2 ^ j_296) hx hb dL_put_300  ?_
                              refine lv_istore (lv' := [(10, .int (nI (z ||| (1 * 2 ^ j_296)))), (11, .int (nI (qq))), (0, .ref (a 0)), (1, .ref b), (2, .int (nI (0))), (3, .int (nI (4))), (4, .ref (a 30)), (5, .int r_2), (6, .int (nI (t))), (7, .int (nI (dd))), (8, .int r_197), (9, .int (nI (kk)))]) hx hb dL_put_301 hl (by decide) rfl (fun ls hl => ?_)
                              refine lv_iinc (v := nI (qq + 1)) (lv' := [(11, .int (nI (qq + 1))), (10, .int (nI (z ||| (1 * 2 ^ j_296)))), (0, .ref (a 0)), (1, .ref b), (2, .int (nI (0))), (3, .int (nI (4))), (4, .ref (a 30)), (5, .int r_2), (6, .int (nI (t))), (7, .int (nI (dd))), (8, .int r_197), (9, .int (nI (kk)))]) hx hb dL_put_303 hl (k := 1) rfl (nI_add qq 1) (by decide) rfl (fun ls hl => ?_)
                              refine lv_goto (tgt := 250) hx hb dL_put_306 (by decide) ?_
                              exact ih250 (qq + 1) (z ||| (1 * 2 ^ j_296)) _ _ _ (by omega) (by omega) (by first | exact or_in hz (by omega) | exact hz) (by first | (have h9 := pc_or1 z hz16 j_296 (by omega); omega) | omega) hP hD hS (lv_sub hl [1, 0, 2, 3, 4, 5, 6, 7, 8, 9, 10, 11] rfl)
                      exact L250 ((2 - 0) + 1) 0 0 _ _ _ (Nat.lt_succ_self _) (by omega) (by exact Nat.two_pow_pos _) (by decide) hP hD hS (lv_sub hl [1, 0, 4, 5, 6, 7, 8, 9, 2, 10, 11, 3] rfl)
                exact L231 ((g2 (9 + dd) - 0) + 1) v c g2 0 t _ _ _ (Nat.lt_succ_self _) (by exact hI) (by rw [ek2 1 (by omega)]; omega) (by exact ek2 1 (by omega)) (by first | (rw [ek2 0 (by omega), ek2 1 (by omega), ek2 37 (by omega)]; exact hG) | exact hG) (by exact hT) (by omega) (by rw [ev2]; omega) (by omega) (by exact PK_0 hPD hG.2.1 (by omega) ek2) hP hD hS (lv_sub hl [2, 0, 4, 5, 6, 7, 8, 9, 3, 1] rfl)
              · skip
                refine lv_bipush (v := nI (6)) hx hb dL_put_217 (by decide) ?_
                refine lv_goto (tgt := 223) hx hb dL_put_219 (by decide) ?_
                refine w_cSi (rest := [.int (nI (1)), .int (nI (9 + dd)), .ref (a 30)]) hx hb hml hown hts (k_some l D cI cJ cZ A (pW a cI cJ cZ v c (va_up w 30 (g))) r_197 6 (by omega)) 2 gL_put_L_some rfl hdL_some ⟨Nat.le_of_ble_eq_true rfl, Nat.le_of_ble_eq_true rfl⟩ hK hN hP hD hS hA rfl hl.1 rfl (Nat.le_of_ble_eq_true rfl) dL_put_223 ⟨Nat.le_of_ble_eq_true rfl, Nat.le_of_ble_eq_true rfl⟩ (fun r u H locs hq hP hD hS => ?_)
                obtain ⟨j_223, hj_223, rfl⟩ := hq
                have hP : va_P D vwCl (pW a cI cJ cZ v c (va_up w 30 (g))) H := hP
                have hD : va_D A (pW a cI cJ cZ v c (va_up w 30 (g))) := hD
                refine w_iadd (x := 1) (y := j_223) hx hb dL_put_226  ?_
                refine w_iast (f := g) (w := 1 + j_223) hx hb hK hP hD hS 26 0 rfl rfl (i := 9 + dd) (by omega) (by decide) dL_put_227 (fun H locs hP hD hS => ?_)
                have hP : va_P D vwCl (pW a cI cJ cZ v c (va_up w 30 (va_up g (9 + dd) (1 + j_223)))) H := hP
                have hD : va_D A (pW a cI cJ cZ v c (va_up w 30 (va_up g (9 + dd) (1 + j_223)))) := hD
                obtain ⟨g2, eg2⟩ : ∃ zz : Nat → Nat, zz = va_up g (9 + dd) (1 + j_223) := ⟨_, rfl⟩
                rw [← eg2] at hP hD
                have ek2 : ∀ q, q ≠ 9 + dd → g2 q = g q := fun q hq => by rw [eg2]; exact up_ne hq
                have ev2 : g2 (9 + dd) = 1 + j_223 := by rw [eg2]; exact up_eq
                refine lv_iconst (v := nI (0)) hx hb dL_put_228 (by decide) ?_
                refine lv_istore (lv' := [(9, .int (nI (0))), (8, .int r_197), (6, .int (nI (t))), (7, .int (nI (dd))), (0, .ref (a 0)), (1, .ref b), (2, .int (nI (0))), (3, .int (nI (4))), (4, .ref (a 30)), (5, .int r_2)]) hx hb dL_put_229 hl (by decide) rfl (fun ls hl => ?_)
                have L231 : ∀ (n : Nat) (v : Nat → Nat → Nat) (c : Nat → Nat → Int32) (gk : Nat → Nat) (kk : Nat) (t : Nat) (H : Heap) (locs : List Loc) (ls : Array Slot), gk (9 + dd) - kk < n → (XI v) → (dd < gk 1) → (gk 1 = g 1) → (2 ≤ gk 0 ∧ gk 0 ≤ 4 ∧ 1 ≤ gk 1 ∧ gk 1 ≤ 4 ∧ gk 37 = 0) → (TXx v c) → (kk ≤ gk (9 + dd)) → ((1 ≤ gk (9 + dd) ∧ gk (9 + dd) ≤ 6) ∧ (0 < dd → gk (9 + dd) ≤ 5)) → ((dd = 0 ∧ t ≤ 6 + 3 * kk) ∨ (0 < dd ∧ t ≤ 9 + 15 * dd + 3 * kk)) → (PK gk (c 4) t dd kk) → va_P D vwCl (pW a cI cJ cZ v c (va_up w 30 (gk))) H → va_D A (pW a cI cJ cZ v c (va_up w 30 (gk))) → va_S A s.heap H locs → lv_has ls 12 [(6, .int (nI (t))), (9, .int (nI (kk))), (0, .ref (a 0)), (1, .ref b), (2, .int (nI (0))), (3, .int (nI (4))), (4, .ref (a 30)), (5, .int r_2), (7, .int (nI (dd))), (8, .int r_197)] → W p l e { frames := 5, cells := 0, slots := 0, locals := 113 } s m args below meth c0 H locs 0 0 Q (F0 m 231 ls []) := by
                  intro n
                  induction n with
                  | zero => intro v c gk kk t H locs ls hm; exact absurd hm (Nat.not_lt_zero _)
                  | succ n ih231 =>
                    intro v c gk kk t H locs ls hm231 hI hd h1 hG hT hk hbt hB hPK hP hD hS hl
                    refine lv_iload hx hb dL_put_231 (lv_at hl 1 rfl) ?_
                    refine lv_aload hx hb dL_put_233 (lv_at hl 6 rfl) ?_
                    refine lv_bipush (v := nI (9)) hx hb dL_put_235 (by decide) ?_
                    refine lv_iload hx hb dL_put_237 (lv_at hl 8 rfl) ?_
                    refine w_iadd (x := 9) (y := dd) hx hb dL_put_239  ?_
                    refine w_iald (f := gk) hx hb hK hP 26 0 rfl rfl (i := 9 + dd) (by omega) (by decide) dL_put_240 ?_
                    refine w_icmp_ge (x := kk) (y := gk (9 + dd)) hx hb dL_put_241 (tgt := 411) (by decide) (by omega) (by omega) (fun c241 => ?_) (fun c241 => ?_)
                    · skip
                      refine lv_iinc (v := nI (dd + 1)) (lv' := [(7, .int (nI (dd + 1))), (6, .int (nI (t))), (9, .int (nI (kk))), (0, .ref (a 0)), (1, .ref b), (2, .int (nI (0))), (3, .int (nI (4))), (4, .ref (a 30)), (5, .int r_2), (8, .int r_197)]) hx hb dL_put_411 hl (k := 8) rfl (nI_add dd 1) (by decide) rfl (fun ls hl => ?_)
                      refine lv_goto (tgt := 181) hx hb dL_put_414 (by decide) ?_
                      exact ih181 v c gk (dd + 1) t _ _ _ (by omega) (by exact hI) (by omega) (by exact hG) (by exact hT) (by omega) (by have e : kk = gk (9 + dd) := (by omega); rw [e] at hPK; exact PD_s hPK hbt.1) hP hD hS (lv_sub hl [1, 0, 3, 4, 5, 6, 7, 8] rfl)
                    · skip
                      refine lv_iconst (v := nI (0)) hx hb dL_put_244 (by decide) ?_
                      refine lv_istore (lv' := [(10, .int (nI (0))), (6, .int (nI (t))), (9, .int (nI (kk))), (0, .ref (a 0)), (1, .ref b), (2, .int (nI (0))), (3, .int (nI (4))), (4, .ref (a 30)), (5, .int r_2), (7, .int (nI (dd))), (8, .int r_197)]) hx hb dL_put_245 hl (by decide) rfl (fun ls hl => ?_)
                      refine lv_iconst (v := nI (0)) hx hb dL_put_247 (by decide) ?_
                      refine lv_istore (lv' := [(11, .int (nI (0))), (10, .int (nI (0))), (6, .int (nI (t))), (9, .int (nI (kk))), (0, .ref (a 0)), (1, .ref b), (2, .int (nI (0))), (3, .int (nI (4))), (4, .ref (a 30)), (5, .int r_2), (7, .int (nI (dd))), (8, .int r_197)]) hx hb dL_put_248 hl (by decide) rfl (fun ls hl => ?_)
                      have L250 : ∀ (n : Nat) (qq : Nat) (z : Nat) (H : Heap) (locs : List Loc) (ls : Array Slot), 2 - qq < n → (qq ≤ 2) → (z < 2 ^ gk 0) → (pc z ≤ qq) → va_P D vwCl (pW a cI cJ cZ v c (va_up w 30 (gk))) H → va_D A (pW a cI cJ cZ v c (va_up w 30 (gk))) → va_S A s.heap H locs → lv_has ls 12 [(10, .int (nI (z))), (11, .int (nI (qq))), (0, .ref (a 0)), (1, .ref b), (2, .int (nI (0))), (3, .int (nI (4))), (4, .ref (a 30)), (5, .int r_2), (6, .int (nI (t))), (7, .int (nI (dd))), (8, .int r_197), (9, .int (nI (kk)))] → W p l e { frames := 5, cells := 0, slots := 0, locals := 113 } s m args below meth c0 H locs 0 0 Q (F0 m 250 ls []) := by
                        intro n
                        induction n with
                        | zero => intro qq z H locs ls hm; exact absurd hm (Nat.not_lt_zero _)
                        | succ n ih250 =>
                          intro qq z H locs ls hm250 hq2 hz hpz hP hD hS hl
                          refine lv_iload hx hb dL_put_250 (lv_at hl 1 rfl) ?_
                          refine lv_iconst (v := nI (2)) hx hb dL_put_252 (by decide) ?_
                          refine w_icmp_ge (x := qq) (y := 2) hx hb dL_put_253 (tgt := 309) (by decide) (by omega) (by omega) (fun c253 => ?_) (fun c253 => ?_)
                          · skip
                            refine lv_aload hx hb dL_put_309 (lv_at hl 6 rfl) ?_
                            refine lv_bipush (v := nI (13)) hx hb dL_put_311 (by decide) ?_
                            refine lv_bipush (v := nI (6)) hx hb dL_put_313 (by decide) ?_
                            refine lv_iload hx hb dL_put_315 (lv_at hl 9 rfl) ?_
                            refine w_imul (x := 6) (y := dd) hx hb dL_put_317  ?_
                            refine w_iadd (x := 13) (y := 6 * dd) hx hb dL_put_318  ?_
                            refine lv_iload hx hb dL_put_319 (lv_at hl 11 rfl) ?_
                            refine w_iadd (x := 13 + (6 * dd)) (y := kk) hx hb dL_put_321  ?_
                            refine lv_iload hx hb dL_put_322 (lv_at hl 0 rfl) ?_
                            refine w_iast (f := gk) (w := z) hx hb hK hP hD hS 26 0 rfl rfl (i := 13 + (6 * dd) + kk) (by omega) (by decide) dL_put_324 (fun H locs hP hD hS => ?_)
                            have hP : va_P D vwCl (pW a cI cJ cZ v c (va_up w 30 (va_up gk (13 + (6 * dd) + kk) z))) H := hP
                            have hD : va_D A (pW a cI cJ cZ v c (va_up w 30 (va_up gk (13 + (6 * dd) + kk) z))) := hD
                            obtain ⟨g3, eg3⟩ : ∃ zz : Nat → Nat, zz = va_up gk (13 + (6 * dd) + kk) z := ⟨_, rfl⟩
                            rw [← eg3] at hP hD
                            have ek3 : ∀ q, q ≠ 13 + 6 * dd + kk → g3 q = gk q := fun q hq => by rw [eg3]; exact up_ne hq
                            have ev3 : g3 (13 + 6 * dd + kk) = z := by rw [eg3]; exact up_eq
                            have hG3 : 2 ≤ g3 0 ∧ g3 0 ≤ 4 ∧ 1 ≤ g3 1 ∧ g3 1 ≤ 4 ∧ g3 37 = 0 := by rw [ek3 0 (by omega), ek3 1 (by omega), ek3 37 (by omega)]; exact hG
                            have hz16 : z < 16 := Nat.lt_of_lt_of_le hz (p2_16 hG.2.1)
                            have e30 : g3 0 = gk 0 := ek3 0 (by omega)
                            refine lv_aload_n hx hb dL_put_325 rfl (lv_at hl 2 rfl) ?_
                            refine lv_iconst (v := nI (0)) hx hb dL_put_326 (by decide) ?_
                            refine lv_iload hx hb dL_put_327 (lv_at hl 8 rfl) ?_
                            refine lv_iinc (v := nI (t + 1)) (lv' := [(6, .int (nI (t + 1))), (10, .int (nI (z))), (11, .int (nI (qq))), (0, .ref (a 0)), (1, .ref b), (2, .int (nI (0))), (3, .int (nI (4))), (4, .ref (a 30)), (5, .int r_2), (7, .int (nI (dd))), (8, .int r_197), (9, .int (nI (kk)))]) hx hb dL_put_329 hl (k := 8) rfl (nI_add t 1) (by decide) rfl (fun ls hl => ?_)
                            refine lv_iload hx hb dL_put_332 (lv_at hl 11 rfl) ?_
                            refine w_if_ne (x := kk) hx hb dL_put_334 (tgt := 342) (by decide) (by omega) (fun c334 => ?_) (fun c334 => ?_)
                            · skip
                              refine lv_bipush (v := nI (44)) hx hb dL_put_342 (by decide) ?_
                              refine l_ciJ (W1 := (xW a cI cJ cZ v c)) (W2 := (gA a cI (va_up w 30 (g3)))) (rest := []) hx hb hml hown hts (t_put l D a cI cJ cZ (va_A (xW a cI cJ cZ v c) H.size) v c (nI (0)) (nI (t)) (nI (44)) hI) 3 gL_put_X6_put rfl hdX6_put ⟨Nat.le_of_ble_eq_true rfl, Nat.le_of_ble_eq_true rfl⟩ hK hN hP hD hS hA 0 6 rfl rfl rfl rfl hl.1 rfl (Nat.le_of_ble_eq_true rfl) dL_put_344 ⟨Nat.le_of_ble_eq_true rfl, Nat.le_of_ble_eq_true rfl⟩ (fun r_344 u H locs hq_344 hP hD hS => ?_)
                              obtain ⟨v_344, c_344⟩ := u
                              have hI_344 : XI v_344 := hq_344.1
                              have hP : va_P D vwCl (pW a cI cJ cZ v_344 c_344 (va_up w 30 (g3))) H := hP
                              have hD : va_D A (pW a cI cJ cZ v_344 c_344 (va_up w 30 (g3))) := hD
                              have hp_344 := put0 hq_344.2 hT (by omega) (by omega)
                              have hr_344 : r_344 = nI (1) := by exact hp_344.1
                              subst hr_344
                              refine lv_iconst (v := nI (1)) hx hb dL_put_347 (by decide) ?_
                              refine w_icmp_eq (x := 1) (y := 1) hx hb dL_put_348 (tgt := 354) (by decide) (by decide) (by decide) (fun _ => ?_) (fun h => absurd h (by decide))
                              refine lv_iconst (v := nI (0)) hx hb dL_put_354 (by decide) ?_
                              refine lv_istore (lv' := [(11, .int (nI (0))), (6, .int (nI (t + 1))), (10, .int (nI (z))), (0, .ref (a 0)), (1, .ref b), (2, .int (nI (0))), (3, .int (nI (4))), (4, .ref (a 30)), (5, .int r_2), (7, .int (nI (dd))), (8, .int r_197), (9, .int (nI (kk)))]) hx hb dL_put_355 hl (by decide) rfl (fun ls hl => ?_)
                              have L357 : ∀ (n : Nat) (v : Nat → Nat → Nat) (c : Nat → Nat → Int32) (tb : Nat) (bb : Nat) (H : Heap) (locs : List Loc) (ls : Array Slot), g3 0 - bb < n → (XI v) → (bb ≤ g3 0) → (TXx v c) → (tb = t + 1 + pc (z % 2 ^ bb)) → (PB g3 (c 4) tb dd kk z bb) → va_P D vwCl (pW a cI cJ cZ v c (va_up w 30 (g3))) H → va_D A (pW a cI cJ cZ v c (va_up w 30 (g3))) → va_S A s.heap H locs → lv_has ls 12 [(6, .int (nI (tb))), (11, .int (nI (bb))), (0, .ref (a 0)), (1, .ref b), (2, .int (nI (0))), (3, .int (nI (4))), (4, .ref (a 30)), (5, .int r_2), (7, .int (nI (dd))), (8, .int r_197), (9, .int (nI (kk))), (10, .int (nI (z)))] → W p l e { frames := 5, cells := 0, slots := 0, locals := 113 } s m args below meth c0 H locs 0 0 Q (F0 m 357 ls []) := by
                                intro n
                                induction n with
                                | zero => intro v c tb bb H locs ls hm; exact absurd hm (Nat.not_lt_zero _)
                                | succ n ih357 =>
                                  intro v c tb bb H locs ls hm357 hI hbb hT htb hPB hP hD hS hl
                                  refine lv_iload hx hb dL_put_357 (lv_at hl 1 rfl) ?_
                                  refine lv_aload hx hb dL_put_359 (lv_at hl 6 rfl) ?_
                                  refine lv_iconst (v := nI (0)) hx hb dL_put_361 (by decide) ?_
                                  refine w_iald (f := g3) hx hb hK hP 26 0 rfl rfl (i := 0) (by omega) (by decide) dL_put_362 ?_
                                  refine w_icmp_ge (x := bb) (y := g3 0) hx hb dL_put_363 (tgt := 405) (by decide) (by omega) (by omega) (fun c363 => ?_) (fun c363 => ?_)
                                  · skip
                                    have ebb : bb = g3 0 := by omega
                                    rw [ebb] at hPB htb
                                    have hpc := pcm_le z hz16 (g3 0) (by omega)
                                    refine lv_iinc (v := nI (kk + 1)) (lv' := [(9, .int (nI (kk + 1))), (6, .int (nI (tb))), (11, .int (nI (bb))), (0, .ref (a 0)), (1, .ref b), (2, .int (nI (0))), (3, .int (nI (4))), (4, .ref (a 30)), (5, .int r_2), (7, .int (nI (dd))), (8, .int r_197), (10, .int (nI (z)))]) hx hb dL_put_405 hl (k := 10) rfl (nI_add kk 1) (by decide) rfl (fun ls hl => ?_)
                                    refine lv_goto (tgt := 231) hx hb dL_put_408 (by decide) ?_
                                    exact ih231 v c g3 (kk + 1) tb _ _ _ (by rw [ek3 _ (by omega)]; omega) (by exact hI) (by rw [ek3 1 (by omega)]; exact hd) (by rw [ek3 1 (by omega)]; exact h1) (by exact hG3) (by exact hT) (by rw [ek3 _ (by omega)]; omega) (by rw [ek3 _ (by omega)]; exact hbt) (by omega) (by exact PK_s hPB) hP hD hS (lv_sub hl [1, 0, 3, 4, 5, 6, 7, 8, 9, 10] rfl)
                                  · skip
                                    refine lv_iload hx hb dL_put_366 (lv_at hl 11 rfl) ?_
                                    refine lv_iload hx hb dL_put_368 (lv_at hl 1 rfl) ?_
                                    refine w_ishr (x := z) (y := bb) hx hb dL_put_370 (by have h9 := Nat.div_le_self z (2 ^ bb); omega) (by omega) ?_
                                    refine lv_iconst (v := nI (1)) hx hb dL_put_371 (by decide) ?_
                                    refine w_iand (x := z / 2 ^ bb) (y := 1) hx hb dL_put_372  ?_
                                    refine lv_iconst (v := nI (1)) hx hb dL_put_373 (by decide) ?_
                                    have hnd2 := and1_mod (z / 2 ^ bb)
                                    have hpc2 := pcm_le z hz16 bb (by omega)
                                    refine w_icmp_ne (x := (z / 2 ^ bb) &&& 1) (y := 1) hx hb dL_put_374 (tgt := 399) (by decide) (by exact and1_lt _) (by decide) (fun c374 => ?_) (fun c374 => ?_)
                                    · skip
                                      refine lv_iinc (v := nI (bb + 1)) (lv' := [(11, .int (nI (bb + 1))), (6, .int (nI (tb))), (0, .ref (a 0)), (1, .ref b), (2, .int (nI (0))), (3, .int (nI (4))), (4, .ref (a 30)), (5, .int r_2), (7, .int (nI (dd))), (8, .int r_197), (9, .int (nI (kk))), (10, .int (nI (z)))]) hx hb dL_put_399 hl (k := 1) rfl (nI_add bb 1) (by decide) rfl (fun ls hl => ?_)
                                      refine lv_goto (tgt := 357) hx hb dL_put_402 (by decide) ?_
                                      exact ih357 v c tb (bb + 1) _ _ _ (by omega) (by exact hI) (by omega) (by first | exact hp_389.2.1 | exact hT) (by first | (have h9 := bit_y z hz16 bb (by omega) (by omega); omega) | (rw [bit_n z hz16 bb (by omega) (by omega)]; exact htb)) (by first | exact PB_y hPB (by omega) hz16 (by omega) (by omega) hp_389.2.2.2 hp_389.2.2.1 | exact PB_n hPB hz16 (by omega) (by omega)) hP hD hS (lv_sub hl [1, 0, 2, 3, 4, 5, 6, 7, 8, 9, 10, 11] rfl)
                                    · skip
                                      refine lv_aload_n hx hb dL_put_377 rfl (lv_at hl 2 rfl) ?_
                                      refine lv_iconst (v := nI (0)) hx hb dL_put_378 (by decide) ?_
                                      refine lv_iload hx hb dL_put_379 (lv_at hl 0 rfl) ?_
                                      refine lv_iinc (v := nI (tb + 1)) (lv' := [(6, .int (nI (tb + 1))), (11, .int (nI (bb))), (0, .ref (a 0)), (1, .ref b), (2, .int (nI (0))), (3, .int (nI (4))), (4, .ref (a 30)), (5, .int r_2), (7, .int (nI (dd))), (8, .int r_197), (9, .int (nI (kk))), (10, .int (nI (z)))]) hx hb dL_put_381 hl (k := 0) rfl (nI_add tb 1) (by decide) rfl (fun ls hl => ?_)
                                      refine lv_bipush (v := nI (48)) hx hb dL_put_384 (by decide) ?_
                                      refine lv_iload hx hb dL_put_386 (lv_at hl 1 rfl) ?_
                                      refine w_iadd (x := 48) (y := bb) hx hb dL_put_388  ?_
                                      refine l_ciJ (W1 := (xW a cI cJ cZ v c)) (W2 := (gA a cI (va_up w 30 (g3)))) (rest := []) hx hb hml hown hts (t_put l D a cI cJ cZ (va_A (xW a cI cJ cZ v c) H.size) v c (nI (0)) (nI (tb)) (nI (48 + bb)) hI) 3 gL_put_X6_put rfl hdX6_put ⟨Nat.le_of_ble_eq_true rfl, Nat.le_of_ble_eq_true rfl⟩ hK hN hP hD hS hA 0 6 rfl rfl rfl rfl hl.1 rfl (Nat.le_of_ble_eq_true rfl) dL_put_389 ⟨Nat.le_of_ble_eq_true rfl, Nat.le_of_ble_eq_true rfl⟩ (fun r_389 u H locs hq_389 hP hD hS => ?_)
                                      obtain ⟨v_389, c_389⟩ := u
                                      have hI_389 : XI v_389 := hq_389.1
                                      have hP : va_P D vwCl (pW a cI cJ cZ v_389 c_389 (va_up w 30 (g3))) H := hP
                                      have hD : va_D A (pW a cI cJ cZ v_389 c_389 (va_up w 30 (g3))) := hD
                                      have hp_389 := put0 (z := 48 + bb) hq_389.2 hT (by omega) (by omega)
                                      have hr_389 : r_389 = nI (1) := by exact hp_389.1
                                      subst hr_389
                                      refine lv_iconst (v := nI (1)) hx hb dL_put_392 (by decide) ?_
                                      refine w_icmp_eq (x := 1) (y := 1) hx hb dL_put_393 (tgt := 399) (by decide) (by decide) (by decide) (fun _ => ?_) (fun h => absurd h (by decide))
                                      refine lv_iinc (v := nI (bb + 1)) (lv' := [(11, .int (nI (bb + 1))), (6, .int (nI (tb + 1))), (0, .ref (a 0)), (1, .ref b), (2, .int (nI (0))), (3, .int (nI (4))), (4, .ref (a 30)), (5, .int r_2), (7, .int (nI (dd))), (8, .int r_197), (9, .int (nI (kk))), (10, .int (nI (z)))]) hx hb dL_put_399 hl (k := 1) rfl (nI_add bb 1) (by decide) rfl (fun ls hl => ?_)
                                      refine lv_goto (tgt := 357) hx hb dL_put_402 (by decide) ?_
                                      exact ih357 v_389 c_389 (tb + 1) (bb + 1) _ _ _ (by omega) (by exact hI_389) (by omega) (by first | exact hp_389.2.1 | exact hT) (by first | (have h9 := bit_y z hz16 bb (by omega) (by omega); omega) | (rw [bit_n z hz16 bb (by omega) (by omega)]; exact htb)) (by first | exact PB_y hPB (by omega) hz16 (by omega) (by omega) hp_389.2.2.2 hp_389.2.2.1 | exact PB_n hPB hz16 (by omega) (by omega)) hP hD hS (lv_sub hl [1, 0, 2, 3, 4, 5, 6, 7, 8, 9, 10, 11] rfl)
                              exact L357 ((g3 0 - 0) + 1) v_344 c_344 (t + 1) 0 _ _ _ (Nat.lt_succ_self _) (by exact hI_344) (by omega) (by exact hp_344.2.1) (by rw [Nat.pow_zero, Nat.mod_one]; rfl) (by exact PB_0 hPK hG.2.1 (by omega) (by omega) hz ek3 ev3 hp_344.2.2.2 (by first | (rw [if_neg c334]; exact hp_344.2.2.1) | (rw [if_pos c334]; exact hp_344.2.2.1))) hP hD hS (lv_sub hl [1, 0, 3, 4, 5, 6, 7, 8, 9, 10, 11, 2] rfl)
                            · skip
                              refine lv_bipush (v := nI (59)) hx hb dL_put_337 (by decide) ?_
                              refine lv_goto (tgt := 344) hx hb dL_put_339 (by decide) ?_
                              refine l_ciJ (W1 := (xW a cI cJ cZ v c)) (W2 := (gA a cI (va_up w 30 (g3)))) (rest := []) hx hb hml hown hts (t_put l D a cI cJ cZ (va_A (xW a cI cJ cZ v c) H.size) v c (nI (0)) (nI (t)) (nI (59)) hI) 3 gL_put_X6_put rfl hdX6_put ⟨Nat.le_of_ble_eq_true rfl, Nat.le_of_ble_eq_true rfl⟩ hK hN hP hD hS hA 0 6 rfl rfl rfl rfl hl.1 rfl (Nat.le_of_ble_eq_true rfl) dL_put_344 ⟨Nat.le_of_ble_eq_true rfl, Nat.le_of_ble_eq_true rfl⟩ (fun r_344 u H locs hq_344 hP hD hS => ?_)
                              obtain ⟨v_344, c_344⟩ := u
                              have hI_344 : XI v_344 := hq_344.1
                              have hP : va_P D vwCl (pW a cI cJ cZ v_344 c_344 (va_up w 30 (g3))) H := hP
                              have hD : va_D A (pW a cI cJ cZ v_344 c_344 (va_up w 30 (g3))) := hD
                              have hp_344 := put0 hq_344.2 hT (by omega) (by omega)
                              have hr_344 : r_344 = nI (1) := by exact hp_344.1
                              subst hr_344
                              refine lv_iconst (v := nI (1)) hx hb dL_put_347 (by decide) ?_
                              refine w_icmp_eq (x := 1) (y := 1) hx hb dL_put_348 (tgt := 354) (by decide) (by decide) (by decide) (fun _ => ?_) (fun h => absurd h (by decide))
                              refine lv_iconst (v := nI (0)) hx hb dL_put_354 (by decide) ?_
                              refine lv_istore (lv' := [(11, .int (nI (0))), (6, .int (nI (t + 1))), (10, .int (nI (z))), (0, .ref (a 0)), (1, .ref b), (2, .int (nI (0))), (3, .int (nI (4))), (4, .ref (a 30)), (5, .int r_2), (7, .int (nI (dd))), (8, .int r_197), (9, .int (nI (kk)))]) hx hb dL_put_355 hl (by decide) rfl (fun ls hl => ?_)
                              have L357 : ∀ (n : Nat) (v : Nat → Nat → Nat) (c : Nat → Nat → Int32) (tb : Nat) (bb : Nat) (H : Heap) (locs : List Loc) (ls : Array Slot), g3 0 - bb < n → (XI v) → (bb ≤ g3 0) → (TXx v c) → (tb = t + 1 + pc (z % 2 ^ bb)) → (PB g3 (c 4) tb dd kk z bb) → va_P D vwCl (pW a cI cJ cZ v c (va_up w 30 (g3))) H → va_D A (pW a cI cJ cZ v c (va_up w 30 (g3))) → va_S A s.heap H locs → lv_has ls 12 [(6, .int (nI (tb))), (11, .int (nI (bb))), (0, .ref (a 0)), (1, .ref b), (2, .int (nI (0))), (3, .int (nI (4))), (4, .ref (a 30)), (5, .int r_2), (7, .int (nI (dd))), (8, .int r_197), (9, .int (nI (kk))), (10, .int (nI (z)))] → W p l e { frames := 5, cells := 0, slots := 0, locals := 113 } s m args below meth c0 H locs 0 0 Q (F0 m 357 ls []) := by
                                intro n
                                induction n with
                                | zero => intro v c tb bb H locs ls hm; exact absurd hm (Nat.not_lt_zero _)
                                | succ n ih357 =>
                                  intro v c tb bb H locs ls hm357 hI hbb hT htb hPB hP hD hS hl
                                  refine lv_iload hx hb dL_put_357 (lv_at hl 1 rfl) ?_
                                  refine lv_aload hx hb dL_put_359 (lv_at hl 6 rfl) ?_
                                  refine lv_iconst (v := nI (0)) hx hb dL_put_361 (by decide) ?_
                                  refine w_iald (f := g3) hx hb hK hP 26 0 rfl rfl (i := 0) (by omega) (by decide) dL_put_362 ?_
                                  refine w_icmp_ge (x := bb) (y := g3 0) hx hb dL_put_363 (tgt := 405) (by decide) (by omega) (by omega) (fun c363 => ?_) (fun c363 => ?_)
                                  · skip
                                    have ebb : bb = g3 0 := by omega
                                    rw [ebb] at hPB htb
                                    have hpc := pcm_le z hz16 (g3 0) (by omega)
                                    refine lv_iinc (v := nI (kk + 1)) (lv' := [(9, .int (nI (kk + 1))), (6, .int (nI (tb))), (11, .int (nI (bb))), (0, .ref (a 0)), (1, .ref b), (2, .int (nI (0))), (3, .int (nI (4))), (4, .ref (a 30)), (5, .int r_2), (7, .int (nI (dd))), (8, .int r_197), (10, .int (nI (z)))]) hx hb dL_put_405 hl (k := 10) rfl (nI_add kk 1) (by decide) rfl (fun ls hl => ?_)
                                    refine lv_goto (tgt := 231) hx hb dL_put_408 (by decide) ?_
                                    exact ih231 v c g3 (kk + 1) tb _ _ _ (by rw [ek3 _ (by omega)]; omega) (by exact hI) (by rw [ek3 1 (by omega)]; exact hd) (by rw [ek3 1 (by omega)]; exact h1) (by exact hG3) (by exact hT) (by rw [ek3 _ (by omega)]; omega) (by rw [ek3 _ (by omega)]; exact hbt) (by omega) (by exact PK_s hPB) hP hD hS (lv_sub hl [1, 0, 3, 4, 5, 6, 7, 8, 9, 10] rfl)
                                  · skip
                                    refine lv_iload hx hb dL_put_366 (lv_at hl 11 rfl) ?_
                                    refine lv_iload hx hb dL_put_368 (lv_at hl 1 rfl) ?_
                                    refine w_ishr (x := z) (y := bb) hx hb dL_put_370 (by have h9 := Nat.div_le_self z (2 ^ bb); omega) (by omega) ?_
                                    refine lv_iconst (v := nI (1)) hx hb dL_put_371 (by decide) ?_
                                    refine w_iand (x := z / 2 ^ bb) (y := 1) hx hb dL_put_372  ?_
                                    refine lv_iconst (v := nI (1)) hx hb dL_put_373 (by decide) ?_
                                    have hnd2 := and1_mod (z / 2 ^ bb)
                                    have hpc2 := pcm_le z hz16 bb (by omega)
                                    refine w_icmp_ne (x := (z / 2 ^ bb) &&& 1) (y := 1) hx hb dL_put_374 (tgt := 399) (by decide) (by exact and1_lt _) (by decide) (fun c374 => ?_) (fun c374 => ?_)
                                    · skip
                                      refine lv_iinc (v := nI (bb + 1)) (lv' := [(11, .int (nI (bb + 1))), (6, .int (nI (tb))), (0, .ref (a 0)), (1, .ref b), (2, .int (nI (0))), (3, .int (nI (4))), (4, .ref (a 30)), (5, .int r_2), (7, .int (nI (dd))), (8, .int r_197), (9, .int (nI (kk))), (10, .int (nI (z)))]) hx hb dL_put_399 hl (k := 1) rfl (nI_add bb 1) (by decide) rfl (fun ls hl => ?_)
                                      refine lv_goto (tgt := 357) hx hb dL_put_402 (by decide) ?_
                                      exact ih357 v c tb (bb + 1) _ _ _ (by omega) (by exact hI) (by omega) (by first | exact hp_389.2.1 | exact hT) (by first | (have h9 := bit_y z hz16 bb (by omega) (by omega); omega) | (rw [bit_n z hz16 bb (by omega) (by omega)]; exact htb)) (by first | exact PB_y hPB (by omega) hz16 (by omega) (by omega) hp_389.2.2.2 hp_389.2.2.1 | exact PB_n hPB hz16 (by omega) (by omega)) hP hD hS (lv_sub hl [1, 0, 2, 3, 4, 5, 6, 7, 8, 9, 10, 11] rfl)
                                    · skip
                                      refine lv_aload_n hx hb dL_put_377 rfl (lv_at hl 2 rfl) ?_
                                      refine lv_iconst (v := nI (0)) hx hb dL_put_378 (by decide) ?_
                                      refine lv_iload hx hb dL_put_379 (lv_at hl 0 rfl) ?_
                                      refine lv_iinc (v := nI (tb + 1)) (lv' := [(6, .int (nI (tb + 1))), (11, .int (nI (bb))), (0, .ref (a 0)), (1, .ref b), (2, .int (nI (0))), (3, .int (nI (4))), (4, .ref (a 30)), (5, .int r_2), (7, .int (nI (dd))), (8, .int r_197), (9, .int (nI (kk))), (10, .int (nI (z)))]) hx hb dL_put_381 hl (k := 0) rfl (nI_add tb 1) (by decide) rfl (fun ls hl => ?_)
                                      refine lv_bipush (v := nI (48)) hx hb dL_put_384 (by decide) ?_
                                      refine lv_iload hx hb dL_put_386 (lv_at hl 1 rfl) ?_
                                      refine w_iadd (x := 48) (y := bb) hx hb dL_put_388  ?_
                                      refine l_ciJ (W1 := (xW a cI cJ cZ v c)) (W2 := (gA a cI (va_up w 30 (g3)))) (rest := []) hx hb hml hown hts (t_put l D a cI cJ cZ (va_A (xW a cI cJ cZ v c) H.size) v c (nI (0)) (nI (tb)) (nI (48 + bb)) hI) 3 gL_put_X6_put rfl hdX6_put ⟨Nat.le_of_ble_eq_true rfl, Nat.le_of_ble_eq_true rfl⟩ hK hN hP hD hS hA 0 6 rfl rfl rfl rfl hl.1 rfl (Nat.le_of_ble_eq_true rfl) dL_put_389 ⟨Nat.le_of_ble_eq_true rfl, Nat.le_of_ble_eq_true rfl⟩ (fun r_389 u H locs hq_389 hP hD hS => ?_)
                                      obtain ⟨v_389, c_389⟩ := u
                                      have hI_389 : XI v_389 := hq_389.1
                                      have hP : va_P D vwCl (pW a cI cJ cZ v_389 c_389 (va_up w 30 (g3))) H := hP
                                      have hD : va_D A (pW a cI cJ cZ v_389 c_389 (va_up w 30 (g3))) := hD
                                      have hp_389 := put0 (z := 48 + bb) hq_389.2 hT (by omega) (by omega)
                                      have hr_389 : r_389 = nI (1) := by exact hp_389.1
                                      subst hr_389
                                      refine lv_iconst (v := nI (1)) hx hb dL_put_392 (by decide) ?_
                                      refine w_icmp_eq (x := 1) (y := 1) hx hb dL_put_393 (tgt := 399) (by decide) (by decide) (by decide) (fun _ => ?_) (fun h => absurd h (by decide))
                                      refine lv_iinc (v := nI (bb + 1)) (lv' := [(11, .int (nI (bb + 1))), (6, .int (nI (tb + 1))), (0, .ref (a 0)), (1, .ref b), (2, .int (nI (0))), (3, .int (nI (4))), (4, .ref (a 30)), (5, .int r_2), (7, .int (nI (dd))), (8, .int r_197), (9, .int (nI (kk))), (10, .int (nI (z)))]) hx hb dL_put_399 hl (k := 1) rfl (nI_add bb 1) (by decide) rfl (fun ls hl => ?_)
                                      refine lv_goto (tgt := 357) hx hb dL_put_402 (by decide) ?_
                                      exact ih357 v_389 c_389 (tb + 1) (bb + 1) _ _ _ (by omega) (by exact hI_389) (by omega) (by first | exact hp_389.2.1 | exact hT) (by first | (have h9 := bit_y z hz16 bb (by omega) (by omega); omega) | (rw [bit_n z hz16 bb (by omega) (by omega)]; exact htb)) (by first | exact PB_y hPB (by omega) hz16 (by omega) (by omega) hp_389.2.2.2 hp_389.2.2.1 | exact PB_n hPB hz16 (by omega) (by omega)) hP hD hS (lv_sub hl [1, 0, 2, 3, 4, 5, 6, 7, 8, 9, 10, 11] rfl)
                              exact L357 ((g3 0 - 0) + 1) v_344 c_344 (t + 1) 0 _ _ _ (Nat.lt_succ_self _) (by exact hI_344) (by omega) (by exact hp_344.2.1) (by rw [Nat.pow_zero, Nat.mod_one]; rfl) (by exact PB_0 hPK hG.2.1 (by omega) (by omega) hz ek3 ev3 hp_344.2.2.2 (by first | (rw [if_neg c334]; exact hp_344.2.2.1) | (rw [if_pos c334]; exact hp_344.2.2.1))) hP hD hS (lv_sub hl [1, 0, 3, 4, 5, 6, 7, 8, 9, 10, 11, 2] rfl)
                          · skip
                            have hz16 : z < 16 := Nat.lt_of_lt_of_le hz (p2_16 hG.2.1)
                            refine lv_iload hx hb dL_put_256 (lv_at hl 10 rfl) ?_
                            refine lv_iconst (v := nI (2)) hx hb dL_put_258 (by decide) ?_
                            refine lv_iconst (v := nI (3)) hx hb dL_put_259 (by decide) ?_
                            refine lv_iload hx hb dL_put_260 (lv_at hl 11 rfl) ?_
                            refine w_imul (x := 3) (y := kk) hx hb dL_put_262  ?_
                            refine w_iadd (x := 2) (y := 3 * kk) hx hb dL_put_263  ?_
                            refine lv_iload hx hb dL_put_264 (lv_at hl 1 rfl) ?_
                            refine w_iadd (x := 2 + (3 * kk)) (y := qq) hx hb dL_put_266  ?_
                            refine lv_ishr hx hb dL_put_267 ?_
                            refine lv_iconst (v := nI (3)) hx hb dL_put_268 (by decide) ?_
                            refine w_cSi (rest := []) hx hb hml hown hts (k_some l D cI cJ cZ A (pW a cI cJ cZ v c (va_up w 30 (gk))) (r_197 >>> ((nI (2 + (3 * kk) + qq)) &&& 31)) 3 (by omega)) 2 gL_put_L_some rfl hdL_some ⟨Nat.le_of_ble_eq_true rfl, Nat.le_of_ble_eq_true rfl⟩ hK hN hP hD hS hA rfl hl.1 rfl (Nat.le_of_ble_eq_true rfl) dL_put_269 ⟨Nat.le_of_ble_eq_true rfl, Nat.le_of_ble_eq_true rfl⟩ (fun r u H locs hq hP hD hS => ?_)
                            obtain ⟨j_269, hj_269, rfl⟩ := hq
                            have hP : va_P D vwCl (pW a cI cJ cZ v c (va_up w 30 (gk))) H := hP
                            have hD : va_D A (pW a cI cJ cZ v c (va_up w 30 (gk))) := hD
                            refine w_if_le (x := j_269) hx hb dL_put_272 (tgt := 303) (by decide) (by omega) (fun c272 => ?_) (fun c272 => ?_)
                            · skip
                              refine lv_iinc (v := nI (qq + 1)) (lv' := [(11, .int (nI (qq + 1))), (10, .int (nI (z))), (0, .ref (a 0)), (1, .ref b), (2, .int (nI (0))), (3, .int (nI (4))), (4, .ref (a 30)), (5, .int r_2), (6, .int (nI (t))), (7, .int (nI (dd))), (8, .int r_197), (9, .int (nI (kk)))]) hx hb dL_put_303 hl (k := 1) rfl (nI_add qq 1) (by decide) rfl (fun ls hl => ?_)
                              refine lv_goto (tgt := 250) hx hb dL_put_306 (by decide) ?_
                              exact ih250 (qq + 1) z _ _ _ (by omega) (by omega) (by first | exact or_in hz (by omega) | exact hz) (by first | (have h9 := pc_or1 z hz16 j_296 (by omega); omega) | omega) hP hD hS (lv_sub hl [1, 0, 2, 3, 4, 5, 6, 7, 8, 9, 10, 11] rfl)
                            · skip
                              refine lv_iload hx hb dL_put_275 (lv_at hl 0 rfl) ?_
                              refine lv_iconst (v := nI (1)) hx hb dL_put_277 (by decide) ?_
                              refine lv_iload hx hb dL_put_278 (lv_at hl 10 rfl) ?_
                              refine lv_iconst (v := nI (1)) hx hb dL_put_280 (by decide) ?_
                              refine lv_iconst (v := nI (3)) hx hb dL_put_281 (by decide) ?_
                              refine lv_iload hx hb dL_put_282 (lv_at hl 11 rfl) ?_
                              refine w_imul (x := 3) (y := kk) hx hb dL_put_284  ?_
                              refine w_iadd (x := 1) (y := 3 * kk) hx hb dL_put_285  ?_
                              refine lv_iconst (v := nI (2)) hx hb dL_put_286 (by decide) ?_
                              refine lv_iload hx hb dL_put_287 (lv_at hl 1 rfl) ?_
                              refine w_imul (x := 2) (y := qq) hx hb dL_put_289  ?_
                              refine w_iadd (x := 1 + (3 * kk)) (y := 2 * qq) hx hb dL_put_290  ?_
                              refine lv_ishr hx hb dL_put_291 ?_
                              refine lv_aload hx hb dL_put_292 (lv_at hl 6 rfl) ?_
                              refine lv_iconst (v := nI (0)) hx hb dL_put_294 (by decide) ?_
                              refine w_iald (f := gk) hx hb hK hP 26 0 rfl rfl (i := 0) (by omega) (by decide) dL_put_295 ?_
                              refine w_cSi (rest := [.int (nI (1)), .int (nI (z))]) hx hb hml hown hts (k_some l D cI cJ cZ A (pW a cI cJ cZ v c (va_up w 30 (gk))) (r_197 >>> ((nI (1 + (3 * kk) + (2 * qq))) &&& 31)) (gk 0) (by omega)) 2 gL_put_L_some rfl hdL_some ⟨Nat.le_of_ble_eq_true rfl, Nat.le_of_ble_eq_true rfl⟩ hK hN hP hD hS hA rfl hl.1 rfl (Nat.le_of_ble_eq_true rfl) dL_put_296 ⟨Nat.le_of_ble_eq_true rfl, Nat.le_of_ble_eq_true rfl⟩ (fun r u H locs hq hP hD hS => ?_)
                              obtain ⟨j_296, hj_296, rfl⟩ := hq
                              have hP : va_P D vwCl (pW a cI cJ cZ v c (va_up w 30 (gk))) H := hP
                              have hD : va_D A (pW a cI cJ cZ v c (va_up w 30 (gk))) := hD
                              refine w_ishl (x := 1) (y := j_296) hx hb dL_put_299 (by omega) (by have h9 := p2_16 (show j_296 ≤ 4 by omega); omega) ?_
                              refine w_ior (x := z) (y := 1 * 2 ^ j_296) hx hb dL_put_300  ?_
                              refine lv_istore (lv' := [(10, .int (nI (z ||| (1 * 2 ^ j_296)))), (11, .int (nI (qq))), (0, .ref (a 0)), (1, .ref b), (2, .int (nI (0))), (3, .int (nI (4))), (4, .ref (a 30)), (5, .int r_2), (6, .int (nI (t))), (7, .int (nI (dd))), (8, .int r_197), (9, .int (nI (kk)))]) hx hb dL_put_301 hl (by decide) rfl (fun ls hl => ?_)
                              refine lv_iinc (v := nI (qq + 1)) (lv' := [(11, .int (nI (qq + 1))), (10, .int (nI (z ||| (1 * 2 ^ j_296)))), (0, .ref (a 0)), (1, .ref b), (2, .int (nI (0))), (3, .int (nI (4))), (4, .ref (a 30)), (5, .int r_2), (6, .int (nI (t))), (7, .int (nI (dd))), (8, .int r_197), (9, .int (nI (kk)))]) hx hb dL_put_303 hl (k := 1) rfl (nI_add qq 1) (by decide) rfl (fun ls hl => ?_)
                              refine lv_goto (tgt := 250) hx hb dL_put_306 (by decide) ?_
                              exact ih250 (qq + 1) (z ||| (1 * 2 ^ j_296)) _ _ _ (by omega) (by omega) (by first | exact or_in hz (by omega) | exact hz) (by first | (have h9 := pc_or1 z hz16 j_296 (by omega); omega) | omega) hP hD hS (lv_sub hl [1, 0, 2, 3, 4, 5, 6, 7, 8, 9, 10, 11] rfl)
                      exact L250 ((2 - 0) + 1) 0 0 _ _ _ (Nat.lt_succ_self _) (by omega) (by exact Nat.two_pow_pos _) (by decide) hP hD hS (lv_sub hl [1, 0, 4, 5, 6, 7, 8, 9, 2, 10, 11, 3] rfl)
                exact L231 ((g2 (9 + dd) - 0) + 1) v c g2 0 t _ _ _ (Nat.lt_succ_self _) (by exact hI) (by rw [ek2 1 (by omega)]; omega) (by exact ek2 1 (by omega)) (by first | (rw [ek2 0 (by omega), ek2 1 (by omega), ek2 37 (by omega)]; exact hG) | exact hG) (by exact hT) (by omega) (by rw [ev2]; omega) (by omega) (by exact PK_0 hPD hG.2.1 (by omega) ek2) hP hD hS (lv_sub hl [2, 0, 4, 5, 6, 7, 8, 9, 3, 1] rfl)
        exact L181 ((g 1 - 0) + 1) v c g 0 (2 + i) _ _ _ (Nat.lt_succ_self _) (by exact hI) (by omega) (by exact hG) (by exact hT) (by omega) (by have e : i = g 0 := (by omega); rw [e] at hH ⊢; exact PD_0 hH) hP hD hS (lv_sub hl [1, 0, 2, 3, 4, 5, 6, 7] rfl)
      · skip
        refine lv_aload hx hb dL_put_106 (lv_at hl 6 rfl) ?_
        refine lv_iconst (v := nI (2)) hx hb dL_put_108 (by decide) ?_
        refine lv_iload hx hb dL_put_109 (lv_at hl 1 rfl) ?_
        refine w_iadd (x := 2) (y := i) hx hb dL_put_111  ?_
        refine lv_iconst (v := nI (1)) hx hb dL_put_112 (by decide) ?_
        refine lv_iload hx hb dL_put_113 (lv_at hl 7 rfl) ?_
        refine lv_bipush (v := nI (6)) hx hb dL_put_115 (by decide) ?_
        refine lv_iconst (v := nI (2)) hx hb dL_put_117 (by decide) ?_
        refine lv_iload hx hb dL_put_118 (lv_at hl 1 rfl) ?_
        refine w_imul (x := 2) (y := i) hx hb dL_put_120  ?_
        refine w_iadd (x := 6) (y := 2 * i) hx hb dL_put_121  ?_
        refine lv_ishr hx hb dL_put_122 ?_
        refine lv_iload hx hb dL_put_123 (lv_at hl 7 rfl) ?_
        refine lv_iconst (v := nI (5)) hx hb dL_put_125 (by decide) ?_
        refine lv_ishr hx hb dL_put_126 ?_
        refine lv_iconst (v := nI (2)) hx hb dL_put_127 (by decide) ?_
        refine w_cSi (rest := [.int (r_2 >>> ((nI (6 + (2 * i))) &&& 31)), .int (nI (1)), .int (nI (2 + i)), .ref (a 30)]) hx hb hml hown hts (k_some l D cI cJ cZ A (pW a cI cJ cZ v c (va_up w 30 (g))) (r_2 >>> ((nI (5)) &&& 31)) 2 (by omega)) 2 gL_put_L_some rfl hdL_some ⟨Nat.le_of_ble_eq_true rfl, Nat.le_of_ble_eq_true rfl⟩ hK hN hP hD hS hA rfl hl.1 rfl (Nat.le_of_ble_eq_true rfl) dL_put_128 ⟨Nat.le_of_ble_eq_true rfl, Nat.le_of_ble_eq_true rfl⟩ (fun r u H locs hq hP hD hS => ?_)
        obtain ⟨j_128, hj_128, rfl⟩ := hq
        have hP : va_P D vwCl (pW a cI cJ cZ v c (va_up w 30 (g))) H := hP
        have hD : va_D A (pW a cI cJ cZ v c (va_up w 30 (g))) := hD
        refine w_if_ne (x := j_128) hx hb dL_put_131 (tgt := 139) (by decide) (by omega) (fun c131 => ?_) (fun c131 => ?_)
        · skip
          refine lv_iconst (v := nI (5)) hx hb dL_put_139 (by decide) ?_
          refine w_cSi (rest := [.int (nI (1)), .int (nI (2 + i)), .ref (a 30)]) hx hb hml hown hts (k_some l D cI cJ cZ A (pW a cI cJ cZ v c (va_up w 30 (g))) (r_2 >>> ((nI (6 + (2 * i))) &&& 31)) 5 (by omega)) 2 gL_put_L_some rfl hdL_some ⟨Nat.le_of_ble_eq_true rfl, Nat.le_of_ble_eq_true rfl⟩ hK hN hP hD hS hA rfl hl.1 rfl (Nat.le_of_ble_eq_true rfl) dL_put_140 ⟨Nat.le_of_ble_eq_true rfl, Nat.le_of_ble_eq_true rfl⟩ (fun r u H locs hq hP hD hS => ?_)
          obtain ⟨j_140, hj_140, rfl⟩ := hq
          have hP : va_P D vwCl (pW a cI cJ cZ v c (va_up w 30 (g))) H := hP
          have hD : va_D A (pW a cI cJ cZ v c (va_up w 30 (g))) := hD
          refine w_iadd (x := 1) (y := j_140) hx hb dL_put_143  ?_
          refine w_iast (f := g) (w := 1 + j_140) hx hb hK hP hD hS 26 0 rfl rfl (i := 2 + i) (by omega) (by decide) dL_put_144 (fun H locs hP hD hS => ?_)
          have hP : va_P D vwCl (pW a cI cJ cZ v c (va_up w 30 (va_up g (2 + i) (1 + j_140)))) H := hP
          have hD : va_D A (pW a cI cJ cZ v c (va_up w 30 (va_up g (2 + i) (1 + j_140)))) := hD
          obtain ⟨g1, eg1⟩ : ∃ zz : Nat → Nat, zz = va_up g (2 + i) (1 + j_140) := ⟨_, rfl⟩
          rw [← eg1] at hP hD
          have ek1 : ∀ q, q ≠ 2 + i → g1 q = g q := fun q hq => by rw [eg1]; exact up_ne hq
          have ev1 : g1 (2 + i) = 1 + j_140 := by rw [eg1]; exact up_eq
          refine lv_aload_n hx hb dL_put_145 rfl (lv_at hl 2 rfl) ?_
          refine lv_iconst (v := nI (0)) hx hb dL_put_146 (by decide) ?_
          refine lv_iload hx hb dL_put_147 (lv_at hl 0 rfl) ?_
          refine lv_iinc (v := nI (2 + i + 1)) (lv' := [(6, .int (nI (2 + i + 1))), (7, .int (nI (i))), (0, .ref (a 0)), (1, .ref b), (2, .int (nI (0))), (3, .int (nI (4))), (4, .ref (a 30)), (5, .int r_2)]) hx hb dL_put_149 hl (k := 0) rfl (nI_add (2 + i) 1) (by decide) rfl (fun ls hl => ?_)
          refine lv_bipush (v := nI (48)) hx hb dL_put_152 (by decide) ?_
          refine lv_aload hx hb dL_put_154 (lv_at hl 6 rfl) ?_
          refine lv_iconst (v := nI (2)) hx hb dL_put_156 (by decide) ?_
          refine lv_iload hx hb dL_put_157 (lv_at hl 1 rfl) ?_
          refine w_iadd (x := 2) (y := i) hx hb dL_put_159  ?_
          refine w_iald (f := g1) hx hb hK hP 26 0 rfl rfl (i := 2 + i) (by omega) (by decide) dL_put_160 ?_
          refine w_iadd (x := 48) (y := g1 (2 + i)) hx hb dL_put_161  ?_
          refine l_ciJ (W1 := (xW a cI cJ cZ v c)) (W2 := (gA a cI (va_up w 30 (g1)))) (rest := []) hx hb hml hown hts (t_put l D a cI cJ cZ (va_A (xW a cI cJ cZ v c) H.size) v c (nI (0)) (nI (2 + i)) (nI (48 + (g1 (2 + i)))) hI) 3 gL_put_X6_put rfl hdX6_put ⟨Nat.le_of_ble_eq_true rfl, Nat.le_of_ble_eq_true rfl⟩ hK hN hP hD hS hA 0 6 rfl rfl rfl rfl hl.1 rfl (Nat.le_of_ble_eq_true rfl) dL_put_162 ⟨Nat.le_of_ble_eq_true rfl, Nat.le_of_ble_eq_true rfl⟩ (fun r_162 u H locs hq_162 hP hD hS => ?_)
          obtain ⟨v_162, c_162⟩ := u
          have hI_162 : XI v_162 := hq_162.1
          have hP : va_P D vwCl (pW a cI cJ cZ v_162 c_162 (va_up w 30 (g1))) H := hP
          have hD : va_D A (pW a cI cJ cZ v_162 c_162 (va_up w 30 (g1))) := hD
          have hp_162 := put0 (z := 48 + g1 (2 + i)) hq_162.2 hT (by omega) (by omega)
          have hr_162 : r_162 = nI (1) := by exact hp_162.1
          subst hr_162
          refine lv_iconst (v := nI (1)) hx hb dL_put_165 (by decide) ?_
          refine w_icmp_eq (x := 1) (y := 1) hx hb dL_put_166 (tgt := 172) (by decide) (by decide) (by decide) (fun _ => ?_) (fun h => absurd h (by decide))
          refine lv_iinc (v := nI (i + 1)) (lv' := [(7, .int (nI (i + 1))), (6, .int (nI (2 + i + 1))), (0, .ref (a 0)), (1, .ref b), (2, .int (nI (0))), (3, .int (nI (4))), (4, .ref (a 30)), (5, .int r_2)]) hx hb dL_put_172 hl (k := 1) rfl (nI_add i 1) (by decide) rfl (fun ls hl => ?_)
          refine lv_goto (tgt := 97) hx hb dL_put_175 (by decide) ?_
          exact ih97 v_162 c_162 g1 (i + 1) _ _ _ (by rw [ek1 0 (by omega)]; omega) (by exact hI_162) (by rw [ek1 0 (by omega)]; omega) (by first | (rw [ek1 0 (by omega), ek1 1 (by omega), ek1 37 (by omega)]; exact hG) | exact hG) (by exact hp_162.2.1) (by exact PHD_s hH ek1 ev1 (by omega) hp_162.2.2.2 (hp_162.2.2.1.trans (by rw [ev1]))) hP hD hS (lv_sub hl [1, 0, 2, 3, 4, 5, 6, 7] rfl)
        · skip
          refine lv_bipush (v := nI (9)) hx hb dL_put_134 (by decide) ?_
          refine lv_goto (tgt := 140) hx hb dL_put_136 (by decide) ?_
          refine w_cSi (rest := [.int (nI (1)), .int (nI (2 + i)), .ref (a 30)]) hx hb hml hown hts (k_some l D cI cJ cZ A (pW a cI cJ cZ v c (va_up w 30 (g))) (r_2 >>> ((nI (6 + (2 * i))) &&& 31)) 9 (by omega)) 2 gL_put_L_some rfl hdL_some ⟨Nat.le_of_ble_eq_true rfl, Nat.le_of_ble_eq_true rfl⟩ hK hN hP hD hS hA rfl hl.1 rfl (Nat.le_of_ble_eq_true rfl) dL_put_140 ⟨Nat.le_of_ble_eq_true rfl, Nat.le_of_ble_eq_true rfl⟩ (fun r u H locs hq hP hD hS => ?_)
          obtain ⟨j_140, hj_140, rfl⟩ := hq
          have hP : va_P D vwCl (pW a cI cJ cZ v c (va_up w 30 (g))) H := hP
          have hD : va_D A (pW a cI cJ cZ v c (va_up w 30 (g))) := hD
          refine w_iadd (x := 1) (y := j_140) hx hb dL_put_143  ?_
          refine w_iast (f := g) (w := 1 + j_140) hx hb hK hP hD hS 26 0 rfl rfl (i := 2 + i) (by omega) (by decide) dL_put_144 (fun H locs hP hD hS => ?_)
          have hP : va_P D vwCl (pW a cI cJ cZ v c (va_up w 30 (va_up g (2 + i) (1 + j_140)))) H := hP
          have hD : va_D A (pW a cI cJ cZ v c (va_up w 30 (va_up g (2 + i) (1 + j_140)))) := hD
          obtain ⟨g1, eg1⟩ : ∃ zz : Nat → Nat, zz = va_up g (2 + i) (1 + j_140) := ⟨_, rfl⟩
          rw [← eg1] at hP hD
          have ek1 : ∀ q, q ≠ 2 + i → g1 q = g q := fun q hq => by rw [eg1]; exact up_ne hq
          have ev1 : g1 (2 + i) = 1 + j_140 := by rw [eg1]; exact up_eq
          refine lv_aload_n hx hb dL_put_145 rfl (lv_at hl 2 rfl) ?_
          refine lv_iconst (v := nI (0)) hx hb dL_put_146 (by decide) ?_
          refine lv_iload hx hb dL_put_147 (lv_at hl 0 rfl) ?_
          refine lv_iinc (v := nI (2 + i + 1)) (lv' := [(6, .int (nI (2 + i + 1))), (7, .int (nI (i))), (0, .ref (a 0)), (1, .ref b), (2, .int (nI (0))), (3, .int (nI (4))), (4, .ref (a 30)), (5, .int r_2)]) hx hb dL_put_149 hl (k := 0) rfl (nI_add (2 + i) 1) (by decide) rfl (fun ls hl => ?_)
          refine lv_bipush (v := nI (48)) hx hb dL_put_152 (by decide) ?_
          refine lv_aload hx hb dL_put_154 (lv_at hl 6 rfl) ?_
          refine lv_iconst (v := nI (2)) hx hb dL_put_156 (by decide) ?_
          refine lv_iload hx hb dL_put_157 (lv_at hl 1 rfl) ?_
          refine w_iadd (x := 2) (y := i) hx hb dL_put_159  ?_
          refine w_iald (f := g1) hx hb hK hP 26 0 rfl rfl (i := 2 + i) (by omega) (by decide) dL_put_160 ?_
          refine w_iadd (x := 48) (y := g1 (2 + i)) hx hb dL_put_161  ?_
          refine l_ciJ (W1 := (xW a cI cJ cZ v c)) (W2 := (gA a cI (va_up w 30 (g1)))) (rest := []) hx hb hml hown hts (t_put l D a cI cJ cZ (va_A (xW a cI cJ cZ v c) H.size) v c (nI (0)) (nI (2 + i)) (nI (48 + (g1 (2 + i)))) hI) 3 gL_put_X6_put rfl hdX6_put ⟨Nat.le_of_ble_eq_true rfl, Nat.le_of_ble_eq_true rfl⟩ hK hN hP hD hS hA 0 6 rfl rfl rfl rfl hl.1 rfl (Nat.le_of_ble_eq_true rfl) dL_put_162 ⟨Nat.le_of_ble_eq_true rfl, Nat.le_of_ble_eq_true rfl⟩ (fun r_162 u H locs hq_162 hP hD hS => ?_)
          obtain ⟨v_162, c_162⟩ := u
          have hI_162 : XI v_162 := hq_162.1
          have hP : va_P D vwCl (pW a cI cJ cZ v_162 c_162 (va_up w 30 (g1))) H := hP
          have hD : va_D A (pW a cI cJ cZ v_162 c_162 (va_up w 30 (g1))) := hD
          have hp_162 := put0 (z := 48 + g1 (2 + i)) hq_162.2 hT (by omega) (by omega)
          have hr_162 : r_162 = nI (1) := by exact hp_162.1
          subst hr_162
          refine lv_iconst (v := nI (1)) hx hb dL_put_165 (by decide) ?_
          refine w_icmp_eq (x := 1) (y := 1) hx hb dL_put_166 (tgt := 172) (by decide) (by decide) (by decide) (fun _ => ?_) (fun h => absurd h (by decide))
          refine lv_iinc (v := nI (i + 1)) (lv' := [(7, .int (nI (i + 1))), (6, .int (nI (2 + i + 1))), (0, .ref (a 0)), (1, .ref b), (2, .int (nI (0))), (3, .int (nI (4))), (4, .ref (a 30)), (5, .int r_2)]) hx hb dL_put_172 hl (k := 1) rfl (nI_add i 1) (by decide) rfl (fun ls hl => ?_)
          refine lv_goto (tgt := 97) hx hb dL_put_175 (by decide) ?_
          exact ih97 v_162 c_162 g1 (i + 1) _ _ _ (by rw [ek1 0 (by omega)]; omega) (by exact hI_162) (by rw [ek1 0 (by omega)]; omega) (by first | (rw [ek1 0 (by omega), ek1 1 (by omega), ek1 37 (by omega)]; exact hG) | exact hG) (by exact hp_162.2.1) (by exact PHD_s hH ek1 ev1 (by omega) hp_162.2.2.2 (hp_162.2.2.1.trans (by rw [ev1]))) hP hD hS (lv_sub hl [1, 0, 2, 3, 4, 5, 6, 7] rfl)
  exact L97 ((g0 0 - 0) + 1) v_81 c_81 g0 0 _ _ _ (Nat.lt_succ_self _) (by exact hI_81) (by omega) (by omega) (by exact hp_81.2.1) (by exact ⟨(hp_81.2.2.2 0 (by decide)).trans hp_64.2.2.1, hp_81.2.2.1, fun e he => absurd he (Nat.not_lt_zero _)⟩) hP hD hS (lv_sub hl [1, 0, 3, 4, 5, 6, 7, 2] rfl)

