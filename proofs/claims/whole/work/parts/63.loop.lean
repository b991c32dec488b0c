/-! THE CLAIM OUT OF ONE WALK OF THE LAW'S BODY. Your part is whole_start (and what it stands on); all else here is the same for every law, but numbers. -/
def R_law : String := "DancedLockLaw"
def lw_P (b : Addr) (xs : List Int32) (args : Array Value) (s : State) : Prop := args = #[.ref b] ∧ s.IntsAt b xs ∧ xs.length ≤ 3072 ∧ (Jvm.Cond.and given_1 narrow_1).before args s = true
def lw_Q (_ : Array Value) (s : State) (o : Outcome) (t : State) : Prop := o = .returned (some (.int 1)) ∧ Framed s o t [] 600000 7302250
def lw_Z (below : List Frame) (a : Array Value) (s : State) : State → Prop := fun t => ∃ o, t.status = .running ∧ Ended t below o ∧ lw_Q a s o t
/-- the law's own end, with 1 on the stack, nothing written that was there before, its room as the claim has it -/
theorem lw_ret {p : Program} {l : Launch} {e : Env} {s : State} {m : MethodId} {below : List Frame} {meth : Method} {c : Code} {b : Nat} (hx : p.tables.exec = Jvm.exec) (hb : c.code = code) (hr : meth.sig.returnType = ret) (hlocks : meth.locks = false) {pc : Nat} {H : Heap} {ls : Array Slot} (hdg : decode code pc = .ok (.ireturn, 1)) : W p l e room_1 s m #[Value.ref b] below meth c H [] 600000 7302250 (lw_Z below #[Value.ref b] s) (F0 m pc ls [.int 1]) := by
  intro T hT X
  obtain ⟨fs, hret, hrun, hended, hW, hframe⟩ := X.leave (v := some (.int 1)) (hlocks := hlocks) (fun h => by rw [hr] at h; cases h)
  have hmeth' : T.vm.method? m = some meth := X.method'
  refine ⟨T.setFrames fs, ?_, .returned (some (.int 1)), hrun, hended, rfl, ⟨_, rfl⟩, hW, hframe⟩
  jvm_step X.here [X.here.top, hx, hb, hdg, hmeth', hr, ret, narrow_b1]
  (try refine ⟨rfl, ?_⟩); (try refine ⟨rfl, ?_⟩)
  first | (intro acts; rw [hret _ acts rfl rfl rfl]) | rw [hret _ _ rfl rfl rfl]
  exact Steps.refl _
/-- what holds at the law's entry: the machine, the code, the tables' words (any of lw_tbl by 'hts w (by decide +kernel)'), the script of L ints xs at the cell b, what the Statement gives of the start (any of its parts by flat_of_before) -/
def lw_At (p : Program) (s : State) (m : MethodId) (meth : Method) (c : Code) (b L : Nat) (xs : Nat → Int32) : Prop :=
  p.tables.exec = Jvm.exec ∧ c.code = code ∧ meth.sig.returnType = ret ∧ c.maxLocals = 4 ∧ s.vm.findClass R_law = some m.cls ∧ (∀ w ∈ lw_tbl, w.before #[Value.ref b] s = true) ∧ va_X b L xs s s.heap ∧ b < s.heap.size ∧ meth.locks = false ∧ (Jvm.Cond.and given_1 narrow_1).before #[Value.ref b] s = true

theorem cL_code : code = cL_law := by rfl
theorem l_gt {i L : Nat} (hi : i < 2 ^ 30) (hL : L < 2 ^ 30) : (nI L - nI 6 < nI i) = (L < i + 6) := by
  rw [Int32.lt_iff_toInt_lt, pk_sub_toInt hL (by decide), nI_toInt (by omega)]
  exact propext ⟨fun h => by omega, fun h => by omega⟩
set_option maxHeartbeats 4000000 in
set_option maxRecDepth 100000 in
theorem law_loop {p : Program} {l : Launch} {e : Env} {s : State} {m : MethodId} {below : List Frame} {meth : Method} {c0 : Code} {D : va_G} {a bb : Nat → Nat} {cI cJ cZ : ClassId} {b L : Nat} {xs : Nat → Int32}
    (hx : p.tables.exec = Jvm.exec) (hb : c0.code = cL_law) (hml : c0.maxLocals = 4) (hown : s.vm.findClass RL = some m.cls) (htl : ∀ w ∈ wsL_law, w.before #[Value.ref b] s = true) (hX : va_X b L xs s s.heap) (hbl : b < s.heap.size) (hK : va_K D vwCl (xT cI cJ cZ) s) (hN : gN s) (hL : L ≤ 3072) (hr : meth.sig.returnType = ret) (hlocks : meth.locks = false) :
    ∀ (n i : Nat), i ≤ L → L + 1 ≤ i + n → ∀ (v w : Nat → Nat → Nat) (c d : Nat → Nat → Int32) (H : Heap) (locs : List Loc), XI v → MI w d → ALK v c (vM w) (cM d) → va_P D vwCl (xW a cI cJ cZ v c) H → va_P D vwCl (mW bb cI cJ cZ w d) H → va_D (fun q : Nat => s.heap.size ≤ q) (xW a cI cJ cZ v c ++ mW bb cI cJ cZ w d) → va_S (fun q : Nat => s.heap.size ≤ q) s.heap H locs → ∀ (ls : Array Slot), lv_has ls 4 [(3, .int (nI (i))), (2, .ref (bb 0)), (1, .ref (a 0)), (0, .ref b)] → W p l e room_1 s m #[Value.ref b] below meth c0 H locs 41 3466 (lw_Z below #[Value.ref b] s) (F0 m 18 ls []) := by
  intro n
  induction n with
  | zero => intro i h1 h2; exact absurd h2 (by omega)
  | succ n ih =>
    intro i h1 h2 v w c d H locs hI hM hR hP1 hP2 hD hS ls hl
    have hbA : ¬ (fun q : Nat => s.heap.size ≤ q) b := Nat.not_le.mpr hbl
    refine lv_iload_n hx hb dL_law_18 rfl (lv_at hl 0 rfl) ?_
    refine lv_aload_n hx hb dL_law_19 rfl (lv_at hl 3 rfl) ?_
    refine va_slen hx hb hX hbl hbA hS dL_law_20 ?_
    refine lv_bipush (v := nI 6) hx hb dL_law_21 (by decide) ?_
    refine lv_isub hx hb dL_law_23 ?_
    refine lv_icmp_gt (tgt := 1408) hx hb dL_law_24 (by decide) (fun h9 => ?_) (fun h9 => ?_)
    · refine lv_iconst (v := 1) hx hb dL_law_1408 (by decide) ?_
      refine va_forget (fun q hq => hS.2.2 q hq) ?_
      refine W.widen (k := 600000) (n := 7302250) (Nat.le_of_ble_eq_true rfl) (Nat.le_of_ble_eq_true rfl) ?_
      exact lw_ret hx (hb.trans cL_code.symm) hr hlocks (by rw [cL_code]; exact dL_law_1409)
    · have hi6 : i + 6 ≤ L := by
        have h8 : ¬ (nI L - nI 6 < nI i) := h9
        rw [l_gt (by omega) (by omega)] at h8
        omega
      have K : ∀ (v1 w1 : Nat → Nat → Nat) (c1 d1 : Nat → Nat → Int32) (H1 : Heap) (locs1 : List Loc), XI v1 → MI w1 d1 → ALK v1 c1 (vM w1) (cM d1) → va_P D vwCl (xW a cI cJ cZ v1 c1) H1 → va_P D vwCl (mW bb cI cJ cZ w1 d1) H1 → va_D (fun q : Nat => s.heap.size ≤ q) (xW a cI cJ cZ v1 c1 ++ mW bb cI cJ cZ w1 d1) → va_S (fun q : Nat => s.heap.size ≤ q) s.heap H1 locs1 → W p l e room_1 s m #[Value.ref b] below meth c0 H1 locs1 41 3466 (lw_Z below #[Value.ref b] s) (F0 m 1402 ls []) := by
        intro v1 w1 c1 d1 H1 locs1 g1 g2 g3 g4 g5 g6 g7
        refine lv_iinc (v := nI (i + 6)) (lv' := [(3, .int (nI (i + 6))), (2, .ref (bb 0)), (1, .ref (a 0)), (0, .ref b)]) hx hb dL_law_1402 hl (k := 0) rfl (nI_add i 6) (by decide) rfl (fun ls hl => ?_)
        refine lv_goto (tgt := 18) hx hb dL_law_1405 (by decide) ?_
        exact ih (i + 6) hi6 (by omega) v1 w1 c1 d1 H1 locs1 g1 g2 g3 g4 g5 g6 g7 ls hl
      refine lv_aload_n hx hb dL_law_27 rfl (lv_at hl 3 rfl) ?_
      refine lv_iload_n hx hb dL_law_28 rfl (lv_at hl 0 rfl) ?_
      refine l_sld (i := i) (k := 0) hx hb hX hbl hbA hS (by omega) hL dL_law_29 ?_
      refine lv_bipush (v := nI 63) hx hb dL_law_30 (by decide) ?_
      refine lv_iand hx hb dL_law_32 ?_
      obtain ⟨j, hj, ej⟩ := and63 (xs (i + 0))
      rw [ej]
      have ej2 : (nI j).toInt = (j : Int) := nI_toInt (by omega)
      rcases Nat.lt_or_ge j 36 with hj36 | hj36
      · rcases (show j = 0 ∨ j = 1 ∨ j = 2 ∨ j = 3 ∨ j = 4 ∨ j = 5 ∨ j = 6 ∨ j = 7 ∨ j = 8 ∨ j = 9 ∨ j = 10 ∨ j = 11 ∨ j = 12 ∨ j = 13 ∨ j = 14 ∨ j = 15 ∨ j = 16 ∨ j = 17 ∨ j = 18 ∨ j = 19 ∨ j = 20 ∨ j = 21 ∨ j = 22 ∨ j = 23 ∨ j = 24 ∨ j = 25 ∨ j = 26 ∨ j = 27 ∨ j = 28 ∨ j = 29 ∨ j = 30 ∨ j = 31 ∨ j = 32 ∨ j = 33 ∨ j = 34 ∨ j = 35 by omega) with rfl | rfl | rfl | rfl | rfl | rfl | rfl | rfl | rfl | rfl | rfl | rfl | rfl | rfl | rfl | rfl | rfl | rfl | rfl | rfl | rfl | rfl | rfl | rfl | rfl | rfl | rfl | rfl | rfl | rfl | rfl | rfl | rfl | rfl | rfl | rfl
        · refine lv_tableIn (off := 159) (tgt := 192) hx hb dL_law_33 (by decide) (by decide) (by decide) (by decide) ?_
          exact lc_0 hx hb hml hown htl hX hbl hK hN hi6 hL hI hM hR hP1 hP2 hD hS hl K
        · refine lv_tableIn (off := 212) (tgt := 245) hx hb dL_law_33 (by decide) (by decide) (by decide) (by decide) ?_
          exact lc_1 hx hb hml hown htl hX hbl hK hN hi6 hL hI hM hR hP1 hP2 hD hS hl K
        · refine lv_tableIn (off := 235) (tgt := 268) hx hb dL_law_33 (by decide) (by decide) (by decide) (by decide) ?_
          exact lc_2 hx hb hml hown htl hX hbl hK hN hi6 hL hI hM hR hP1 hP2 hD hS hl K
        · refine lv_tableIn (off := 268) (tgt := 301) hx hb dL_law_33 (by decide) (by decide) (by decide) (by decide) ?_
          exact lc_3 hx hb hml hown htl hX hbl hK hN hi6 hL hI hM hR hP1 hP2 hD hS hl K
        · refine lv_tableIn (off := 311) (tgt := 344) hx hb dL_law_33 (by decide) (by decide) (by decide) (by decide) ?_
          exact lc_4 hx hb hml hown htl hX hbl hK hN hi6 hL hI hM hR hP1 hP2 hD hS hl K
        · refine lv_tableIn (off := 344) (tgt := 377) hx hb dL_law_33 (by decide) (by decide) (by decide) (by decide) ?_
          exact lc_5 hx hb hml hown htl hX hbl hK hN hi6 hL hI hM hR hP1 hP2 hD hS hl K
        · refine lv_tableIn (off := 377) (tgt := 410) hx hb dL_law_33 (by decide) (by decide) (by decide) (by decide) ?_
          exact lc_6 hx hb hml hown htl hX hbl hK hN hi6 hL hI hM hR hP1 hP2 hD hS hl K
        · refine lv_tableIn (off := 400) (tgt := 433) hx hb dL_law_33 (by decide) (by decide) (by decide) (by decide) ?_
          exact lc_7 hx hb hml hown htl hX hbl hK hN hi6 hL hI hM hR hP1 hP2 hD hS hl K
        · refine lv_tableIn (off := 453) (tgt := 486) hx hb dL_law_33 (by decide) (by decide) (by decide) (by decide) ?_
          exact lc_8 hx hb hml hown htl hX hbl hK hN hi6 hL hI hM hR hP1 hP2 hD hS hl K
        · refine lv_tableIn (off := 516) (tgt := 549) hx hb dL_law_33 (by decide) (by decide) (by decide) (by decide) ?_
          exact lc_9 hx hb hml hown htl hX hbl hK hN hi6 hL hI hM hR hP1 hP2 hD hS hl K
        · refine lv_tableIn (off := 569) (tgt := 602) hx hb dL_law_33 (by decide) (by decide) (by decide) (by decide) ?_
          exact lc_10 hx hb hml hown htl hX hbl hK hN hi6 hL hI hM hR hP1 hP2 hD hS hl K
        · refine lv_tableIn (off := 592) (tgt := 625) hx hb dL_law_33 (by decide) (by decide) (by decide) (by decide) ?_
          exact lc_11 hx hb hml hown htl hX hbl hK hN hi6 hL hI hM hR hP1 hP2 hD hS hl K
        · refine lv_tableIn (off := 635) (tgt := 668) hx hb dL_law_33 (by decide) (by decide) (by decide) (by decide) ?_
          exact lc_12 hx hb hml hown htl hX hbl hK hN hi6 hL hI hM hR hP1 hP2 hD hS hl K
        · refine lv_tableIn (off := 658) (tgt := 691) hx hb dL_law_33 (by decide) (by decide) (by decide) (by decide) ?_
          exact lc_13 hx hb hml hown htl hX hbl hK hN hi6 hL hI hM hR hP1 hP2 hD hS hl K
        · refine lv_tableIn (off := 681) (tgt := 714) hx hb dL_law_33 (by decide) (by decide) (by decide) (by decide) ?_
          exact lc_14 hx hb hml hown htl hX hbl hK hN hi6 hL hI hM hR hP1 hP2 hD hS hl K
        · refine lv_tableIn (off := 704) (tgt := 737) hx hb dL_law_33 (by decide) (by decide) (by decide) (by decide) ?_
          exact lc_15 hx hb hml hown htl hX hbl hK hN hi6 hL hI hM hR hP1 hP2 hD hS hl K
        · refine lv_tableIn (off := 727) (tgt := 760) hx hb dL_law_33 (by decide) (by decide) (by decide) (by decide) ?_
          exact lc_16 hx hb hml hown htl hX hbl hK hN hi6 hL hI hM hR hP1 hP2 hD hS hl K
        · refine lv_tableIn (off := 750) (tgt := 783) hx hb dL_law_33 (by decide) (by decide) (by decide) (by decide) ?_
          exact lc_17 hx hb hml hown htl hX hbl hK hN hi6 hL hI hM hR hP1 hP2 hD hS hl K
        · refine lv_tableIn (off := 783) (tgt := 816) hx hb dL_law_33 (by decide) (by decide) (by decide) (by decide) ?_
          exact lc_18 hx hb hml hown htl hX hbl hK hN hi6 hL hI hM hR hP1 hP2 hD hS hl K
        · refine lv_tableIn (off := 806) (tgt := 839) hx hb dL_law_33 (by decide) (by decide) (by decide) (by decide) ?_
          exact lc_19 hx hb hml hown htl hX hbl hK hN hi6 hL hI hM hR hP1 hP2 hD hS hl K
        · refine lv_tableIn (off := 869) (tgt := 902) hx hb dL_law_33 (by decide) (by decide) (by decide) (by decide) ?_
          exact lc_20 hx hb hml hown htl hX hbl hK hN hi6 hL hI hM hR hP1 hP2 hD hS hl K
        · refine lv_tableIn (off := 922) (tgt := 955) hx hb dL_law_33 (by decide) (by decide) (by decide) (by decide) ?_
          exact lc_21 hx hb hml hown htl hX hbl hK hN hi6 hL hI hM hR hP1 hP2 hD hS hl K
        · refine lv_tableIn (off := 955) (tgt := 988) hx hb dL_law_33 (by decide) (by decide) (by decide) (by decide) ?_
          exact lc_22 hx hb hml hown htl hX hbl hK hN hi6 hL hI hM hR hP1 hP2 hD hS hl K
        · refine lv_tableIn (off := 978) (tgt := 1011) hx hb dL_law_33 (by decide) (by decide) (by decide) (by decide) ?_
          exact lc_23 hx hb hml hown htl hX hbl hK hN hi6 hL hI hM hR hP1 hP2 hD hS hl K
        · refine lv_tableIn (off := 991) (tgt := 1024) hx hb dL_law_33 (by decide) (by decide) (by decide) (by decide) ?_
          exact lc_24 hx hb hml hown htl hX hbl hK hN hi6 hL hI hM hR hP1 hP2 hD hS hl K
        · refine lv_tableIn (off := 1025) (tgt := 1058) hx hb dL_law_33 (by decide) (by decide) (by decide) (by decide) ?_
          exact lc_25 hx hb hml hown htl hX hbl hK hN hi6 hL hI hM hR hP1 hP2 hD hS hl K
        · refine lv_tableIn (off := 1068) (tgt := 1101) hx hb dL_law_33 (by decide) (by decide) (by decide) (by decide) ?_
          exact lc_26 hx hb hml hown htl hX hbl hK hN hi6 hL hI hM hR hP1 hP2 hD hS hl K
        · refine lv_tableIn (off := 1091) (tgt := 1124) hx hb dL_law_33 (by decide) (by decide) (by decide) (by decide) ?_
          exact lc_27 hx hb hml hown htl hX hbl hK hN hi6 hL hI hM hR hP1 hP2 hD hS hl K
        · refine lv_tableIn (off := 1134) (tgt := 1167) hx hb dL_law_33 (by decide) (by decide) (by decide) (by decide) ?_
          exact lc_28 hx hb hml hown htl hX hbl hK hN hi6 hL hI hM hR hP1 hP2 hD hS hl K
        · refine lv_tableIn (off := 1178) (tgt := 1211) hx hb dL_law_33 (by decide) (by decide) (by decide) (by decide) ?_
          exact lc_29 hx hb hml hown htl hX hbl hK hN hi6 hL hI hM hR hP1 hP2 hD hS hl K
        · refine lv_tableIn (off := 1241) (tgt := 1274) hx hb dL_law_33 (by decide) (by decide) (by decide) (by decide) ?_
          exact lc_30 hx hb hml hown htl hX hbl hK hN hi6 hL hI hM hR hP1 hP2 hD hS hl K
        · refine lv_tableIn (off := 1264) (tgt := 1297) hx hb dL_law_33 (by decide) (by decide) (by decide) (by decide) ?_
          exact lc_31 hx hb hml hown htl hX hbl hK hN hi6 hL hI hM hR hP1 hP2 hD hS hl K
        · refine lv_tableIn (off := 1287) (tgt := 1320) hx hb dL_law_33 (by decide) (by decide) (by decide) (by decide) ?_
          exact lc_32 hx hb hml hown htl hX hbl hK hN hi6 hL hI hM hR hP1 hP2 hD hS hl K
        · refine lv_tableIn (off := 1320) (tgt := 1353) hx hb dL_law_33 (by decide) (by decide) (by decide) (by decide) ?_
          exact lc_33 hx hb hml hown htl hX hbl hK hN hi6 hL hI hM hR hP1 hP2 hD hS hl K
        · refine lv_tableIn (off := 1333) (tgt := 1366) hx hb dL_law_33 (by decide) (by decide) (by decide) (by decide) ?_
          exact lc_34 hx hb hml hown htl hX hbl hK hN hi6 hL hI hM hR hP1 hP2 hD hS hl K
        · refine lv_tableIn (off := 1346) (tgt := 1379) hx hb dL_law_33 (by decide) (by decide) (by decide) (by decide) ?_
          exact lc_35 hx hb hml hown htl hX hbl hK hN hi6 hL hI hM hR hP1 hP2 hD hS hl K
      · refine lv_tableOut (tgt := 1402) hx hb dL_law_33 (Or.inr (by rw [ej2]; omega)) (by decide) ?_
        exact K v w c d H locs hI hM hR hP1 hP2 hD hS
