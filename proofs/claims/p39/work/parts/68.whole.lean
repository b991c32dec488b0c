set_option maxHeartbeats 4000000 in
set_option maxRecDepth 100000 in
/-- YOUR PART: from the entry, for every script of at most 260 ints, the law comes to its end with true ('hflags': the launch's flags, for a law that throws: no stack traces) -/
theorem whole_start {p : Program} {e : Env} {s : State} {m : MethodId} {below : List Frame} {meth : Method} {c : Code} (l : Launch) (hflags : l.flags = flags0) {b L : Nat} {xs : Nat → Int32} (hL : L ≤ 260) (C0 : lw_At p s m meth c b L xs) : W p l e room_1 s m #[Value.ref b] below meth c s.heap [] 0 0 (lw_Z below #[Value.ref b] s) (entryFrame m ([Value.ref b] : List Value).toArray 19) := by
  obtain ⟨hx, hb0, hr, hml, hown, hts, hX, hbl, hlocks, hgv⟩ := id C0
  have hb : c.code = cL_law := hb0.trans cL_code
  have hA : ∀ q : Nat, s.heap.size ≤ q → (fun q : Nat => s.heap.size ≤ q) q := fun _ h => h
  have hbA : ¬ (fun q : Nat => s.heap.size ≤ q) b := Nat.not_le.mpr hbl
  have hN : gN s := gN_law hts
  have hL2 : L < 2147483648 := by omega
  have htl : ∀ w ∈ wsL_law, w.before #[Value.ref b] s = true := fun w hw => hts w (wsL_law_in w hw)
  obtain ⟨k0, i0, hKn0⟩ := u_known (C := RX0) (T := TX0) (N := 8) (n := 8) hts inX0 (hts (.instantiable RX0 8) (lt_1 _ (List.mem_of_getElem? (i := 79) rfl)))
  obtain ⟨k1, i1, hKn1⟩ := u_known (C := RX1) (T := TX1) (N := 2) (n := 2) hts inX1 (hts (.instantiable RX1 2) (lt_1 _ (List.mem_of_getElem? (i := 134) rfl)))
  obtain ⟨k2, i2, hKn2⟩ := u_known (C := RX2) (T := TX2) (N := 5) (n := 5) hts inX2 (hts (.instantiable RX2 5) (lt_1 _ (List.mem_of_getElem? (i := 47) rfl)))
  obtain ⟨k3, i3, hKn3⟩ := u_known (C := RX3) (T := TX3) (N := 3) (n := 3) hts inX3 (hts (.instantiable RX3 3) (lt_1 _ (List.mem_of_getElem? (i := 21) rfl)))
  obtain ⟨k4, i4, hKn4⟩ := u_known (C := RX4) (T := TX4) (N := 1) (n := 1) hts inX4 (hts (.instantiable RX4 1) (lt_1 _ (List.mem_of_getElem? (i := 41) rfl)))
  obtain ⟨k5, i5, hKn5⟩ := u_known (C := RX5) (T := TX5) (N := 3) (n := 3) hts inX5 (hts (.instantiable RX5 3) (lt_1 _ (List.mem_of_getElem? (i := 87) rfl)))
  obtain ⟨k6, i6, hKn6⟩ := u_known (C := RX6) (T := TX6) (N := 9) (n := 9) hts inX6 (hts (.instantiable RX6 9) (lt_1 _ (List.mem_of_getElem? (i := 13) rfl)))
  obtain ⟨cI, kI, oI, eI1, eI2, eI3⟩ := Cond.arrayClass_spec (hts (.arrayClass .int) (lt_1 _ (List.mem_of_getElem? (i := 39) rfl)))
  obtain ⟨cJ, kJ, oJ, eJ1, eJ2, eJ3⟩ := Cond.arrayClass_spec (hts (.arrayClass .long) (lt_1 _ (List.mem_of_getElem? (i := 132) rfl)))
  obtain ⟨cZ, kZ, oZ, eZ1, eZ2, eZ3⟩ := Cond.arrayClass_spec (hts (.arrayClass .boolean) (lt_1 _ (List.mem_of_getElem? (i := 131) rfl)))
  obtain ⟨D, hKc⟩ : ∃ D : va_G, ∀ (k : Nat) (q : vw_C), vwCl[k]? = some q → u_Kn s q.1 q.2.1 q.2.2 (D.1 k) (D.2 k) := by
    refine ⟨(fun k => match k with | 0 => k0 | 1 => k1 | 2 => k2 | 3 => k3 | 4 => k4 | 5 => k5 | _ => k6, fun k => match k with | 0 => i0 | 1 => i1 | 2 => i2 | 3 => i3 | 4 => i4 | 5 => i5 | _ => i6), ?_⟩
    intro k q hq
    match k, hq with
    | 0, hq => cases hq; exact hKn0
    | 1, hq => cases hq; exact hKn1
    | 2, hq => cases hq; exact hKn2
    | 3, hq => cases hq; exact hKn3
    | 4, hq => cases hq; exact hKn4
    | 5, hq => cases hq; exact hKn5
    | 6, hq => cases hq; exact hKn6
    | k + 7, hq => exact absurd hq (by simp [vwCl])
  have hK : va_K D vwCl (xT cI cJ cZ) s := by
    refine ⟨hKc, fun k q hq => ?_⟩
    match k, hq with
    | 0, hq => cases hq; exact ⟨fun n z => ⟨(fun q hq => by cases hq), kI, eI2, oI, eI3⟩, eI1⟩
    | 1, hq => cases hq; exact ⟨fun n z => ⟨(fun q hq => by cases hq), kJ, eJ2, oJ, eJ3⟩, eJ1⟩
    | 2, hq => cases hq; exact ⟨fun n z => ⟨(fun q hq => by cases hq), kZ, eZ2, oZ, eZ3⟩, eZ1⟩
    | k + 3, hq => exact absurd hq (by simp)
  have hS : va_S (fun q : Nat => s.heap.size ≤ q) s.heap s.heap [] := va_S.rf
  have hP : va_P D vwCl [] s.heap := fun k q h => by simp at h
  have hD : va_D (fun q : Nat => s.heap.size ≤ q) [] := ⟨fun i j p q h => by simp at h, fun k q h => by simp at h⟩
  have hl := lv_entry ([.ref b]) (n := 19) (Nat.le_of_ble_eq_true rfl)
  rw [lg_entry_eq]
  generalize (lg_sl ([.ref b]) ++ List.replicate (19 - (lg_sl ([.ref b])).length) Slot.unset).toArray = ls at hl ⊢
  have hl : lv_has ls 19 [(0, .ref b)] := hl
  refine va_new (ci := 6) (fs := [.null, .null, .null, .null, .null, .null, .null, .int 0, .int (nI 0)]) (C := RX6) (T := TX6) (N := 9) hx hb hts inX6 tyX6 tyX6_ok hown (hts (.classLink RL 20 RX6) (lt_1 _ (List.mem_of_getElem? (i := 12) rfl))) (hts (.instantiable RX6 9) (lt_1 _ (List.mem_of_getElem? (i := 13) rfl))) (hts (.initialized RX6) (lt_1 _ (List.mem_of_getElem? (i := 1) rfl))) hK hP hD hS hA rfl (fun j hj => by rcases (show j = 0 ∨ j = 1 ∨ j = 2 ∨ j = 3 ∨ j = 4 ∨ j = 5 ∨ j = 6 ∨ j = 7 ∨ j = 8 by omega) with rfl | rfl | rfl | rfl | rfl | rfl | rfl | rfl | rfl <;> rfl) (Nat.le_of_ble_eq_true rfl) (Nat.le_of_ble_eq_true rfl) dL_law_0 (fun h0 H hP hD hS => ?_)
  have hP : va_P D vwCl [(h0, .inr (6, [.null, .null, .null, .null, .null, .null, .null, .int 0, .int (nI 0)]))] H := hP
  have hD : va_D (fun q : Nat => s.heap.size ≤ q) [(h0, .inr (6, [.null, .null, .null, .null, .null, .null, .null, .int 0, .int (nI 0)]))] := hD
  refine W.widen (k := 1) (n := 9) (Nat.le_of_ble_eq_true rfl) (Nat.le_of_ble_eq_true rfl) ?_
  refine lv_dup hx hb dL_law_3 rfl ?_
  have hPc := hP.sub (ws' := [(h0, .inr (6, [.null, .null, .null, .null, .null, .null, .null, .int 0, .int (nI 0)]))]) [0] rfl
  have hDc := hD.sub (ws' := [(h0, .inr (6, [.null, .null, .null, .null, .null, .null, .null, .int 0, .int (nI 0)]))]) [0] (by decide) rfl
  have hFc := va_free (wc := [(h0, .inr (6, [.null, .null, .null, .null, .null, .null, .null, .int 0, .int (nI 0)]))]) hD hS hA [0] rfl
  have hDs := (hDc.weaken (B := fun _ => True) (fun _ _ _ _ => trivial)).self (sz := H.size)
  refine va_callv (va_runI (As := []) (rest := [.ref h0]) ⟨hx, hb, hml, hown, hts⟩ (n_X6 l D cI cJ cZ (va_A [(h0, .inr (6, [.null, .null, .null, .null, .null, .null, .null, .int 0, .int (nI 0)]))] H.size) h0) (cwI 0 hts (fun w hw => (gL_law_X6_init w hw).imp (wsL_law_in w) (fun z => z)) rfl rfl rfl (hts (.initialized RX6) (lt_1 _ (List.mem_of_getElem? (i := 1) rfl))) (hts (.methodLink RL 35 yX6_init) (lt_1 _ (List.mem_of_getElem? (i := 14) rfl))) (hts (.instanceMethod yX6_init) (lt_1 _ (List.mem_of_getElem? (i := 15) rfl))) rfl (by decide +kernel) ⟨Nat.le_of_ble_eq_true rfl, Nat.le_of_ble_eq_true rfl⟩) ⟨wB_blind _, wB_pre hK hN hPc hDs (fun q h => Or.inr h) _⟩ rfl rfl hl.1 rfl (lv_room (Nat.le_of_ble_eq_true rfl)) dL_law_4 ⟨Nat.le_of_ble_eq_true rfl, Nat.le_of_ble_eq_true rfl⟩) hS (fun q _ h => hFc q h) hFc (fun z t H1 locs ht hvm hw hB hz1 hk1 hS => ?_)
  obtain ⟨hP1, hK1, hD1, hA1, hN1⟩ := hB
  rw [ht] at hP1
  obtain ⟨hP6, hD6⟩ := va_join (wr := []) (w1 := xW z cI cJ cZ zV zX) hP hD [0] [] rfl rfl (by decide) (by decide) hk1 hFc hP1 hD1
  have hP6 : va_P D vwCl (xW z cI cJ cZ zV zX) H1 := hP6
  have hD6 : va_D (fun q : Nat => s.heap.size ≤ q) (xW z cI cJ cZ zV zX) := hD6
  clear hk1 hP1 hD1 hFc hPc hDc hDs
  generalize H1 = H at hP6 hS ⊢
  refine W.widen (k := 26) (n := 605) (Nat.le_of_ble_eq_true rfl) (Nat.le_of_ble_eq_true rfl) ?_
  obtain ⟨a, ea⟩ : ∃ a : Nat → Nat, a = z := ⟨z, rfl⟩
  rw [← ea] at hP6 hD6 hw
  subst hw
  have hP := hP6
  have hD := hD6
  refine lv_astore_n (lv' := [(1, .ref (a 0)), (0, .ref b)]) hx hb dL_law_7 rfl hl (by decide) rfl (fun ls hl => ?_)
  refine lv_bipush (v := nI 53) hx hb dL_law_8 (by decide) ?_
  refine w_newi (n := 53) (t0 := 0) hx hb (hts (.arrayClass .int) (lt_1 _ (List.mem_of_getElem? (i := 39) rfl))) hK hP hD hS hA rfl (by decide) (Nat.le_of_ble_eq_true rfl) (Nat.le_of_ble_eq_true rfl) dL_law_10 (fun q30 H hP hD hS => ?_)
  have hP : va_P D vwCl (pW (fun k => if k = 30 then q30 else a k) cI cJ cZ zV zX zV) H := hP
  have hD : va_D (fun q : Nat => s.heap.size ≤ q) (pW (fun k => if k = 30 then q30 else a k) cI cJ cZ zV zX zV) := hD
  obtain ⟨a1, ea1⟩ : ∃ a1 : Nat → Nat, a1 = (fun k => if k = 30 then q30 else a k) := ⟨_, rfl⟩
  have h10 : a 0 = a1 0 := by rw [ea1]; rfl
  have h130 : q30 = a1 30 := by rw [ea1]; rfl
  rw [← ea1] at hP hD
  rw [h10] at hl
  rw [h130]
  refine lv_astore_n (lv' := [(2, .ref (a1 30)), (1, .ref (a1 0)), (0, .ref b)]) hx hb dL_law_12 rfl hl (by decide) rfl (fun ls hl => ?_)
  refine lv_aload_n hx hb dL_law_13 rfl (lv_at hl 1 rfl) ?_
  refine lv_aload_n hx hb dL_law_14 rfl (lv_at hl 2 rfl) ?_
  refine lv_iconst (v := nI 0) hx hb dL_law_15 (by decide) ?_
  refine lv_iconst (v := nI 4) hx hb dL_law_16 (by decide) ?_
  refine lv_aload_n hx hb dL_law_17 rfl (lv_at hl 0 rfl) ?_
  refine s_cSi (rest := []) hx hb hml hown htl (k_put l D a1 cI cJ cZ (fun q : Nat => s.heap.size ≤ q) zV zX zV b L xs hL2 XI_z rfl) 5 gL_law_L_put rfl hdL_put ⟨Nat.le_of_ble_eq_true rfl, Nat.le_of_ble_eq_true rfl⟩ hK hN hX hbl hbA hP hD hS hA rfl hl.1 rfl (Nat.le_of_ble_eq_true rfl) dL_law_18 ⟨Nat.le_of_ble_eq_true rfl, Nat.le_of_ble_eq_true rfl⟩ (fun r u H locs hq hP hD hS => ?_)
  obtain ⟨v, c1, w⟩ := u
  obtain ⟨hI, hc3, hT, t, g, er, h5, h80, ew, h37, hgl, S, htk, hs1, hs2⟩ := hq
  subst er
  have ew : w = va_up zV 30 g := ew
  subst ew
  have hP : va_P D vwCl (pW a1 cI cJ cZ v c1 (va_up zV 30 g)) H := hP
  have hD : va_D (fun q : Nat => s.heap.size ≤ q) (pW a1 cI cJ cZ v c1 (va_up zV 30 g)) := hD
  refine lv_istore_n (lv' := [(3, .int (nI t)), (2, .ref (a1 30)), (1, .ref (a1 0)), (0, .ref b)]) hx hb dL_law_21 rfl hl (by decide) rfl (fun ls hl => ?_)
  refine W.widen (k := 27) (n := 658) (Nat.le_of_ble_eq_true rfl) (Nat.le_of_ble_eq_true rfl) ?_
  refine sg_1 (w := va_up zV 30 g) hx hb hml hown htl hK hN hA hX hbl hbA hL2 t S hI hT h5 h80 h37 hgl htk hs1 hs2 hP hD hS (lv_sub hl [3, 2, 1, 0] rfl) ?_
  intro v2 c2 n g1 H locs ls hI hn hgl hgd hAL hc3 hP hD hS hl
  subst hn
  refine sg_2 (w := va_up (va_up zV 30 g) 30 g1) hx hb hml hown htl hK hN hA hX hbl hbA hL2 hI hgl hgd hAL hc3 hP hD hS hl ?_
  intro v3 c3 H locs ls hI hAL hc3 hP hD hS hl
  refine sg_3 (w := va_up (va_up zV 30 g) 30 g1) hx hb hml hown htl hK hN hA hX hbl hbA hL2 hI hgl hgd hAL hc3 hP hD hS hl ?_
  intro v4 c4 rw1 H locs ls hI hAL hc3 hrw hP hD hS hl
  subst hrw
  obtain ⟨w, ew⟩ : ∃ w : Nat → Nat → Nat, w = va_up (va_up zV 30 g) 30 g1 := ⟨_, rfl⟩
  have hgl : GL (w 30) := by rw [ew]; exact hgl
  have hgd : GD (w 30) := by rw [ew]; exact hgd
  rw [← ew] at hAL hP hD hl
  have hl : lv_has ls 19 [(5, .int (nI (w 30 0 ^ w 30 37))), (4, .int (nI (w 30 37))), (2, .ref (a1 30)), (1, .ref (a1 0)), (0, .ref b)] := lv_sub hl [4, 3, 2, 1, 0] rfl
  refine lv_bipush (v := nI 24) hx hb dL_law_208 (by decide) ?_
  refine w_newi (n := 24) (t0 := 0) hx hb (hts (.arrayClass .int) (lt_1 _ (List.mem_of_getElem? (i := 39) rfl))) hK hP hD hS hA rfl (by decide) (Nat.le_of_ble_eq_true rfl) (Nat.le_of_ble_eq_true rfl) dL_law_210 (fun q31 H hP hD hS => ?_)
  refine lv_astore (lv' := [(6, .ref q31), (5, .int (nI (w 30 0 ^ w 30 37))), (4, .int (nI (w 30 37))), (2, .ref (a1 30)), (1, .ref (a1 0)), (0, .ref b)]) hx hb dL_law_212 hl (by decide) rfl (fun ls hl => ?_)
  refine lv_bipush (v := nI 24) hx hb dL_law_214 (by decide) ?_
  refine w_newi (n := 24) (t0 := 0) hx hb (hts (.arrayClass .int) (lt_1 _ (List.mem_of_getElem? (i := 39) rfl))) hK hP hD hS hA rfl (by decide) (Nat.le_of_ble_eq_true rfl) (Nat.le_of_ble_eq_true rfl) dL_law_216 (fun q32 H hP hD hS => ?_)
  refine lv_astore (lv' := [(7, .ref q32), (6, .ref q31), (5, .int (nI (w 30 0 ^ w 30 37))), (4, .int (nI (w 30 37))), (2, .ref (a1 30)), (1, .ref (a1 0)), (0, .ref b)]) hx hb dL_law_218 hl (by decide) rfl (fun ls hl => ?_)
  have hP : va_P D vwCl (jW (fun k => if k = 31 then q31 else if k = 32 then q32 else a1 k) cI cJ cZ v4 c4 (va_up (va_up w 31 (fun _ => 0)) 32 (fun _ => 0))) H := hP
  have hD : va_D (fun q : Nat => s.heap.size ≤ q) (jW (fun k => if k = 31 then q31 else if k = 32 then q32 else a1 k) cI cJ cZ v4 c4 (va_up (va_up w 31 (fun _ => 0)) 32 (fun _ => 0))) := hD
  obtain ⟨a2, ea2⟩ : ∃ a2 : Nat → Nat, a2 = (fun k => if k = 31 then q31 else if k = 32 then q32 else a1 k) := ⟨_, rfl⟩
  have h20 : a1 0 = a2 0 := by rw [ea2]; rfl
  have h230 : a1 30 = a2 30 := by rw [ea2]; rfl
  have h231 : q31 = a2 31 := by rw [ea2]; rfl
  have h232 : q32 = a2 32 := by rw [ea2]; rfl
  rw [← ea2] at hP hD
  rw [h20, h230, h231, h232] at hl
  refine W.widen (k := 29) (n := 706) (Nat.le_of_ble_eq_true rfl) (Nat.le_of_ble_eq_true rfl) ?_
  refine sg_5 (w := w) hx hb hml hown htl hK hN hA hX hbl hbA hL2 (fun _ => 0) (fun _ => 0) hI hgl hgd hAL hc3 (fun _ _ => Nat.le_of_ble_eq_true rfl) (fun _ _ => Nat.le_of_ble_eq_true rfl) hP hD hS (lv_sub hl [6, 5, 4, 3, 2, 1, 0] rfl) ?_
  intro v5 c5 p1 p2 H locs ls hI hAL hc3 hp1 hP hD hS hl
  refine sg_6 (w := va_up w 32 p2) hx hb hml hown htl hK hN hA hX hbl hbA hL2 p1 hI hgl hgd hAL hc3 hp1 hP hD hS hl ?_
  intro v6 c6 p1 H locs ls hI hAL hc3 hp1 hs hP hD hS hl
  refine sg_7 (w := va_up w 32 p2) hx hb hml hown htl hK hN hA hX hbl hbA hL2 p1 hI hgl hgd hAL hc3 hp1 hs hP hD hS hl ?_
  intro v7 c7 p1 H locs ls hI hAL hc3 hs hP hD hS hl
  refine sg_8 (w := va_up w 32 p2) hx hb hml hown htl hK hN hA hX hbl hbA hL2 p1 hI hgl hgd hAL hc3 hs hP hD hS hl ?_
  intro v8 c8 H locs ls hI hP hD hS hl
  refine lv_iconst (v := 1) hx hb dL_law_1645 (by decide) ?_
  refine lv_goto (tgt := 1650) hx hb dL_law_1646 (by decide) ?_
  refine va_forget (fun q hq => hS.2.2 q hq) ?_
  refine W.widen (k := 600000) (n := 7302250) (Nat.le_of_ble_eq_true rfl) (Nat.le_of_ble_eq_true rfl) ?_
  exact lw_ret hx (hb.trans cL_code.symm) hr hlocks (by rw [cL_code]; exact dL_law_1650)
set_option maxHeartbeats 4000000 in
theorem lw_walk (l : Launch) (hflags : l.flags = flags0) (b : Addr) (xs : List Int32) : MetFree l x (headSpec (Jvm.Cond.code x code maxLocals ret :: tables_1) room_1) (lw_P b xs) (fun _ _ _ _ _ => True) lw_Q := by
  refine MetFree.of_bodyS (code := code) (maxLocals := maxLocals) (ret := ret) (by decide) ?_ ?_
  · intro args s m h hn
    obtain ⟨meth, c, h1, h2, h3, h4, h5, h6, -, -⟩ := Cond.code_spec hn (atoms_spec (ws := Jvm.Cond.code x code maxLocals ret :: tables_1) h _ List.mem_cons_self)
    exact ⟨meth, c, h1, h2, h3, h4, h5, h6⟩
  · intro p e s m args below meth c s₁ B hml0 hP _
    obtain ⟨rfl, hx, hbd, hgv⟩ := hP
    obtain ⟨scr, harrAt, hlist, hof, hsmall⟩ := hx
    obtain ⟨hcb, hkn, -, -⟩ := State.arrayAt?_spec harrAt
    have hown : s.vm.findClass R_law = some m.cls := findClass_of_methodNamed B.named
    have hts0 : ∀ c ∈ (Jvm.Cond.code x code maxLocals ret :: tables_1), c.before #[Value.ref b] s = true := atoms_spec (ws := Jvm.Cond.code x code maxLocals ret :: tables_1) B.pre
    have hts : ∀ w ∈ lw_tbl, w.before #[Value.ref b] s = true := k2_hts_sels lw_privs (fun w hw => hts0 w (List.mem_cons_of_mem _ hw)) lw_privs_ok
    have hml : c.maxLocals = 19 := B.maxLocals_eq (hts0 _ List.mem_cons_self)
    have X₀ : Stand p l e room_1 s m #[Value.ref b] below meth c s₁ [] 0 0 := Stand.of_body B
    have hh0 : s₁.heap = s.heap := by rw [B.state]; rfl
    have hsz : scr.slots.size = xs.length := by rw [← Array.length_toList, hlist, List.length_map]
    have hval : ∀ j : Nat, j < xs.length → scr.slots[j]? = some (.int (xs.getD j 0)) := fun j hj => by
      rw [← Array.getElem?_toList, hlist]
      simp [hj]
    have hbl : b < s.heap.size := (Array.getElem?_eq_some_iff.mp hcb).1
    have hX : va_X b xs.length (fun j => xs.getD j 0) s s.heap := ⟨scr, hcb, hof, hkn, hsz, hval⟩
    have K : W p l e room_1 s m #[Value.ref b] below meth c s₁.heap [] 0 0 (lw_Z below #[Value.ref b] s) (entryFrame m ([Value.ref b] : List Value).toArray 19) := by
      rw [hh0]
      exact whole_start l hflags hbd ⟨B.exec, B.bytes, B.returns, hml, hown, hts, hX, hbl, B.notSynchronized, hgv⟩
    obtain ⟨t, a1, o, b1, b2, b3⟩ := K s₁ rfl X₀
    exact ⟨t, o, a1, b1, b2, b3⟩
theorem lw_pre_spec {args : Array Value} {s : State} (h : (Jvm.Cond.and given_1 narrow_1).before args s = true) (hr : rest_1_c.before args s = true) : ∃ (b : Addr) (xs : List Int32), lw_P b xs args s := by
  have hs := flat_of_before _ h
  have hq := flat_of_before _ hr
  have hc : (Cond.count 1).before args s = true := hs _ (by decide +kernel)
  have harr : (Cond.arrayOf (.arg 0) .int).before args s = true := hs _ (by decide +kernel)
  have hle : (Cond.le (.length (.arg 0)) (.int 260)).before args s = true := hs _ (by decide +kernel)
  have hlen : (Cond.isInt (.length (.arg 0))).before args s = true := hq _ (by decide +kernel)
  have hall : (Cond.all (.arg 0) (.isInt (.elem (.arg 0) (.index 0)))).before args s = true := hq _ (by decide +kernel)
  obtain ⟨b, xs, hb, hx⟩ := State.ints_of_pre rfl harr hlen hall
  have hsm : xs.length < 2 ^ 31 := hx.choose_spec.2.2.2
  have hev : (Term.length (.arg 0)).eval args s none [] s = some (.int xs.length.toInt32) := hx.length_eval hb
  have hv := Cond.le_ints hev (show (Term.int 260).eval args s none [] s = some (.int 260) from rfl)
  have hd : xs.length.toInt32 ≤ 260 := by
    simpa [Cond.before, Cond.holds, hv] using hle
  have hN : xs.length ≤ 260 := (Int32.ofNat_le_ofNat hsm (by decide)).mp (show Int32.ofNat xs.length ≤ Int32.ofNat 260 from hd)
  exact ⟨b, xs, Cond.one_arg hc (show args[0]? = some (.ref b) from hb), hx, hN, h⟩
theorem lw_comes (l : Launch) (hflags : l.flags = flags0) : Comes l x (Jvm.Cond.code x code maxLocals ret :: tables_1) room_1 (fun tb e args s => Calls_1 tb e args s ∧ rest_1 tb e args s ∧ Pre_1 tb e args s)
    (fun _ _ args s o t => lw_Q args s o t) := by
  intro p e ha hc hk s m args below hf hfit hheap happ hpre
  obtain ⟨b, xs, hP⟩ := lw_pre_spec hpre.2.2 hpre.2.1
  obtain ⟨k, o, h1, h2, h3, hQ⟩ := lw_walk l hflags b xs p e ha hc hk s m args below hf ((Spec.applies_iff_loose hf).mp happ).1 hP trivial
  exact ⟨k, o, h1, h2, h3, hQ⟩
theorem lw_frame {s t : State} {o : Outcome} {args : Array Value} (h : Framed s o t [] 600000 7302250) :
    Framed s o t (fieldLocs frame_1_writes args s ++ arrayLocs frame_1_arrays args s ++ staticLocs frame_1_statics s) 600000 7302250 := h
theorem lw_limb (L : Cond) (hL : ∀ (args : Array Value) (s t : State), L.after args s (.returned (some (.int 1))) t = true) :
    ArmFor flags0 classFile x code maxLocals ret World_1 tables_1 room_1 Calls_1 rest_1 Pre_1
      (fun tb e a s o t => postC L tb e a s o t ∧ Framed s o t (fieldLocs frame_1_writes a s ++ arrayLocs frame_1_arrays a s ++ staticLocs frame_1_statics s) 600000 7302250) := by
  intro l hflags _ _ p e ha hc hk s m args below hf hfit hheap happ hpre
  obtain ⟨k, o, h1, h2, h3, rfl, hF⟩ := lw_comes l hflags p e ha hc hk s m args below hf hfit hheap happ hpre
  exact ⟨k, _, h1, h2, h3, hL args s _, lw_frame hF⟩
theorem i_vc : Claimed_1_1 ∧ Claimed_1_2 := ⟨lw_limb limb_1_1 (fun args s t => by simp [limb_1_1, Cond.after, Cond.holds, Cond.value]), lw_limb limb_1_2 (fun args s t => Cond.after_iff.mpr (by
  first | (rw [show limb_1_2 = Cond.eq .result (.int 1) from rfl, Cond.eq_ints (x := 1) (y := 1) rfl rfl]; simp; done) | (simp [limb_1_2, Cond.value, Term.eval]; done)))⟩
