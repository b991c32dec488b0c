/-! ===== the law: rows for two worlds ===== -/
set_option maxRecDepth 100000 in
theorem nwl_in : ∀ w ∈ nwl, w ∈ lw_tbl := List.forall_mem_cons.mpr ⟨lt_1 _ (List.mem_of_getElem? (i := 54) rfl), List.forall_mem_cons.mpr ⟨lt_1 _ (List.mem_of_getElem? (i := 55) rfl), List.forall_mem_cons.mpr ⟨lt_1 _ (List.mem_of_getElem? (i := 57) rfl), List.forall_mem_cons.mpr ⟨lt_1 _ (List.mem_of_getElem? (i := 58) rfl), List.forall_mem_cons.mpr ⟨lt_1 _ (List.mem_of_getElem? (i := 59) rfl), List.forall_mem_cons.mpr ⟨lt_1 _ (List.mem_of_getElem? (i := 61) rfl), List.forall_mem_cons.mpr ⟨lt_1 _ (List.mem_of_getElem? (i := 62) rfl), List.forall_mem_cons.mpr ⟨lt_1 _ (List.mem_of_getElem? (i := 77) rfl), List.forall_mem_cons.mpr ⟨lt_1 _ (List.mem_of_getElem? (i := 96) rfl), List.forall_mem_cons.mpr ⟨lt_1 _ (List.mem_of_getElem? (i := 97) rfl), List.forall_mem_cons.mpr ⟨lt_1 _ (List.mem_of_getElem? (i := 108) rfl), List.forall_mem_cons.mpr ⟨lt_1 _ (List.mem_of_getElem? (i := 110) rfl), List.forall_mem_cons.mpr ⟨lt_1 _ (List.mem_of_getElem? (i := 143) rfl), List.forall_mem_cons.mpr ⟨lt_1 _ (List.mem_of_getElem? (i := 43) rfl), List.forall_mem_cons.mpr ⟨lt_1 _ (List.mem_of_getElem? (i := 49) rfl), List.forall_mem_cons.mpr ⟨lt_1 _ (List.mem_of_getElem? (i := 83) rfl), List.forall_mem_cons.mpr ⟨lt_1 _ (List.mem_of_getElem? (i := 88) rfl), List.forall_mem_cons.mpr ⟨lt_1 _ (List.mem_of_getElem? (i := 91) rfl), List.forall_mem_cons.mpr ⟨lt_1 _ (List.mem_of_getElem? (i := 138) rfl), fun _ h => absurd h List.not_mem_nil⟩⟩⟩⟩⟩⟩⟩⟩⟩⟩⟩⟩⟩⟩⟩⟩⟩⟩⟩
theorem gN_law {args : Array Value} {s : State} (hts : ∀ w ∈ lw_tbl, w.before args s = true) : gN s := fun w hw => va_Nw.of (gN_on w hw) (hts w (nwl_in w hw))
theorem j_split {A0 : Nat → Prop} {W1 W2 : va_W} (hD : va_D A0 (W1 ++ W2)) : va_D A0 W1 ∧ va_D A0 W2 ∧ ∀ (i j : Nat) (p q : Nat × va_E), W1[i]? = some p → W2[j]? = some q → p.1 ≠ q.1 := by
  have l1 : ∀ {i : Nat} {p : Nat × va_E}, W1[i]? = some p → (W1 ++ W2)[i]? = some p := fun {i p} h => by
    rw [List.getElem?_append_left (List.getElem?_eq_some_iff.mp h).1]; exact h
  have l2 : ∀ {i : Nat} {p : Nat × va_E}, W2[i]? = some p → (W1 ++ W2)[W1.length + i]? = some p := fun {i p} h => by
    rw [List.getElem?_append_right (Nat.le_add_right _ _), Nat.add_sub_cancel_left]; exact h
  refine ⟨⟨fun i j p q h1 h2 e => hD.1 i j p q (l1 h1) (l1 h2) e, fun k q h => hD.2 k q (l1 h)⟩, ⟨fun i j p q h1 h2 e => ?_, fun k q h => hD.2 _ q (l2 h)⟩, fun i j p q h1 h2 e => ?_⟩
  · have := hD.1 _ _ p q (l2 h1) (l2 h2) e; omega
  · have h3 := hD.1 _ _ p q (l1 h1) (l2 h2) e
    have h4 := (List.getElem?_eq_some_iff.mp h1).1
    omega
theorem j_sw {A0 : Nat → Prop} {W1 W2 : va_W} (hD : va_D A0 (W1 ++ W2)) : va_D A0 (W2 ++ W1) := by
  obtain ⟨h1, h2, h3⟩ := j_split hD
  exact h2.app h1 (fun i j p q a b e => h3 j i q p b a e.symm)
theorem j_call {A0 : Nat → Prop} {W1 W2 w1 : va_W} {D : va_G} {H H1 : Heap} (hP2 : va_P D vwCl W2 H) (hD : va_D A0 (W1 ++ W2)) (hk : ∀ q : Nat, q < H.size → ¬ va_A W1 H.size q → H1[q]? = H[q]?) (hF : ∀ q, va_A W1 H.size q → A0 q) (g2 : va_D (va_A W1 H.size) w1) : va_P D vwCl W2 H1 ∧ va_D A0 (w1 ++ W2) := by
  obtain ⟨h1, h2, h3⟩ := j_split hD
  have hn : ∀ (j : Nat) (q : Nat × va_E), W2[j]? = some q → ¬ va_A W1 H.size q.1 := by
    intro j q hq hA
    rcases hA with ⟨k, e, hk2⟩ | hz
    · exact h3 k j (q.1, e) q hk2 hq rfl
    · exact absurd hz (Nat.not_le.mpr (hP2 j q hq).lt)
  refine ⟨hP2.kept (fun k q hq => hk q.1 (hP2 k q hq).lt (hn k q hq)), (g2.weaken (fun k q hq hA => hF q.1 hA)).app h2 (fun i j p q a b e => ?_)⟩
  have := g2.2 i p a
  rw [e] at this
  exact hn j q b this
section GLAW
variable {p : Program} {l : Launch} {e : Env} {R : Room} {s : State} {m : MethodId} {args : Array Value} {below : List Frame} {meth : Method} {c : Code} {H : Heap} {locs : List Loc} {cells slots : Nat} {Q : State → Prop}
variable {cc : ByteArray} {pc : Nat} {ls : Array Slot} {rest : List Value} {D : va_G} {tys : List (ClassId × FieldType)} {A0 : Nat → Prop} {W1 W2 : va_W} {b0 : Nat}
variable {y : MethodName} {wl wl' : List Cond} {fr lo maxL idx ci nL : Nat} {As st0 : List Value} {bytes : ByteArray} {ret : Option FieldType} {own : String} {Ts : List Cond} {fs : List Value} {qc : vw_C}
theorem l_ci {S : Type} {wf : S → va_W} {post : Int32 → S → Prop} (hx : p.tables.exec = Jvm.exec) (hb : c.code = cc) (hml : c.maxLocals = nL) (hown : s.vm.findClass own = some m.cls) (hts : ∀ w ∈ Ts, w.before args s = true)
    (hM : mI l y wl fr lo (.ref b0 :: As) D tys (va_A W1 H.size) W1 wf post) (n : Nat) (hT : GoodIn Ts (wsV own idx y.cls y wl)) (hw : wl = Cond.code y bytes maxL ret :: wl')
    (hd : y.cls ≠ "java/lang/invoke/MethodHandle" ∧ y.cls ≠ "java/lang/invoke/VarHandle" ∧ (parseMethodDescriptor y.desc).map (fun d => d.parameters.length) = some n) (hR : fr + 1 ≤ R.frames ∧ 8 + (maxL + 11) + lo ≤ R.locals)
    (hK : va_K D vwCl tys s) (hN : gN s) (hP1 : va_P D vwCl W1 H) (hP2 : va_P D vwCl W2 H) (hD : va_D A0 (W1 ++ W2)) (hS : va_S A0 s.heap H locs) (hA : ∀ q : Nat, s.heap.size ≤ q → A0 q) (q0 ci : Nat) (hq : W1[q0]? = some (b0, .inr (ci, fs))) (hcl : vwCl[ci]? = some qc) (hqc : qc.1 = y.cls)
    (hn : As.length = n) (hsz : ls.size = nL) (hst : st0 = As.reverse ++ .ref b0 :: rest) (hW : (rest.map fun v => v.category).sum ≤ 8) (hdg : decode cc pc = .ok (.invokevirtual idx, 3)) (hf : cells + 0 ≤ R.cells ∧ slots + 0 ≤ R.slots)
    (kk : ∀ (r : Int32) (u : S) (H1 : Heap) (locs1 : List Loc), post r u → va_P D vwCl (wf u) H1 → va_P D vwCl W2 H1 → va_D A0 (wf u ++ W2) → va_S A0 s.heap H1 locs1 → W p l e R s m args below meth c H1 locs1 cells slots Q (F0 m (pc + 3) ls (.int r :: rest))) :
    W p l e R s m args below meth c H locs cells slots Q (F0 m pc ls st0) := by
  subst hst
  obtain ⟨hD1, hD2, hx12⟩ := j_split hD
  have hF : ∀ q, va_A W1 H.size q → A0 q := by
    intro q h
    rcases h with ⟨k, e, h⟩ | h
    · exact hD1.2 k _ h
    · exact hA q (Nat.le_trans hS.1 h)
  refine va_calli (va_runV (S := ⟨hx, hb, hml, hown, hts⟩) hM (cwV n hts hT hw rfl rfl ⟨rfl, hd⟩ hR) ⟨wB_blind _, ?_, wB_pre hK hN hP1 hD1.self (fun q h => Or.inr h) _⟩ rfl hn hsz rfl (lv_room hW) hdg hf) hS (fun q _ h => hF q h) hF (fun r u t H1 locs1 ht hvm hw hB hz hk hS1 => ?_)
  · rw [← hqc]; exact va_recv hK hP1 hcl hq
  · obtain ⟨h1, h2, h3, h4, h5⟩ := hB
    rw [ht] at h1
    obtain ⟨j1, j2⟩ := j_call hP2 hD hk hF h3
    exact kk r u H1 locs1 hw h1 j1 j2 hS1
theorem l_cl {S : Type} {wf : S → va_W} {post : Int64 → S → Prop} (hx : p.tables.exec = Jvm.exec) (hb : c.code = cc) (hml : c.maxLocals = nL) (hown : s.vm.findClass own = some m.cls) (hts : ∀ w ∈ Ts, w.before args s = true)
    (hM : mJ l y wl fr lo (.ref b0 :: As) D tys (va_A W1 H.size) W1 wf post) (n : Nat) (hT : GoodIn Ts (wsV own idx y.cls y wl)) (hw : wl = Cond.code y bytes maxL ret :: wl')
    (hd : y.cls ≠ "java/lang/invoke/MethodHandle" ∧ y.cls ≠ "java/lang/invoke/VarHandle" ∧ (parseMethodDescriptor y.desc).map (fun d => d.parameters.length) = some n) (hR : fr + 1 ≤ R.frames ∧ 8 + (maxL + 11) + lo ≤ R.locals)
    (hK : va_K D vwCl tys s) (hN : gN s) (hP1 : va_P D vwCl W1 H) (hP2 : va_P D vwCl W2 H) (hD : va_D A0 (W1 ++ W2)) (hS : va_S A0 s.heap H locs) (hA : ∀ q : Nat, s.heap.size ≤ q → A0 q) (q0 ci : Nat) (hq : W1[q0]? = some (b0, .inr (ci, fs))) (hcl : vwCl[ci]? = some qc) (hqc : qc.1 = y.cls)
    (hn : As.length = n) (hsz : ls.size = nL) (hst : st0 = As.reverse ++ .ref b0 :: rest) (hW : (rest.map fun v => v.category).sum ≤ 8) (hdg : decode cc pc = .ok (.invokevirtual idx, 3)) (hf : cells + 0 ≤ R.cells ∧ slots + 0 ≤ R.slots)
    (kk : ∀ (r : Int64) (u : S) (H1 : Heap) (locs1 : List Loc), post r u → va_P D vwCl (wf u) H1 → va_P D vwCl W2 H1 → va_D A0 (wf u ++ W2) → va_S A0 s.heap H1 locs1 → W p l e R s m args below meth c H1 locs1 cells slots Q (F0 m (pc + 3) ls (.long r :: rest))) :
    W p l e R s m args below meth c H locs cells slots Q (F0 m pc ls st0) := by
  subst hst
  obtain ⟨hD1, hD2, hx12⟩ := j_split hD
  have hF : ∀ q, va_A W1 H.size q → A0 q := by
    intro q h
    rcases h with ⟨k, e, h⟩ | h
    · exact hD1.2 k _ h
    · exact hA q (Nat.le_trans hS.1 h)
  refine va_calll (va_runV (S := ⟨hx, hb, hml, hown, hts⟩) hM (cwV n hts hT hw rfl rfl ⟨rfl, hd⟩ hR) ⟨wB_blind _, ?_, wB_pre hK hN hP1 hD1.self (fun q h => Or.inr h) _⟩ rfl hn hsz rfl (lv_room hW) hdg hf) hS (fun q _ h => hF q h) hF (fun r u t H1 locs1 ht hvm hw hB hz hk hS1 => ?_)
  · rw [← hqc]; exact va_recv hK hP1 hcl hq
  · obtain ⟨h1, h2, h3, h4, h5⟩ := hB
    rw [ht] at h1
    obtain ⟨j1, j2⟩ := j_call hP2 hD hk hF h3
    exact kk r u H1 locs1 hw h1 j1 j2 hS1

theorem l_sld {b L i k : Nat} {xs : Nat → Int32} (hx : p.tables.exec = Jvm.exec) (hb : c.code = cc) (hX : va_X b L xs s s.heap) (hbl : b < s.heap.size) (hbA : ¬ A0 b) (hS : va_S A0 s.heap H locs) (hi : i + k < L) (hL : L ≤ 3072) (hdg : decode cc pc = .ok (.iaload, 1))
    (kk : W p l e R s m args below meth c H locs cells slots Q (F0 m (pc + 1) ls (.int (xs (i + k)) :: rest))) : W p l e R s m args below meth c H locs cells slots Q (F0 m pc ls (.int (nI (i + k)) :: .ref b :: rest)) :=
  va_sld hx hb hX hbl hbA hS (vp_in_nI hi (by omega)) hdg (by rw [n_cl (by omega)]; exact kk)
end GLAW
theorem and63 (x : Int32) : ∃ j, j < 64 ∧ x &&& nI 63 = nI j := by
  obtain ⟨n, hn, rfl⟩ : ∃ n, n < 4294967296 ∧ x = nI n := ⟨x.toBitVec.toNat, x.toBitVec.isLt, Int32.toBitVec_inj.mp (by show _ = BitVec.ofNat 32 _; simp)⟩
  exact ⟨n &&& 63, Nat.lt_of_le_of_lt Nat.and_le_right (by decide), nx_and n 63⟩
theorem XI_z : XI zV := ⟨by decide, by decide, fun d hd => absurd hd (Nat.not_lt_zero _), fun d k hd => absurd hd (Nat.not_lt_zero _), fun b hb => absurd hb (Nat.not_lt_zero _), by decide, fun d hd => absurd hd (Nat.not_lt_zero _), by decide, fun f hf => absurd hf (Nat.not_lt_zero _), fun _ _ => Nat.zero_le _, Or.inl rfl, Or.inl rfl, fun _ _ => Nat.le_of_ble_eq_true rfl⟩
theorem zM_2 : ∀ k, k < 4 → zM 2 k = -9 := by
  intro k hk
  rcases (show k = 0 ∨ k = 1 ∨ k = 2 ∨ k = 3 by omega) with rfl | rfl | rfl | rfl <;> rfl
theorem zX_2 : ∀ k, k < 4 → zX 2 k = -1 := by
  intro k hk
  rcases (show k = 0 ∨ k = 1 ∨ k = 2 ∨ k = 3 by omega) with rfl | rfl | rfl | rfl <;> rfl
theorem MI_z : MI zV zM := ⟨MX_i ⟨by decide, by decide, fun d hd => absurd hd (Nat.not_lt_zero _), fun d k hd => absurd hd (Nat.not_lt_zero _), fun b hb => absurd hb (Nat.not_lt_zero _), by decide, fun d hd => absurd hd (Nat.not_lt_zero _), by decide, fun f hf => absurd hf (Nat.not_lt_zero _), fun _ _ => Nat.zero_le _, Or.inl rfl, Or.inl rfl, fun _ _ => Nat.le_of_ble_eq_true rfl⟩, rfl, fun k hk => Or.inl (zM_2 k hk)⟩
theorem ALK_z : ALK zV zX (vM zV) (cM zM) :=
  ⟨rfl, ⟨rfl, rfl, fun i hi => absurd hi (Nat.not_lt_zero _), fun d hd => absurd hd (Nat.not_lt_zero _), fun d k hd => absurd hd (Nat.not_lt_zero _)⟩, ⟨rfl, fun d hd => absurd hd (Nat.not_lt_zero _)⟩, ⟨rfl, fun d hd => absurd hd (Nat.not_lt_zero _)⟩,
    fun k hk => ⟨(zX_2 k hk).trans (m_no (zM_2 k hk)).symm, fun z => absurd (zX_2 k hk) z⟩, rfl⟩
theorem lcmp_0 {x y : Int64} (h : x = y) : lg_cmp x y = 0 := by
  subst h
  unfold lg_cmp
  simp
