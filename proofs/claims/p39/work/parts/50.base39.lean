/-! ===== rows for a law with arrays of its own, and a script ===== -/
theorem p_split {D : va_G} {cl : List vw_C} {W1 W2 : va_W} {H : Heap} (h : va_P D cl (W1 ++ W2) H) : va_P D cl W1 H ∧ va_P D cl W2 H :=
  ⟨fun k q hq => h k q (by rw [List.getElem?_append_left (List.getElem?_eq_some_iff.mp hq).1]; exact hq), fun k q hq => h (W1.length + k) q (by rw [List.getElem?_append_right (Nat.le_add_right _ _), Nat.add_sub_cancel_left]; exact hq)⟩
theorem j_split {A0 : Nat → Prop} {W1 W2 : va_W} (hD : va_D A0 (W1 ++ W2)) : va_D A0 W1 ∧ va_D A0 W2 ∧ ∀ (i j : Nat) (p q : Nat × va_E), W1[i]? = some p → W2[j]? = some q → p.1 ≠ q.1 := by
  have l1 : ∀ {i : Nat} {p : Nat × va_E}, W1[i]? = some p → (W1 ++ W2)[i]? = some p := fun {i p} h => by
    rw [List.getElem?_append_left (List.getElem?_eq_some_iff.mp h).1]; exact h
  have l2 : ∀ {i : Nat} {p : Nat × va_E}, W2[i]? = some p → (W1 ++ W2)[W1.length + i]? = some p := fun {i p} h => by
    rw [List.getElem?_append_right (Nat.le_add_right _ _), Nat.add_sub_cancel_left]; exact h
  refine ⟨⟨fun i j p q h1 h2 e => hD.1 i j p q (l1 h1) (l1 h2) e, fun k q h => hD.2 k q (l1 h)⟩, ⟨fun i j p q h1 h2 e => ?_, fun k q h => hD.2 _ q (l2 h)⟩, fun i j p q h1 h2 e => ?_⟩
  · have := hD.1 _ _ p q (l2 h1) (l2 h2) e; omega
  · have h3 := hD.1 _ _ p q (l1 h1) (l2 h2) e
    have h4 := (List.getElem?_eq_some_iff.mp h1).1
    omega
theorem j_sw {A0 : Nat → Prop} {W1 W2 : va_W} (hD : va_D A0 (W1 ++ W2)) : va_D A0 (W2 ++ W1) := by
  obtain ⟨h1, h2, h3⟩ := j_split hD
  exact h2.app h1 (fun i j p q a b e => h3 j i q p b a e.symm)
theorem j_call {A0 : Nat → Prop} {W1 W2 w1 : va_W} {D : va_G} {H H1 : Heap} (hP2 : va_P D vwCl W2 H) (hD : va_D A0 (W1 ++ W2)) (hk : ∀ q : Nat, q < H.size → ¬ va_A W1 H.size q → H1[q]? = H[q]?) (hF : ∀ q, va_A W1 H.size q → A0 q) (g2 : va_D (va_A W1 H.size) w1) : va_P D vwCl W2 H1 ∧ va_D A0 (w1 ++ W2) := by
  obtain ⟨h1, h2, h3⟩ := j_split hD
  have hn : ∀ (j : Nat) (q : Nat × va_E), W2[j]? = some q → ¬ va_A W1 H.size q.1 := by
    intro j q hq hA
    rcases hA with ⟨k, e, hk2⟩ | hz
    · exact h3 k j (q.1, e) q hk2 hq rfl
    · exact absurd hz (Nat.not_le.mpr (hP2 j q hq).lt)
  refine ⟨hP2.kept (fun k q hq => hk q.1 (hP2 k q hq).lt (hn k q hq)), (g2.weaken (fun k q hq hA => hF q.1 hA)).app h2 (fun i j p q a b e => ?_)⟩
  have := g2.2 i p a
  rw [e] at this
  exact hn j q b this
/-- the script stands, outside what may be written -/
def sX (b L : Nat) (xs : Nat → Int32) (A : Nat → Prop) (U : State) : Prop := va_X b L xs U U.heap ∧ b < U.heap.size ∧ ¬ A b
abbrev sI (l : Launch) (y : MethodName) (wl : List Cond) (fr lo : Nat) (av : List Value) (D : va_G) (tys : List (ClassId × FieldType)) (A : Nat → Prop) (w0 : va_W) (b L : Nat) (xs : Nat → Int32) {S : Type} (wf : S → va_W) (post : Int32 → S → Prop) : Prop :=
  Met l y wl { frames := fr, cells := 0, slots := 0, locals := lo } (va_Pc av (fun U => wB D tys A w0 U ∧ sX b L xs A U)) (va_Qi post (fun u => wB D tys A (wf u)) A) 0 0 A
theorem sB_blind {D : va_G} {tys : List (ClassId × FieldType)} {A : Nat → Prop} {ws : va_W} {b L : Nat} {xs : Nat → Int32} (av : List Value) : FrameBlind (va_Pc av (fun U => wB D tys A ws U ∧ sX b L xs A U)) := fun a U g mk q => by
  obtain ⟨q0, q1, q2, q3, q4⟩ := q
  exact ⟨q0, (wB_blind av a U g mk ⟨q0, q1⟩).2, va_X.moved (u := U) (U := U.calling g mk a) (Vm.Alike.refl U.vm) q2, q3, q4⟩
theorem s_bI {l : Launch} {y : MethodName} {wl : List Cond} {fr lo : Nat} {av : List Value} {D : va_G} {tys : List (ClassId × FieldType)} {A : Nat → Prop} {w0 : va_W} {b L : Nat} {xs : Nat → Int32} {S : Type} {wf : S → va_W} {post : Int32 → S → Prop} (cc : ByteArray) (maxL : Nat) (ret : FieldType) {wl' : List Cond}
    (hy : plainName y.cls = true) (hw : wl = Cond.code y cc maxL (some ret) :: wl') (hlen : (lg_sl av).length ≤ maxL) (hret : ret = .int ∨ ret = .boolean)
    (body : ∀ (p : Program) (e : Env) (s : State) (m : MethodId) (args : Array Value) (below : List Frame) (meth : Method) (c : Code) (ls : Array Slot) (Q : State → Prop), p.tables.exec = Jvm.exec → c.code = cc → c.maxLocals = maxL → (∀ w ∈ wl, w.before args s = true) → s.vm.findClass y.cls = some m.cls → va_K D vwCl tys s → gN s → (∀ q : Nat, s.heap.size ≤ q → A q) →
      (∀ (r : Int32) (u : S) (H1 : Heap) (locs1 : List Loc) (pc : Nat) (ls1 : Array Slot), decode cc pc = .ok (.ireturn, 1) → narrow ret (.int r) = .int r → post r u → va_P D vwCl (wf u) H1 → va_D A (wf u) → va_S A s.heap H1 locs1 → W p l e { frames := fr, cells := 0, slots := 0, locals := lo } s m args below meth c H1 locs1 0 0 Q (F0 m pc ls1 [.int r])) →
      va_X b L xs s s.heap → b < s.heap.size → ¬ A b → va_P D vwCl w0 s.heap → va_D A w0 → va_S A s.heap s.heap [] → lv_has ls maxL (lv_args 0 av) → W p l e { frames := fr, cells := 0, slots := 0, locals := lo } s m args below meth c s.heap [] 0 0 Q (F0 m 0 ls [])) :
    sI l y wl fr lo av D tys A w0 b L xs wf post := by
  refine Met.ofW (cc := cc) (maxL := maxL) (ret := some ret) hy hw ?_
  intro p e s m args below meth c s₁ B hml hv
  obtain ⟨rfl, ⟨hP, hK, hD, hA, hN⟩, hX, hbl, hbA⟩ := hv
  have hr := B.returns
  have hlocks := B.notSynchronized
  have hl := lv_entry av (n := maxL) hlen
  rw [lg_entry_eq]
  refine body p e s m av.toArray below meth c _ _ B.exec B.bytes hml (atoms_spec (ws := wl) B.pre) (findClass_of_methodNamed B.named) hK hN hA ?_ hX hbl hbA hP hD va_S.rf hl
  intro r u H1 locs1 pc ls1 hdg hn hp hP1 hD1 hS1
  exact W.zret B.exec B.bytes hr hn (fun t ht hW => ⟨⟨r, u, rfl, hp, by rw [ht]; exact hP1, va_K.moved hW.alike hK, hD1, fun q hq => hA q (Nat.le_trans hS1.1 (by rw [← ht]; exact hq)), gN_warm hW hN⟩, hS1.F ht⟩) hS1.2.2 hdg hlocks
section GLAW
variable {p : Program} {l : Launch} {e : Env} {R : Room} {s : State} {m : MethodId} {args : Array Value} {below : List Frame} {meth : Method} {c : Code} {H : Heap} {locs : List Loc} {cells slots : Nat} {Q : State → Prop}
variable {cc : ByteArray} {pc : Nat} {ls : Array Slot} {rest : List Value} {D : va_G} {tys : List (ClassId × FieldType)} {A0 : Nat → Prop} {W1 W2 Wf : va_W} {b0 : Nat}
variable {y : MethodName} {wl wl' : List Cond} {fr lo maxL idx ci nL : Nat} {As st0 : List Value} {bytes : ByteArray} {ret : Option FieldType} {own : String} {Ts : List Cond} {fs : List Value} {qc : vw_C}
theorem l_ci {S : Type} {wf : S → va_W} {post : Int32 → S → Prop} (hx : p.tables.exec = Jvm.exec) (hb : c.code = cc) (hml : c.maxLocals = nL) (hown : s.vm.findClass own = some m.cls) (hts : ∀ w ∈ Ts, w.before args s = true)
    (hM : mI l y wl fr lo (.ref b0 :: As) D tys (va_A W1 H.size) W1 wf post) (n : Nat) (hT : GoodIn Ts (wsV own idx y.cls y wl)) (hw : wl = Cond.code y bytes maxL ret :: wl')
    (hd : y.cls ≠ "java/lang/invoke/MethodHandle" ∧ y.cls ≠ "java/lang/invoke/VarHandle" ∧ (parseMethodDescriptor y.desc).map (fun d => d.parameters.length) = some n) (hR : fr + 1 ≤ R.frames ∧ 8 + (maxL + 11) + lo ≤ R.locals)
    (hK : va_K D vwCl tys s) (hN : gN s) (hP1 : va_P D vwCl W1 H) (hP2 : va_P D vwCl W2 H) (hD : va_D A0 (W1 ++ W2)) (hS : va_S A0 s.heap H locs) (hA : ∀ q : Nat, s.heap.size ≤ q → A0 q) (q0 ci : Nat) (hq : W1[q0]? = some (b0, .inr (ci, fs))) (hcl : vwCl[ci]? = some qc) (hqc : qc.1 = y.cls)
    (hn : As.length = n) (hsz : ls.size = nL) (hst : st0 = As.reverse ++ .ref b0 :: rest) (hW : (rest.map fun v => v.category).sum ≤ 8) (hdg : decode cc pc = .ok (.invokevirtual idx, 3)) (hf : cells + 0 ≤ R.cells ∧ slots + 0 ≤ R.slots)
    (kk : ∀ (r : Int32) (u : S) (H1 : Heap) (locs1 : List Loc), post r u → va_P D vwCl (wf u) H1 → va_P D vwCl W2 H1 → va_D A0 (wf u ++ W2) → va_S A0 s.heap H1 locs1 → W p l e R s m args below meth c H1 locs1 cells slots Q (F0 m (pc + 3) ls (.int r :: rest))) :
    W p l e R s m args below meth c H locs cells slots Q (F0 m pc ls st0) := by
  subst hst
  obtain ⟨hD1, hD2, hx12⟩ := j_split hD
  have hF : ∀ q, va_A W1 H.size q → A0 q := by
    intro q h
    rcases h with ⟨k, e, h⟩ | h
    · exact hD1.2 k _ h
    · exact hA q (Nat.le_trans hS.1 h)
  refine va_calli (va_runV (S := ⟨hx, hb, hml, hown, hts⟩) hM (cwV n hts hT hw rfl rfl ⟨rfl, hd⟩ hR) ⟨wB_blind _, ?_, wB_pre hK hN hP1 hD1.self (fun q h => Or.inr h) _⟩ rfl hn hsz rfl (lv_room hW) hdg hf) hS (fun q _ h => hF q h) hF (fun r u t H1 locs1 ht hvm hw hB hz hk hS1 => ?_)
  · rw [← hqc]; exact va_recv hK hP1 hcl hq
  · obtain ⟨h1, h2, h3, h4, h5⟩ := hB
    rw [ht] at h1
    obtain ⟨j1, j2⟩ := j_call hP2 hD hk hF h3
    exact kk r u H1 locs1 hw h1 j1 j2 hS1
theorem l_cl {S : Type} {wf : S → va_W} {post : Int64 → S → Prop} (hx : p.tables.exec = Jvm.exec) (hb : c.code = cc) (hml : c.maxLocals = nL) (hown : s.vm.findClass own = some m.cls) (hts : ∀ w ∈ Ts, w.before args s = true)
    (hM : mJ l y wl fr lo (.ref b0 :: As) D tys (va_A W1 H.size) W1 wf post) (n : Nat) (hT : GoodIn Ts (wsV own idx y.cls y wl)) (hw : wl = Cond.code y bytes maxL ret :: wl')
    (hd : y.cls ≠ "java/lang/invoke/MethodHandle" ∧ y.cls ≠ "java/lang/invoke/VarHandle" ∧ (parseMethodDescriptor y.desc).map (fun d => d.parameters.length) = some n) (hR : fr + 1 ≤ R.frames ∧ 8 + (maxL + 11) + lo ≤ R.locals)
    (hK : va_K D vwCl tys s) (hN : gN s) (hP1 : va_P D vwCl W1 H) (hP2 : va_P D vwCl W2 H) (hD : va_D A0 (W1 ++ W2)) (hS : va_S A0 s.heap H locs) (hA : ∀ q : Nat, s.heap.size ≤ q → A0 q) (q0 ci : Nat) (hq : W1[q0]? = some (b0, .inr (ci, fs))) (hcl : vwCl[ci]? = some qc) (hqc : qc.1 = y.cls)
    (hn : As.length = n) (hsz : ls.size = nL) (hst : st0 = As.reverse ++ .ref b0 :: rest) (hW : (rest.map fun v => v.category).sum ≤ 8) (hdg : decode cc pc = .ok (.invokevirtual idx, 3)) (hf : cells + 0 ≤ R.cells ∧ slots + 0 ≤ R.slots)
    (kk : ∀ (r : Int64) (u : S) (H1 : Heap) (locs1 : List Loc), post r u → va_P D vwCl (wf u) H1 → va_P D vwCl W2 H1 → va_D A0 (wf u ++ W2) → va_S A0 s.heap H1 locs1 → W p l e R s m args below meth c H1 locs1 cells slots Q (F0 m (pc + 3) ls (.long r :: rest))) :
    W p l e R s m args below meth c H locs cells slots Q (F0 m pc ls st0) := by
  subst hst
  obtain ⟨hD1, hD2, hx12⟩ := j_split hD
  have hF : ∀ q, va_A W1 H.size q → A0 q := by
    intro q h
    rcases h with ⟨k, e, h⟩ | h
    · exact hD1.2 k _ h
    · exact hA q (Nat.le_trans hS.1 h)
  refine va_calll (va_runV (S := ⟨hx, hb, hml, hown, hts⟩) hM (cwV n hts hT hw rfl rfl ⟨rfl, hd⟩ hR) ⟨wB_blind _, ?_, wB_pre hK hN hP1 hD1.self (fun q h => Or.inr h) _⟩ rfl hn hsz rfl (lv_room hW) hdg hf) hS (fun q _ h => hF q h) hF (fun r u t H1 locs1 ht hvm hw hB hz hk hS1 => ?_)
  · rw [← hqc]; exact va_recv hK hP1 hcl hq
  · obtain ⟨h1, h2, h3, h4, h5⟩ := hB
    rw [ht] at h1
    obtain ⟨j1, j2⟩ := j_call hP2 hD hk hF h3
    exact kk r u H1 locs1 hw h1 j1 j2 hS1
theorem l_ciJ {S : Type} {wf : S → va_W} {post : Int32 → S → Prop} (hx : p.tables.exec = Jvm.exec) (hb : c.code = cc) (hml : c.maxLocals = nL) (hown : s.vm.findClass own = some m.cls) (hts : ∀ w ∈ Ts, w.before args s = true)
    (hM : mI l y wl fr lo (.ref b0 :: As) D tys (va_A W1 H.size) W1 wf post) (n : Nat) (hT : GoodIn Ts (wsV own idx y.cls y wl)) (hw : wl = Cond.code y bytes maxL ret :: wl')
    (hd : y.cls ≠ "java/lang/invoke/MethodHandle" ∧ y.cls ≠ "java/lang/invoke/VarHandle" ∧ (parseMethodDescriptor y.desc).map (fun d => d.parameters.length) = some n) (hR : fr + 1 ≤ R.frames ∧ 8 + (maxL + 11) + lo ≤ R.locals)
    (hK : va_K D vwCl tys s) (hN : gN s) (hP : va_P D vwCl (W1 ++ W2) H) (hD : va_D A0 (W1 ++ W2)) (hS : va_S A0 s.heap H locs) (hA : ∀ q : Nat, s.heap.size ≤ q → A0 q) (q0 ci : Nat) (hq : W1[q0]? = some (b0, .inr (ci, fs))) (hcl : vwCl[ci]? = some qc) (hqc : qc.1 = y.cls)
    (hn : As.length = n) (hsz : ls.size = nL) (hst : st0 = As.reverse ++ .ref b0 :: rest) (hW : (rest.map fun v => v.category).sum ≤ 8) (hdg : decode cc pc = .ok (.invokevirtual idx, 3)) (hf : cells + 0 ≤ R.cells ∧ slots + 0 ≤ R.slots)
    (kk : ∀ (r : Int32) (u : S) (H1 : Heap) (locs1 : List Loc), post r u → va_P D vwCl (wf u ++ W2) H1 → va_D A0 (wf u ++ W2) → va_S A0 s.heap H1 locs1 → W p l e R s m args below meth c H1 locs1 cells slots Q (F0 m (pc + 3) ls (.int r :: rest))) :
    W p l e R s m args below meth c H locs cells slots Q (F0 m pc ls st0) :=
  l_ci hx hb hml hown hts hM n hT hw hd hR hK hN (p_split hP).1 (p_split hP).2 hD hS hA q0 ci hq hcl hqc hn hsz hst hW hdg hf (fun r u H1 locs1 h1 h2 h3 h4 h5 => kk r u H1 locs1 h1 (h2.app h3) h4 h5)
theorem l_clJ {S : Type} {wf : S → va_W} {post : Int64 → S → Prop} (hx : p.tables.exec = Jvm.exec) (hb : c.code = cc) (hml : c.maxLocals = nL) (hown : s.vm.findClass own = some m.cls) (hts : ∀ w ∈ Ts, w.before args s = true)
    (hM : mJ l y wl fr lo (.ref b0 :: As) D tys (va_A W1 H.size) W1 wf post) (n : Nat) (hT : GoodIn Ts (wsV own idx y.cls y wl)) (hw : wl = Cond.code y bytes maxL ret :: wl')
    (hd : y.cls ≠ "java/lang/invoke/MethodHandle" ∧ y.cls ≠ "java/lang/invoke/VarHandle" ∧ (parseMethodDescriptor y.desc).map (fun d => d.parameters.length) = some n) (hR : fr + 1 ≤ R.frames ∧ 8 + (maxL + 11) + lo ≤ R.locals)
    (hK : va_K D vwCl tys s) (hN : gN s) (hP : va_P D vwCl (W1 ++ W2) H) (hD : va_D A0 (W1 ++ W2)) (hS : va_S A0 s.heap H locs) (hA : ∀ q : Nat, s.heap.size ≤ q → A0 q) (q0 ci : Nat) (hq : W1[q0]? = some (b0, .inr (ci, fs))) (hcl : vwCl[ci]? = some qc) (hqc : qc.1 = y.cls)
    (hn : As.length = n) (hsz : ls.size = nL) (hst : st0 = As.reverse ++ .ref b0 :: rest) (hW : (rest.map fun v => v.category).sum ≤ 8) (hdg : decode cc pc = .ok (.invokevirtual idx, 3)) (hf : cells + 0 ≤ R.cells ∧ slots + 0 ≤ R.slots)
    (kk : ∀ (r : Int64) (u : S) (H1 : Heap) (locs1 : List Loc), post r u → va_P D vwCl (wf u ++ W2) H1 → va_D A0 (wf u ++ W2) → va_S A0 s.heap H1 locs1 → W p l e R s m args below meth c H1 locs1 cells slots Q (F0 m (pc + 3) ls (.long r :: rest))) :
    W p l e R s m args below meth c H locs cells slots Q (F0 m pc ls st0) :=
  l_cl hx hb hml hown hts hM n hT hw hd hR hK hN (p_split hP).1 (p_split hP).2 hD hS hA q0 ci hq hcl hqc hn hsz hst hW hdg hf (fun r u H1 locs1 h1 h2 h3 h4 h5 => kk r u H1 locs1 h1 (h2.app h3) h4 h5)
/-- a static call that takes the script -/
theorem s_cSi {S : Type} {wf : S → va_W} {post : Int32 → S → Prop} {b L : Nat} {xs : Nat → Int32} (hx : p.tables.exec = Jvm.exec) (hb : c.code = cc) (hml : c.maxLocals = nL) (hown : s.vm.findClass own = some m.cls) (hts : ∀ w ∈ Ts, w.before args s = true)
    (hM : sI l y wl fr lo As D tys A0 W1 b L xs wf post) (n : Nat) (hT : GoodIn Ts (va_wsS own idx y wl)) (hw : wl = Cond.code y bytes maxL ret :: wl')
    (hd : y.cls ≠ "java/lang/invoke/MethodHandle" ∧ y.cls ≠ "java/lang/invoke/VarHandle" ∧ (parseMethodDescriptor y.desc).map (fun d => d.parameters.length) = some n) (hR : fr + 1 ≤ R.frames ∧ 8 + (maxL + 11) + lo ≤ R.locals)
    (hK : va_K D vwCl tys s) (hN : gN s) (hX : va_X b L xs s s.heap) (hbl : b < s.heap.size) (hbA : ¬ A0 b) (hP : va_P D vwCl W1 H) (hD : va_D A0 W1) (hS : va_S A0 s.heap H locs) (hA : ∀ q : Nat, s.heap.size ≤ q → A0 q)
    (hn : As.length = n) (hsz : ls.size = nL) (hst : st0 = As.reverse ++ rest) (hW : (rest.map fun v => v.category).sum ≤ 8) (hdg : decode cc pc = .ok (.invokestatic idx, 3)) (hf : cells + 0 ≤ R.cells ∧ slots + 0 ≤ R.slots)
    (kk : ∀ (r : Int32) (u : S) (H1 : Heap) (locs1 : List Loc), post r u → va_P D vwCl (wf u) H1 → va_D A0 (wf u) → va_S A0 s.heap H1 locs1 → W p l e R s m args below meth c H1 locs1 cells slots Q (F0 m (pc + 3) ls (.int r :: rest))) :
    W p l e R s m args below meth c H locs cells slots Q (F0 m pc ls st0) := by
  subst hst
  have hA1 : ∀ q : Nat, H.size ≤ q → A0 q := fun q h => hA q (Nat.le_trans hS.1 h)
  refine va_calli (va_runS (S := ⟨hx, hb, hml, hown, hts⟩) hM (va_cwS n hts hT hw rfl rfl hd hR) ⟨sB_blind _, fun U hU hW => ⟨rfl, (wB_pre hK hN hP hD hA1 As U hU hW).2, (by rw [hU]; exact (hX.kept (hS.2.1 b hbl hbA)).moved hW.alike), (by rw [hU]; exact Nat.lt_of_lt_of_le hbl hS.1), hbA⟩⟩ rfl hn hsz rfl (lv_room hW) hdg hf) hS (fun _ _ h => h) (fun _ h => h) (fun r u t H1 locs1 ht hvm hw hB _ _ hS1 => ?_)
  obtain ⟨h1, h2, h3, h4, h5⟩ := hB
  rw [ht] at h1
  exact kk r u H1 locs1 hw h1 h3 hS1
/-- a static call that reads some of the cells -/
theorem l_pSi {post : Int32 → Unit → Prop} (hx : p.tables.exec = Jvm.exec) (hb : c.code = cc) (hml : c.maxLocals = nL) (hown : s.vm.findClass own = some m.cls) (hts : ∀ w ∈ Ts, w.before args s = true)
    (hM : mI l y wl fr lo As D tys (va_A W1 H.size) W1 (fun _ : Unit => W1) post) (n : Nat) (hT : GoodIn Ts (va_wsS own idx y wl)) (hw : wl = Cond.code y bytes maxL ret :: wl')
    (hd : y.cls ≠ "java/lang/invoke/MethodHandle" ∧ y.cls ≠ "java/lang/invoke/VarHandle" ∧ (parseMethodDescriptor y.desc).map (fun d => d.parameters.length) = some n) (hR : fr + 1 ≤ R.frames ∧ 8 + (maxL + 11) + lo ≤ R.locals)
    (hK : va_K D vwCl tys s) (hN : gN s) (hP : va_P D vwCl Wf H) (hD : va_D A0 Wf) (hS : va_S A0 s.heap H locs) (hA : ∀ q : Nat, s.heap.size ≤ q → A0 q) (ps : List Nat) (hnd : va_nd ps = true) (hps : ps.map (fun i => Wf[i]?) = W1.map some) (hps2 : ps.filterMap (fun i => Wf[i]?) = W1)
    (hn : As.length = n) (hsz : ls.size = nL) (hst : st0 = As.reverse ++ rest) (hW : (rest.map fun v => v.category).sum ≤ 8) (hdg : decode cc pc = .ok (.invokestatic idx, 3)) (hf : cells + 0 ≤ R.cells ∧ slots + 0 ≤ R.slots)
    (kk : ∀ (r : Int32) (H1 : Heap) (locs1 : List Loc), post r () → va_P D vwCl Wf H1 → va_S A0 s.heap H1 locs1 → W p l e R s m args below meth c H1 locs1 cells slots Q (F0 m (pc + 3) ls (.int r :: rest))) :
    W p l e R s m args below meth c H locs cells slots Q (F0 m pc ls st0) := by
  subst hst
  have hPc := hP.sub ps hps2
  have hDc := hD.sub ps hnd hps
  have hF := va_free hD hS hA ps hps
  refine va_calli (va_runS (S := ⟨hx, hb, hml, hown, hts⟩) hM (va_cwS n hts hT hw rfl rfl hd hR) ⟨wB_blind _, wB_pre hK hN hPc hDc.self (fun q h => Or.inr h) _⟩ rfl hn hsz rfl (lv_room hW) hdg hf) hS (fun q _ h => hF q h) hF (fun r u t H1 locs1 ht hvm hw hB hz hk hS1 => ?_)
  obtain ⟨h1, h2, h3, h4, h5⟩ := hB
  rw [ht] at h1
  refine kk r H1 locs1 hw (fun k q hq => ?_) hS1
  by_cases hin : va_A W1 H.size q.1
  · rcases hin with ⟨k', e', h'⟩ | hz2
    · have h6 : (ps.map (fun i => Wf[i]?))[k']? = some (some (q.1, e')) := by rw [hps, List.getElem?_map, h']; rfl
      rw [List.getElem?_map] at h6
      cases hi : ps[k']? with
      | none => rw [hi] at h6; cases h6
      | some i =>
        rw [hi] at h6
        have h7 : Wf[i]? = some (q.1, e') := Option.some.inj h6
        have h8 := hD.1 i k _ _ h7 hq rfl
        subst h8
        have h9 : (q.1, e') = q := Option.some.inj (h7.symm.trans hq)
        rw [← h9]
        exact h1 k' _ h'
    · exact absurd hz2 (Nat.not_le.mpr (hP k q hq).lt)
  · exact (hP k q hq).kept (hk q.1 (hP k q hq).lt hin)
end GLAW
/-! ===== the law's world ===== -/
/-- the lock alone and the array of figures; with both plans -/
abbrev gA (a : Nat → Nat) (cI : ClassId) (w : Nat → Nat → Nat) : va_W := [(a 30, .inl (cI, 53, .inl (fun j => nI (w 30 j))))]
abbrev lA3 (a : Nat → Nat) (cI : ClassId) (w : Nat → Nat → Nat) : va_W := [(a 30, .inl (cI, 53, .inl (fun j => nI (w 30 j)))), (a 31, .inl (cI, 24, .inl (fun j => nI (w 31 j)))), (a 32, .inl (cI, 24, .inl (fun j => nI (w 32 j))))]
abbrev pW (a : Nat → Nat) (cI cJ cZ : ClassId) (v : Nat → Nat → Nat) (c : Nat → Nat → Int32) (w : Nat → Nat → Nat) : va_W := xW a cI cJ cZ v c ++ gA a cI w
abbrev jW (a : Nat → Nat) (cI cJ cZ : ClassId) (v : Nat → Nat → Nat) (c : Nat → Nat → Int32) (w : Nat → Nat → Nat) : va_W := xW a cI cJ cZ v c ++ lA3 a cI w
/-- what felt and opened read: the array of figures (0), a plan (1) -/
def lfW (a : Nat → Nat) (cI cJ cZ : ClassId) (v : Nat → Nat → Nat) (c : Nat → Nat → Int32) : va_W := [(a 0, .inl (cI, 53, .inl (fun j => nI (v 0 j)))), (a 1, .inl (cI, 24, .inl (fun j => nI (v 1 j))))]
abbrev f2 (x y : Nat) : Nat → Nat := fun k => if k = 0 then x else y
abbrev v2 (x y : Nat → Nat) : Nat → Nat → Nat := fun k => if k = 0 then x else y
