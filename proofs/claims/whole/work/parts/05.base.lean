/-! ===== the base: worlds, contracts, rows over numbers ===== -/
/-- the links of private members of nest mates -/
def nwl : List Cond := [.fieldLinkNest RX0 97 "DancedLock$Floor" "boards" "I" "DancedLock",
  .fieldLinkNest RX6 268 "DancedLock$Floor" "boards" "I" "DancedLock",
  .fieldLinkNest RX6 77 "DancedLock$Floor" "doors" "I" "DancedLock",
  .fieldLinkNest RX4 37 "DancedLock$Floor" "doors" "I" "DancedLock",
  .fieldLinkNest RX0 74 "DancedLock$Floor" "doors" "I" "DancedLock",
  .fieldLinkNest RX6 84 "DancedLock$Floor" "needs" "[I" "DancedLock",
  .fieldLinkNest RX0 103 "DancedLock$Floor" "needs" "[I" "DancedLock",
  .fieldLinkNest RX6 61 "DancedLock$Text" "draft" "LDancedLock$Floor;" "DancedLock",
  .fieldLinkNest RX0 43 "DancedLock$Troupe" "count" "I" "DancedLock",
  .fieldLinkNest RX6 70 "DancedLock$Troupe" "count" "I" "DancedLock",
  .fieldLinkNest RX6 32 "DancedLock$Dance" "floor" "LDancedLock$Floor;" "DancedLock",
  .fieldLinkNest RX6 37 "DancedLock$Dance" "troupe" "LDancedLock$Troupe;" "DancedLock",
  .fieldLinkNest RX6 76 "DancedLock$Families" "count" "I" "DancedLock",
  .methodLinkNest RX6 20 yX4_init "DancedLock",
  .methodLinkNest RX4 9 yX2_init "DancedLock",
  .methodLinkNest RX6 27 yX0_init "DancedLock",
  .methodLinkNest RX0 11 yX2_init "DancedLock",
  .methodLinkNest RX0 20 yX5_init "DancedLock",
  .methodLinkNest RX6 44 yX1_init "DancedLock"]
def gN (U : State) : Prop := ∀ w ∈ nwl, va_Nw w U
theorem gN_on : ∀ w ∈ nwl, w.onTables = true := by decide +kernel
theorem gN_same {u U : State} (h : u.vm = U.vm) (hZ : gN u) : gN U := fun w hw => va_Nw.same (gN_on w hw) h (hZ w hw)
theorem gN_warm {s U : State} (hW : s.WarmedH U.vm) (hZ : gN s) : gN U := by
  intro w hw
  have h := hZ w hw
  simp only [nwl, List.mem_cons, List.not_mem_nil, or_false] at hw
  rcases hw with rfl | rfl | rfl | rfl | rfl | rfl | rfl | rfl | rfl | rfl | rfl | rfl | rfl | rfl | rfl | rfl | rfl | rfl | rfl
  · exact va_Nw.warmF hW h
  · exact va_Nw.warmF hW h
  · exact va_Nw.warmF hW h
  · exact va_Nw.warmF hW h
  · exact va_Nw.warmF hW h
  · exact va_Nw.warmF hW h
  · exact va_Nw.warmF hW h
  · exact va_Nw.warmF hW h
  · exact va_Nw.warmF hW h
  · exact va_Nw.warmF hW h
  · exact va_Nw.warmF hW h
  · exact va_Nw.warmF hW h
  · exact va_Nw.warmF hW h
  · exact va_Nw.warmM hW h
  · exact va_Nw.warmM hW h
  · exact va_Nw.warmM hW h
  · exact va_Nw.warmM hW h
  · exact va_Nw.warmM hW h
  · exact va_Nw.warmM hW h
/-- what holds at a method's start and end: the cells ws of A, and that all new cells are A's -/
def wB (D : va_G) (tys : List (ClassId × FieldType)) (A : Nat → Prop) (ws : va_W) (U : State) : Prop := va_P D vwCl ws U.heap ∧ va_K D vwCl tys U ∧ va_D A ws ∧ (∀ q : Nat, U.heap.size ≤ q → A q) ∧ gN U
abbrev mI (l : Launch) (y : MethodName) (wl : List Cond) (fr lo : Nat) (av : List Value) (D : va_G) (tys : List (ClassId × FieldType)) (A : Nat → Prop) (w0 : va_W) {S : Type} (wf : S → va_W) (post : Int32 → S → Prop) : Prop :=
  Met l y wl { frames := fr, cells := 0, slots := 0, locals := lo } (va_Pc av (wB D tys A w0)) (va_Qi post (fun u => wB D tys A (wf u)) A) 0 0 A
abbrev mJ (l : Launch) (y : MethodName) (wl : List Cond) (fr lo : Nat) (av : List Value) (D : va_G) (tys : List (ClassId × FieldType)) (A : Nat → Prop) (w0 : va_W) {S : Type} (wf : S → va_W) (post : Int64 → S → Prop) : Prop :=
  Met l y wl { frames := fr, cells := 0, slots := 0, locals := lo } (va_Pc av (wB D tys A w0)) (va_Ql post (fun u => wB D tys A (wf u)) A) 0 0 A
abbrev mV (l : Launch) (y : MethodName) (wl : List Cond) (fr lo : Nat) (av : List Value) (D : va_G) (tys : List (ClassId × FieldType)) (A : Nat → Prop) (w0 : va_W) {S : Type} (wf : S → va_W) (post : S → Prop) : Prop :=
  Met l y wl { frames := fr, cells := 0, slots := 0, locals := lo } (va_Pc av (wB D tys A w0)) (va_Qv post (fun u => wB D tys A (wf u)) A) 0 0 A
section GB
variable {p : Program} {l : Launch} {e : Env} {R : Room} {s : State} {m : MethodId} {args : Array Value} {below : List Frame} {meth : Method} {c : Code} {H H0 : Heap} {locs : List Loc} {cells slots : Nat} {Q : State → Prop}
variable {cc : ByteArray} {pc : Nat} {ls : Array Slot} {rest : List Value} {D : va_G} {tys : List (ClassId × FieldType)} {A : Nat → Prop} {ws w0 : va_W} {a : Nat}
theorem wB_blind (av : List Value) : FrameBlind (va_Pc av (wB D tys A ws)) := fun a U g mk q => by
  obtain ⟨q0, q1, q2, q3, q4, q5⟩ := q
  exact ⟨q0, q1, va_K.moved (u := U) (U := U.calling g mk a) (Vm.Alike.refl U.vm) q2, q3, q4, gN_same (u := U) (U := U.calling g mk a) rfl q5⟩
theorem wB_pre (hK : va_K D vwCl tys s) (hN : gN s) (hP : va_P D vwCl ws H) (hD : va_D A ws) (hA : ∀ q : Nat, H.size ≤ q → A q) (av : List Value) : ∀ U : State, U.heap = H → s.WarmedH U.vm → va_Pc av (wB D tys A ws) av.toArray U :=
  fun U hU hW => ⟨rfl, by rw [hU]; exact hP, va_K.moved hW.alike hK, hD, by rw [hU]; exact hA, gN_warm hW hN⟩
/-! calls: a virtual one, a static one; the answer an int, a long, none -/
section CALLS
variable {y : MethodName} {wl wl' : List Cond} {fr lo b maxL idx q0 ci nL : Nat} {As st0 : List Value} {bytes : ByteArray} {ret : Option FieldType} {own : String} {Ts : List Cond} {fs : List Value} {qc : vw_C}
theorem w_cVi {S : Type} {wf : S → va_W} {post : Int32 → S → Prop} (hx : p.tables.exec = Jvm.exec) (hb : c.code = cc) (hml : c.maxLocals = nL) (hown : s.vm.findClass own = some m.cls) (hts : ∀ w ∈ Ts, w.before args s = true)
    (hM : mI l y wl fr lo (.ref b :: As) D tys A ws wf post) (n : Nat) (hT : GoodIn Ts (wsV own idx y.cls y wl)) (hw : wl = Cond.code y bytes maxL ret :: wl')
    (hd : y.cls ≠ "java/lang/invoke/MethodHandle" ∧ y.cls ≠ "java/lang/invoke/VarHandle" ∧ (parseMethodDescriptor y.desc).map (fun d => d.parameters.length) = some n) (hR : fr + 1 ≤ R.frames ∧ 8 + (maxL + 11) + lo ≤ R.locals)
    (hK : va_K D vwCl tys s) (hN : gN s) (hP : va_P D vwCl ws H) (hD : va_D A ws) (hS : va_S A H0 H locs) (hA : ∀ q : Nat, H0.size ≤ q → A q) (q0 ci : Nat) (hq : ws[q0]? = some (b, .inr (ci, fs))) (hcl : vwCl[ci]? = some qc) (hqc : qc.1 = y.cls)
    (hn : As.length = n) (hsz : ls.size = nL) (hst : st0 = As.reverse ++ .ref b :: rest) (hW : (rest.map fun v => v.category).sum ≤ 8) (hdg : decode cc pc = .ok (.invokevirtual idx, 3)) (hf : cells + 0 ≤ R.cells ∧ slots + 0 ≤ R.slots)
    (kk : ∀ (r : Int32) (u : S) (H1 : Heap) (locs1 : List Loc), post r u → va_P D vwCl (wf u) H1 → va_D A (wf u) → va_S A H0 H1 locs1 → W p l e R s m args below meth c H1 locs1 cells slots Q (F0 m (pc + 3) ls (.int r :: rest))) :
    W p l e R s m args below meth c H locs cells slots Q (F0 m pc ls st0) := by
  subst hst
  have hA1 : ∀ q : Nat, H.size ≤ q → A q := fun q h => hA q (Nat.le_trans hS.1 h)
  refine va_calli (va_runV (S := ⟨hx, hb, hml, hown, hts⟩) hM (cwV n hts hT hw rfl rfl ⟨rfl, hd⟩ hR) ⟨wB_blind _, ?_, wB_pre hK hN hP hD hA1 _⟩ rfl hn hsz rfl (lv_room hW) hdg hf) hS (fun _ _ h => h) (fun _ h => h) (fun r u t H1 locs1 ht hvm hw hB _ _ hS1 => ?_)
  · rw [← hqc]; exact va_recv hK hP hcl hq
  · obtain ⟨h1, h2, h3, h4, h5⟩ := hB
    rw [ht] at h1
    exact kk r u H1 locs1 hw h1 h3 hS1
theorem w_cVl {S : Type} {wf : S → va_W} {post : Int64 → S → Prop} (hx : p.tables.exec = Jvm.exec) (hb : c.code = cc) (hml : c.maxLocals = nL) (hown : s.vm.findClass own = some m.cls) (hts : ∀ w ∈ Ts, w.before args s = true)
    (hM : mJ l y wl fr lo (.ref b :: As) D tys A ws wf post) (n : Nat) (hT : GoodIn Ts (wsV own idx y.cls y wl)) (hw : wl = Cond.code y bytes maxL ret :: wl')
    (hd : y.cls ≠ "java/lang/invoke/MethodHandle" ∧ y.cls ≠ "java/lang/invoke/VarHandle" ∧ (parseMethodDescriptor y.desc).map (fun d => d.parameters.length) = some n) (hR : fr + 1 ≤ R.frames ∧ 8 + (maxL + 11) + lo ≤ R.locals)
    (hK : va_K D vwCl tys s) (hN : gN s) (hP : va_P D vwCl ws H) (hD : va_D A ws) (hS : va_S A H0 H locs) (hA : ∀ q : Nat, H0.size ≤ q → A q) (q0 ci : Nat) (hq : ws[q0]? = some (b, .inr (ci, fs))) (hcl : vwCl[ci]? = some qc) (hqc : qc.1 = y.cls)
    (hn : As.length = n) (hsz : ls.size = nL) (hst : st0 = As.reverse ++ .ref b :: rest) (hW : (rest.map fun v => v.category).sum ≤ 8) (hdg : decode cc pc = .ok (.invokevirtual idx, 3)) (hf : cells + 0 ≤ R.cells ∧ slots + 0 ≤ R.slots)
    (kk : ∀ (r : Int64) (u : S) (H1 : Heap) (locs1 : List Loc), post r u → va_P D vwCl (wf u) H1 → va_D A (wf u) → va_S A H0 H1 locs1 → W p l e R s m args below meth c H1 locs1 cells slots Q (F0 m (pc + 3) ls (.long r :: rest))) :
    W p l e R s m args below meth c H locs cells slots Q (F0 m pc ls st0) := by
  subst hst
  have hA1 : ∀ q : Nat, H.size ≤ q → A q := fun q h => hA q (Nat.le_trans hS.1 h)
  refine va_calll (va_runV (S := ⟨hx, hb, hml, hown, hts⟩) hM (cwV n hts hT hw rfl rfl ⟨rfl, hd⟩ hR) ⟨wB_blind _, ?_, wB_pre hK hN hP hD hA1 _⟩ rfl hn hsz rfl (lv_room hW) hdg hf) hS (fun _ _ h => h) (fun _ h => h) (fun r u t H1 locs1 ht hvm hw hB _ _ hS1 => ?_)
  · rw [← hqc]; exact va_recv hK hP hcl hq
  · obtain ⟨h1, h2, h3, h4, h5⟩ := hB
    rw [ht] at h1
    exact kk r u H1 locs1 hw h1 h3 hS1
theorem w_cVv {S : Type} {wf : S → va_W} {post : S → Prop} (hx : p.tables.exec = Jvm.exec) (hb : c.code = cc) (hml : c.maxLocals = nL) (hown : s.vm.findClass own = some m.cls) (hts : ∀ w ∈ Ts, w.before args s = true)
    (hM : mV l y wl fr lo (.ref b :: As) D tys A ws wf post) (n : Nat) (hT : GoodIn Ts (wsV own idx y.cls y wl)) (hw : wl = Cond.code y bytes maxL ret :: wl')
    (hd : y.cls ≠ "java/lang/invoke/MethodHandle" ∧ y.cls ≠ "java/lang/invoke/VarHandle" ∧ (parseMethodDescriptor y.desc).map (fun d => d.parameters.length) = some n) (hR : fr + 1 ≤ R.frames ∧ 8 + (maxL + 11) + lo ≤ R.locals)
    (hK : va_K D vwCl tys s) (hN : gN s) (hP : va_P D vwCl ws H) (hD : va_D A ws) (hS : va_S A H0 H locs) (hA : ∀ q : Nat, H0.size ≤ q → A q) (q0 ci : Nat) (hq : ws[q0]? = some (b, .inr (ci, fs))) (hcl : vwCl[ci]? = some qc) (hqc : qc.1 = y.cls)
    (hn : As.length = n) (hsz : ls.size = nL) (hst : st0 = As.reverse ++ .ref b :: rest) (hW : (rest.map fun v => v.category).sum ≤ 8) (hdg : decode cc pc = .ok (.invokevirtual idx, 3)) (hf : cells + 0 ≤ R.cells ∧ slots + 0 ≤ R.slots)
    (kk : ∀ (u : S) (H1 : Heap) (locs1 : List Loc), post u → va_P D vwCl (wf u) H1 → va_D A (wf u) → va_S A H0 H1 locs1 → W p l e R s m args below meth c H1 locs1 cells slots Q (F0 m (pc + 3) ls rest)) :
    W p l e R s m args below meth c H locs cells slots Q (F0 m pc ls st0) := by
  subst hst
  have hA1 : ∀ q : Nat, H.size ≤ q → A q := fun q h => hA q (Nat.le_trans hS.1 h)
  refine va_callv (va_runV (S := ⟨hx, hb, hml, hown, hts⟩) hM (cwV n hts hT hw rfl rfl ⟨rfl, hd⟩ hR) ⟨wB_blind _, ?_, wB_pre hK hN hP hD hA1 _⟩ rfl hn hsz rfl (lv_room hW) hdg hf) hS (fun _ _ h => h) (fun _ h => h) (fun u t H1 locs1 ht hvm hw hB _ _ hS1 => ?_)
  · rw [← hqc]; exact va_recv hK hP hcl hq
  · obtain ⟨h1, h2, h3, h4, h5⟩ := hB
    rw [ht] at h1
    exact kk u H1 locs1 hw h1 h3 hS1
theorem w_cSi {S : Type} {wf : S → va_W} {post : Int32 → S → Prop} (hx : p.tables.exec = Jvm.exec) (hb : c.code = cc) (hml : c.maxLocals = nL) (hown : s.vm.findClass own = some m.cls) (hts : ∀ w ∈ Ts, w.before args s = true)
    (hM : mI l y wl fr lo As D tys A ws wf post) (n : Nat) (hT : GoodIn Ts (va_wsS own idx y wl)) (hw : wl = Cond.code y bytes maxL ret :: wl')
    (hd : y.cls ≠ "java/lang/invoke/MethodHandle" ∧ y.cls ≠ "java/lang/invoke/VarHandle" ∧ (parseMethodDescriptor y.desc).map (fun d => d.parameters.length) = some n) (hR : fr + 1 ≤ R.frames ∧ 8 + (maxL + 11) + lo ≤ R.locals)
    (hK : va_K D vwCl tys s) (hN : gN s) (hP : va_P D vwCl ws H) (hD : va_D A ws) (hS : va_S A H0 H locs) (hA : ∀ q : Nat, H0.size ≤ q → A q)
    (hn : As.length = n) (hsz : ls.size = nL) (hst : st0 = As.reverse ++ rest) (hW : (rest.map fun v => v.category).sum ≤ 8) (hdg : decode cc pc = .ok (.invokestatic idx, 3)) (hf : cells + 0 ≤ R.cells ∧ slots + 0 ≤ R.slots)
    (kk : ∀ (r : Int32) (u : S) (H1 : Heap) (locs1 : List Loc), post r u → va_P D vwCl (wf u) H1 → va_D A (wf u) → va_S A H0 H1 locs1 → W p l e R s m args below meth c H1 locs1 cells slots Q (F0 m (pc + 3) ls (.int r :: rest))) :
    W p l e R s m args below meth c H locs cells slots Q (F0 m pc ls st0) := by
  subst hst
  have hA1 : ∀ q : Nat, H.size ≤ q → A q := fun q h => hA q (Nat.le_trans hS.1 h)
  refine va_calli (va_runS (S := ⟨hx, hb, hml, hown, hts⟩) hM (va_cwS n hts hT hw rfl rfl hd hR) ⟨wB_blind _, wB_pre hK hN hP hD hA1 _⟩ rfl hn hsz rfl (lv_room hW) hdg hf) hS (fun _ _ h => h) (fun _ h => h) (fun r u t H1 locs1 ht hvm hw hB _ _ hS1 => ?_)
  obtain ⟨h1, h2, h3, h4, h5⟩ := hB
  rw [ht] at h1
  exact kk r u H1 locs1 hw h1 h3 hS1
theorem w_cSv {S : Type} {wf : S → va_W} {post : S → Prop} (hx : p.tables.exec = Jvm.exec) (hb : c.code = cc) (hml : c.maxLocals = nL) (hown : s.vm.findClass own = some m.cls) (hts : ∀ w ∈ Ts, w.before args s = true)
    (hM : mV l y wl fr lo As D tys A ws wf post) (n : Nat) (hT : GoodIn Ts (va_wsS own idx y wl)) (hw : wl = Cond.code y bytes maxL ret :: wl')
    (hd : y.cls ≠ "java/lang/invoke/MethodHandle" ∧ y.cls ≠ "java/lang/invoke/VarHandle" ∧ (parseMethodDescriptor y.desc).map (fun d => d.parameters.length) = some n) (hR : fr + 1 ≤ R.frames ∧ 8 + (maxL + 11) + lo ≤ R.locals)
    (hK : va_K D vwCl tys s) (hN : gN s) (hP : va_P D vwCl ws H) (hD : va_D A ws) (hS : va_S A H0 H locs) (hA : ∀ q : Nat, H0.size ≤ q → A q)
    (hn : As.length = n) (hsz : ls.size = nL) (hst : st0 = As.reverse ++ rest) (hW : (rest.map fun v => v.category).sum ≤ 8) (hdg : decode cc pc = .ok (.invokestatic idx, 3)) (hf : cells + 0 ≤ R.cells ∧ slots + 0 ≤ R.slots)
    (kk : ∀ (u : S) (H1 : Heap) (locs1 : List Loc), post u → va_P D vwCl (wf u) H1 → va_D A (wf u) → va_S A H0 H1 locs1 → W p l e R s m args below meth c H1 locs1 cells slots Q (F0 m (pc + 3) ls rest)) :
    W p l e R s m args below meth c H locs cells slots Q (F0 m pc ls st0) := by
  subst hst
  have hA1 : ∀ q : Nat, H.size ≤ q → A q := fun q h => hA q (Nat.le_trans hS.1 h)
  refine va_callv (va_runS (S := ⟨hx, hb, hml, hown, hts⟩) hM (va_cwS n hts hT hw rfl rfl hd hR) ⟨wB_blind _, wB_pre hK hN hP hD hA1 _⟩ rfl hn hsz rfl (lv_room hW) hdg hf) hS (fun _ _ h => h) (fun _ h => h) (fun u t H1 locs1 ht hvm hw hB _ _ hS1 => ?_)
  obtain ⟨h1, h2, h3, h4, h5⟩ := hB
  rw [ht] at h1
  exact kk u H1 locs1 hw h1 h3 hS1
end CALLS
end GB
/-! a contract out of the walk of its body -/
theorem w_bI {l : Launch} {y : MethodName} {wl : List Cond} {fr lo : Nat} {av : List Value} {D : va_G} {tys : List (ClassId × FieldType)} {A : Nat → Prop} {w0 : va_W} {S : Type} {wf : S → va_W} {post : Int32 → S → Prop} (cc : ByteArray) (maxL : Nat) (ret : FieldType) {wl' : List Cond}
    (hy : plainName y.cls = true) (hw : wl = Cond.code y cc maxL (some ret) :: wl') (hlen : (lg_sl av).length ≤ maxL) (hret : ret = .int ∨ ret = .boolean)
    (body : ∀ (p : Program) (e : Env) (s : State) (m : MethodId) (args : Array Value) (below : List Frame) (meth : Method) (c : Code) (ls : Array Slot) (Q : State → Prop), p.tables.exec = Jvm.exec → c.code = cc → c.maxLocals = maxL → (∀ w ∈ wl, w.before args s = true) → s.vm.findClass y.cls = some m.cls → va_K D vwCl tys s → gN s → (∀ q : Nat, s.heap.size ≤ q → A q) →
      (∀ (r : Int32) (u : S) (H1 : Heap) (locs1 : List Loc) (pc : Nat) (ls1 : Array Slot), decode cc pc = .ok (.ireturn, 1) → narrow ret (.int r) = .int r → post r u → va_P D vwCl (wf u) H1 → va_D A (wf u) → va_S A s.heap H1 locs1 → W p l e { frames := fr, cells := 0, slots := 0, locals := lo } s m args below meth c H1 locs1 0 0 Q (F0 m pc ls1 [.int r])) →
      va_P D vwCl w0 s.heap → va_D A w0 → va_S A s.heap s.heap [] → lv_has ls maxL (lv_args 0 av) → W p l e { frames := fr, cells := 0, slots := 0, locals := lo } s m args below meth c s.heap [] 0 0 Q (F0 m 0 ls [])) :
    mI l y wl fr lo av D tys A w0 wf post := by
  refine Met.ofW (cc := cc) (maxL := maxL) (ret := some ret) hy hw ?_
  intro p e s m args below meth c s₁ B hml hv
  obtain ⟨rfl, hP, hK, hD, hA, hN⟩ := hv
  have hr := B.returns
  have hlocks := B.notSynchronized
  have hl := lv_entry av (n := maxL) hlen
  rw [lg_entry_eq]
  refine body p e s m av.toArray below meth c _ _ B.exec B.bytes hml (atoms_spec (ws := wl) B.pre) (findClass_of_methodNamed B.named) hK hN hA ?_ hP hD va_S.rf hl
  intro r u H1 locs1 pc ls1 hdg hn hp hP1 hD1 hS1
  exact W.zret B.exec B.bytes hr hn (fun t ht hW => ⟨⟨r, u, rfl, hp, by rw [ht]; exact hP1, va_K.moved hW.alike hK, hD1, fun q hq => hA q (Nat.le_trans hS1.1 (by rw [← ht]; exact hq)), gN_warm hW hN⟩, hS1.F ht⟩) hS1.2.2 hdg hlocks
theorem w_bJ {l : Launch} {y : MethodName} {wl : List Cond} {fr lo : Nat} {av : List Value} {D : va_G} {tys : List (ClassId × FieldType)} {A : Nat → Prop} {w0 : va_W} {S : Type} {wf : S → va_W} {post : Int64 → S → Prop} (cc : ByteArray) (maxL : Nat) {wl' : List Cond}
    (hy : plainName y.cls = true) (hw : wl = Cond.code y cc maxL (some .long) :: wl') (hlen : (lg_sl av).length ≤ maxL)
    (body : ∀ (p : Program) (e : Env) (s : State) (m : MethodId) (args : Array Value) (below : List Frame) (meth : Method) (c : Code) (ls : Array Slot) (Q : State → Prop), p.tables.exec = Jvm.exec → c.code = cc → c.maxLocals = maxL → (∀ w ∈ wl, w.before args s = true) → s.vm.findClass y.cls = some m.cls → va_K D vwCl tys s → gN s → (∀ q : Nat, s.heap.size ≤ q → A q) →
      (∀ (r : Int64) (u : S) (H1 : Heap) (locs1 : List Loc) (pc : Nat) (ls1 : Array Slot), decode cc pc = .ok (.lreturn, 1) → post r u → va_P D vwCl (wf u) H1 → va_D A (wf u) → va_S A s.heap H1 locs1 → W p l e { frames := fr, cells := 0, slots := 0, locals := lo } s m args below meth c H1 locs1 0 0 Q (F0 m pc ls1 [.long r])) →
      va_P D vwCl w0 s.heap → va_D A w0 → va_S A s.heap s.heap [] → lv_has ls maxL (lv_args 0 av) → W p l e { frames := fr, cells := 0, slots := 0, locals := lo } s m args below meth c s.heap [] 0 0 Q (F0 m 0 ls [])) :
    mJ l y wl fr lo av D tys A w0 wf post := by
  refine Met.ofW (cc := cc) (maxL := maxL) (ret := some .long) hy hw ?_
  intro p e s m args below meth c s₁ B hml hv
  obtain ⟨rfl, hP, hK, hD, hA, hN⟩ := hv
  have hr := B.returns
  have hlocks := B.notSynchronized
  have hl := lv_entry av (n := maxL) hlen
  rw [lg_entry_eq]
  refine body p e s m av.toArray below meth c _ _ B.exec B.bytes hml (atoms_spec (ws := wl) B.pre) (findClass_of_methodNamed B.named) hK hN hA ?_ hP hD va_S.rf hl
  intro r u H1 locs1 pc ls1 hdg hp hP1 hD1 hS1
  exact W.lret B.exec B.bytes hr (fun t ht hW => ⟨⟨r, u, rfl, hp, by rw [ht]; exact hP1, va_K.moved hW.alike hK, hD1, fun q hq => hA q (Nat.le_trans hS1.1 (by rw [← ht]; exact hq)), gN_warm hW hN⟩, hS1.F ht⟩) hS1.2.2 hdg hlocks
theorem w_bV {l : Launch} {y : MethodName} {wl : List Cond} {fr lo : Nat} {av : List Value} {D : va_G} {tys : List (ClassId × FieldType)} {A : Nat → Prop} {w0 : va_W} {S : Type} {wf : S → va_W} {post : S → Prop} (cc : ByteArray) (maxL : Nat) {wl' : List Cond}
    (hy : plainName y.cls = true) (hw : wl = Cond.code y cc maxL none :: wl') (hlen : (lg_sl av).length ≤ maxL)
    (body : ∀ (p : Program) (e : Env) (s : State) (m : MethodId) (args : Array Value) (below : List Frame) (meth : Method) (c : Code) (ls : Array Slot) (Q : State → Prop), p.tables.exec = Jvm.exec → c.code = cc → c.maxLocals = maxL → (∀ w ∈ wl, w.before args s = true) → s.vm.findClass y.cls = some m.cls → va_K D vwCl tys s → gN s → (∀ q : Nat, s.heap.size ≤ q → A q) →
      (∀ (u : S) (H1 : Heap) (locs1 : List Loc) (pc : Nat) (ls1 : Array Slot), decode cc pc = .ok (.return_, 1) → post u → va_P D vwCl (wf u) H1 → va_D A (wf u) → va_S A s.heap H1 locs1 → W p l e { frames := fr, cells := 0, slots := 0, locals := lo } s m args below meth c H1 locs1 0 0 Q (F0 m pc ls1 [])) →
      va_P D vwCl w0 s.heap → va_D A w0 → va_S A s.heap s.heap [] → lv_has ls maxL (lv_args 0 av) → W p l e { frames := fr, cells := 0, slots := 0, locals := lo } s m args below meth c s.heap [] 0 0 Q (F0 m 0 ls [])) :
    mV l y wl fr lo av D tys A w0 wf post := by
  refine Met.ofW (cc := cc) (maxL := maxL) (ret := none) hy hw ?_
  intro p e s m args below meth c s₁ B hml hv
  obtain ⟨rfl, hP, hK, hD, hA, hN⟩ := hv
  have hr := B.returns
  have hlocks := B.notSynchronized
  have hl := lv_entry av (n := maxL) hlen
  rw [lg_entry_eq]
  refine body p e s m av.toArray below meth c _ _ B.exec B.bytes hml (atoms_spec (ws := wl) B.pre) (findClass_of_methodNamed B.named) hK hN hA ?_ hP hD va_S.rf hl
  intro u H1 locs1 pc ls1 hdg hp hP1 hD1 hS1
  exact W.vret B.exec B.bytes hr (fun t ht hW => ⟨⟨u, rfl, hp, by rw [ht]; exact hP1, va_K.moved hW.alike hK, hD1, fun q hq => hA q (Nat.le_trans hS1.1 (by rw [← ht]; exact hq)), gN_warm hW hN⟩, hS1.F ht⟩) hS1.2.2 hdg hlocks
