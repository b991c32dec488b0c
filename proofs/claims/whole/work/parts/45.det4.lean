/-! ===== one answer, and alike behind it: the calls that change ===== -/
theorem RL_of {v w : Nat → Nat → Nat} {c d : Nat → Nat → Int32} (hf : v 0 8 = w 0 8) (h1 : rFl (v 11) (v 12) (v 13) (v 14) (w 11) (w 12) (w 13) (w 14)) (h2 : rTr (v 15) (v 16) (v 17) (w 15) (w 16) (w 17)) (h3 : rFa (v 23) (v 24) (w 23) (w 24)) (h4 : rSh (v 3) (c 2) (c 4) (w 3) (d 2) (d 4)) (h5 : c 0 7 = d 0 7) : ALK v c w d := ⟨hf, h1, h2, h3, h4, h5⟩
theorem up_cg {α : Type} {f g : Nat → α} {i j : Nat} {x : α} (h : j ≠ i → f j = g j) : va_up f i x j = va_up g i x j := by
  by_cases e : j = i
  · subst e; simp [va_up]
  · simp only [va_up, if_neg e]; exact h e
theorem fl_change {a n b f a' n' b' f' : Nat → Nat} {i q : Nat} (h : rFl a n b f a' n' b' f') : rFl a n b (va_up f i q) a' n' b' (va_up f' i q) :=
  ⟨h.1, h.2.1, h.2.2.1, h.2.2.2.1, fun d k hd hk => up_cg (fun _ => h.2.2.2.2 d k hd hk)⟩
theorem tr_join {a k w a' k' w' A K W A' K' W' : Nat → Nat} {x y : Nat} (h : rTr a k w a' k' w') (t1 : A 0 = a 0 + 1) (t2 : K = va_up k (a 0) x) (t3 : W = va_up w (a 0) y) (y1 : A' 0 = a' 0 + 1) (y2 : K' = va_up k' (a' 0) x) (y3 : W' = va_up w' (a' 0) y) : rTr A K W A' K' W' := by
  obtain ⟨h1, h2⟩ := h
  refine ⟨by rw [t1, y1, h1], fun d hd => ?_⟩
  rw [t1] at hd
  rw [t2, t3, y2, y3, ← h1]
  exact ⟨up_cg (fun e => (h2 d (by omega)).1), up_cg (fun e => (h2 d (by omega)).2)⟩
theorem fa_join {a k a' k' A K A' K' : Nat → Nat} {x : Nat} (h : rFa a k a' k') (t1 : A 0 = a 0 + 1) (t2 : K = va_up k (a 0) x) (y1 : A' 0 = a' 0 + 1) (y2 : K' = va_up k' (a' 0) x) : rFa A K A' K' := by
  obtain ⟨h1, h2⟩ := h
  refine ⟨by rw [t1, y1, h1], fun d hd => ?_⟩
  rw [t1] at hd
  rw [t2, y2, ← h1]
  exact up_cg (fun e => h2 d (by omega))
theorem abr_cg {f g : Nat → Nat} : ∀ n, (∀ d, d < n → f d = g d) → abr f n = abr g n := by
  intro n
  induction n with
  | zero => intro _; rfl
  | succ n ih => intro h; show _ ||| _ = _ ||| _; rw [ih (fun d hd => h d (by omega)), h n (by omega)]
section
variable {l l' : Nat → Nat} {s x s' x' : Nat → Int32}
theorem sh_sym (h : rSh l s x l' s' x') : rSh l' s' x' l s x := fun k hk => ⟨(h k hk).1.symm, fun z => by
  have := (h k hk).2 (by rw [(h k hk).1]; exact z)
  exact ⟨this.1.symm, fun j hj => (this.2 j (by rw [this.1]; exact hj)).symm⟩⟩
theorem sh_new {k n : Nat} {y : Int32} (h : rSh l s x l' s' x') (hl : ∀ k, k < 4 → l k ≤ 80) (hn : n ≤ 80) : rSh (va_up l k n) (va_up s k y) (flf x (k * 80) (k * 80 + n) 0) (va_up l' k n) (va_up s' k y) (flf x' (k * 80) (k * 80 + 80) 0) := by
  intro q hq
  by_cases e : q = k
  · subst e
    rw [up_eqA, up_eqA, up_eq, up_eq]
    refine ⟨rfl, fun _ => ⟨rfl, fun j hj => ?_⟩⟩
    show (if _ then _ else _) = (if _ then _ else _)
    rw [if_pos ⟨by omega, by omega⟩, if_pos ⟨by omega, by omega⟩]
  · have h1 := h q hq
    have h80 := hl q hq
    have e1 : ∀ {α : Type} {f : Nat → α} {z : α}, va_up f k z q = f q := fun {α f z} => by simp [va_up, e]
    rw [e1, e1, e1, e1]
    refine ⟨h1.1, fun z => ⟨(h1.2 z).1, fun j hj => ?_⟩⟩
    show (if _ then _ else _) = (if _ then _ else _)
    rw [if_neg (by omega), if_neg (by omega)]
    exact (h1.2 z).2 j hj
theorem sh_lose {k : Nat} (h : rSh l s x l' s' x') : rSh (va_up l k 0) (va_up s k (-1)) x l' (va_up s' k (-1)) x' := by
  intro q hq
  by_cases e : q = k
  · subst e
    rw [up_eqA, up_eqA]
    exact ⟨rfl, fun z => absurd rfl z⟩
  · have h1 := h q hq
    have e1 : ∀ {α : Type} {f : Nat → α} {z : α}, va_up f k z q = f q := fun {α f z} => by simp [va_up, e]
    rw [e1, e1, e1]
    exact h1
theorem sh_put {i : Nat} {y : Int32} (h : rSh l s x l' s' x') : rSh l s (va_up x i y) l' s' (va_up x' i y) :=
  fun q hq => ⟨(h q hq).1, fun z => ⟨((h q hq).2 z).1, fun j hj => up_cg (fun _ => ((h q hq).2 z).2 j hj)⟩⟩
theorem sh_copy {k o a b n : Nat} (h : rSh l s x l' s' x') (hl : ∀ k, k < 4 → l k ≤ 80) (hk : k < 4) (hm : s k ≠ -1) (ha : a + n ≤ l k) : rSh l s (va_cpy x x (k * 80 + a) (o * 80 + b) n) l' s' (va_cpy x' x' (k * 80 + a) (o * 80 + b) n) := by
  intro q hq
  refine ⟨(h q hq).1, fun z => ⟨((h q hq).2 z).1, fun j hj => ?_⟩⟩
  show (if _ then _ else _) = (if _ then _ else _)
  by_cases e : o * 80 + b ≤ q * 80 + j ∧ q * 80 + j < o * 80 + b + n
  · rw [if_pos e, if_pos e]
    have h1 := ((h k hk).2 hm).2 (a + (q * 80 + j - (o * 80 + b))) (by omega)
    rw [← Nat.add_assoc] at h1
    exact h1
  · rw [if_neg e, if_neg e]
    exact ((h q hq).2 z).2 j hj
end
theorem RS_cg {nb f : Nat} {cs ds : Nat → Int32} : ∀ {k : Nat} {S : pS}, (∀ i, i < k → cs (f + i) = ds (f + i)) → RS nb cs f k S → RS nb ds f k S := by
  intro k
  induction k with
  | zero => intro S _ h; exact h
  | succ k ih =>
    intro S e h
    obtain ⟨T, h1, h2⟩ := h
    exact ⟨T, ih (fun i hi => e i (by omega)) h1, by rw [← e k (by omega)]; exact h2⟩
theorem HDt_cg {cs ds : Nat → Int32} {n nb : Nat} (e : ∀ i, i < n → cs i = ds i) (h : HDt cs n nb) : HDt ds n nb := by
  obtain ⟨h1, h2, h3, h4, h5⟩ := h
  exact ⟨h1, (e 0 (by omega)).symm.trans h2, h3, h4, (e 1 (by omega)).symm.trans h5⟩
theorem DGt_cg {cs ds : Nat → Int32} {n q : Nat} (e : ∀ i, i < n → cs i = ds i) (h : DGt cs n q) : DGt ds n q := by
  obtain ⟨h1, b, h2, h3, h4⟩ := h
  exact ⟨h1, b, h2, h3, (e q h1).symm.trans h4⟩
theorem TKN_cg {cs ds : Nat → Int32} {n nb : Nat} {need : Nat → Nat} {S : pS} (e : ∀ i, i < n → cs i = ds i) (h : TKN cs n nb need S) : TKN ds n nb need S := by
  obtain ⟨h1, h2, h3, h4, h5⟩ := h
  exact ⟨HDt_cg e h1, fun b hb => ⟨(h2 b hb).1, (h2 b hb).2.1, (h2 b hb).2.2.1, (e _ (h2 b hb).1).symm.trans (h2 b hb).2.2.2⟩, h3, RS_cg (fun i hi => e _ (by omega)) h4, h5⟩
theorem FLT_cg {cs ds : Nat → Int32} {n q : Nat} (e : ∀ i, i < n → cs i = ds i) (h : FLT cs n q) : FLT ds n q := by
  have es : ∀ i, i < n → ds i = cs i := fun i hi => (e i hi).symm
  rcases h with ⟨h1, h2⟩ | ⟨h1, h2, h3, h4⟩ | ⟨nb, h1, b, h2, h3, h4, h5⟩ | ⟨nb, h1, h2, k, S, h3, h4, h5⟩
  · refine Or.inl ⟨h1, ?_⟩
    rcases Nat.eq_zero_or_pos n with z | z
    · exact Or.inl (by omega)
    · rcases h2 with h2 | h2
      · exact Or.inl h2
      · exact Or.inr (by rw [← e 0 z]; exact h2)
  · refine Or.inr (Or.inl ⟨h1, h2, (e 0 (by omega)).symm.trans h3, ?_⟩)
    rcases h4 with h4 | h4
    · exact Or.inl h4
    · rcases Nat.lt_or_ge n 2 with z | z
      · exact Or.inl z
      · exact Or.inr (by rw [← e 1 (by omega)]; exact h4)
  · exact Or.inr (Or.inr (Or.inl ⟨nb, HDt_cg e h1, b, h2, h3, fun i hi => DGt_cg e (h4 i hi), fun z => h5 (DGt_cg es z)⟩))
  · refine Or.inr (Or.inr (Or.inr ⟨nb, HDt_cg e h1, fun i hi => DGt_cg e (h2 i hi), k, S, h3, RS_cg (fun i hi => e _ (by rcases h5 with h5 | h5 <;> omega)) h4, ?_⟩))
    rcases h5 with ⟨h5, h6⟩ | ⟨h5, h6⟩
    · exact Or.inl ⟨h5, by rw [← e q h5]; exact h6⟩
    · exact Or.inr ⟨h5, h6⟩
theorem fl_lock {A N B G A' N' B' G' : Nat → Nat} {S : pS} (h0 : A 0 = A' 0) (h1 : ∀ e, e < A 0 → N e = N' e) (t : AGR S (A 1) B G) (y : AGR S (A' 1) B' G') : rFl A N B G A' N' B' G' := by
  obtain ⟨t1, t2, t3⟩ := t
  obtain ⟨y1, y2, y3⟩ := y
  have e1 : A 1 = A' 1 := t1.symm.trans y1
  have e2 : ∀ d, d < A 1 → B d = B' d := fun d hd => (t2 d hd).symm.trans (y2 d (by omega))
  exact ⟨h0, e1, h1, e2, fun d k hd hk => (t3 d k hd hk).symm.trans (y3 d k (by omega) (by rw [← e2 d hd]; exact hk))⟩
set_option maxHeartbeats 1000000 in
theorem pr_change {v w : Nat → Nat → Nat} {c d : Nat → Nat → Int32} {u u' : (Nat → Nat → Nat) × (Nat → Nat → Int32)} {x y z : Int32} {r r' : Int32} (hI : XI v) (hJ : XI w) (hR : ALK v c w d) (h : sp_change v c u x y z r) (h' : sp_change w d u' x y z r') : r = r' ∧ ALK u.1 u.2 u'.1 u'.2 := by
  obtain ⟨h0, hFl, hTr, hFa, hs, h7⟩ := id hR
  obtain ⟨a0, a1, a2, a3, a4⟩ := id hFl
  obtain ⟨b0, b1⟩ := id hTr
  obtain ⟨c0, c1⟩ := id hFa
  obtain ⟨hnb, hnd, hbt, hfg, hne, hnc, hdk, hnf, hkn, hln, hst, hdc, hsp⟩ := id hI
  obtain ⟨knb, knd, kbt, kfg, kne, knc, kdk, knf, kkn, kln, kst, kdc, ksp⟩ := id hJ
  rcases h with ⟨p1, p2, e3, e11, e12, e13, e14, e15, e16, e17, e23, e24, ec2, ec4, e7, e8⟩ | ⟨dd, j, p1, p2, p3, p4, hx⟩ <;> rcases h' with ⟨z1, z2, g3, g11, g12, g13, g14, g15, g16, g17, g23, g24, gc2, gc4, g7, g8⟩ | ⟨dd1, j1, z1, z2, z3, z4, hy⟩
  · exact ⟨p2.trans z2.symm, RL_of (e8.trans (h0.trans g8.symm)) (by rw [e11, e12, e13, e14, g11, g12, g13, g14]; exact hFl) (by rw [e15, e16, e17, g15, g16, g17]; exact hTr) (by rw [e23, e24, g23, g24]; exact hFa) (by rw [e3, ec2, ec4, g3, gc2, gc4]; exact hs) (e7.trans (h7.trans g7.symm))⟩
  · exact absurd ⟨dd1, j1, by omega, by rw [a3 dd1 (by omega)]; exact z2, z3, z4⟩ p1
  · exact absurd ⟨dd, j, by omega, by rw [← a3 dd p1]; exact p2, p3, p4⟩ z1
  · have e := x_one (by omega) (by omega) p1 z1 p3 z3
    subst e
    have h6 := (hbt dd p1).2
    rw [← a3 dd p1] at z2
    have e := x_one (by omega) (by omega) p2 z2 p4 z4
    subst e
    rcases hx with ⟨t1, t2, e3, e11, e12, e13, e14, e15, e16, e17, e23, e24, ec2, ec4, e7, e8⟩ | ⟨q, t1, t2, t3, t4, t5, e3, e11, e12, e13, e15, e16, e17, e23, e24, ec2, ec4, e7, e8⟩ <;> rcases hy with ⟨y1, y2, g3, g11, g12, g13, g14, g15, g16, g17, g23, g24, gc2, gc4, g7, g8⟩ | ⟨q1, y1, y2, y3, y4, y5, g3, g11, g12, g13, g15, g16, g17, g23, g24, gc2, gc4, g7, g8⟩
    · exact ⟨t2.trans y2.symm, RL_of (e8.trans (h0.trans g8.symm)) (by rw [e11, e12, e13, e14, g11, g12, g13, g14]; exact hFl) (by rw [e15, e16, e17, g15, g16, g17]; exact hTr) (by rw [e23, e24, g23, g24]; exact hFa) (by rw [e3, ec2, ec4, g3, gc2, gc4]; exact hs) (e7.trans (h7.trans g7.symm))⟩
    · exact absurd ⟨q1, by rw [a0]; exact y1, y2, y3⟩ t1
    · exact absurd ⟨q, by rw [← a0]; exact t1, t2, t3⟩ y1
    · have e := x_one (n := 2 ^ v 11 0) (m := 2 ^ w 11 0) (by have := pow_le_128 hnb; omega) (by have := pow_le_128 knb; omega) t1 y1 t3 y3
      subst e
      exact ⟨by rw [t4, y4, a4 dd j p1 p2], RL_of (e8.trans (h0.trans g8.symm)) (by rw [e11, e12, e13, t5, g11, g12, g13, y5]; exact fl_change hFl) (by rw [e15, e16, e17, g15, g16, g17]; exact hTr) (by rw [e23, e24, g23, g24]; exact hFa) (by rw [e3, ec2, ec4, g3, gc2, gc4]; exact hs) (e7.trans (h7.trans g7.symm))⟩
set_option maxHeartbeats 1000000 in
theorem pr_dancer {v w : Nat → Nat → Nat} {c d : Nat → Nat → Int32} {u u' : (Nat → Nat → Nat) × (Nat → Nat → Int32)} {x y : Int32} {r r' : Int32} (hI : XI v) (hJ : XI w) (hR : ALK v c w d) (h : sp_dancer v c u x y r) (h' : sp_dancer w d u' x y r') : r = r' ∧ ALK u.1 u.2 u'.1 u'.2 := by
  obtain ⟨h0, hFl, hTr, hFa, hs, h7⟩ := id hR
  obtain ⟨a0, a1, a2, a3, a4⟩ := id hFl
  obtain ⟨b0, b1⟩ := id hTr
  obtain ⟨c0, c1⟩ := id hFa
  obtain ⟨hnb, hnd, hbt, hfg, hne, hnc, hdk, hnf, hkn, hln, hst, hdc, hsp⟩ := id hI
  obtain ⟨knb, knd, kbt, kfg, kne, knc, kdk, knf, kkn, kln, kst, kdc, ksp⟩ := id hJ
  rcases h with ⟨p1, p2, e3, e11, e12, e13, e14, e15, e16, e17, e23, e24, ec2, ec4, e7, e8⟩ | ⟨k, q, p1, p2, p3, p4, p5, hx⟩ <;> rcases h' with ⟨z1, z2, g3, g11, g12, g13, g14, g15, g16, g17, g23, g24, gc2, gc4, g7, g8⟩ | ⟨k1, q1, z1, z2, z3, z4, z5, hy⟩
  · exact ⟨p2.trans z2.symm, RL_of (e8.trans (h0.trans g8.symm)) (by rw [e11, e12, e13, e14, g11, g12, g13, g14]; exact hFl) (by rw [e15, e16, e17, g15, g16, g17]; exact hTr) (by rw [e23, e24, g23, g24]; exact hFa) (by rw [e3, ec2, ec4, g3, gc2, gc4]; exact hs) (e7.trans (h7.trans g7.symm))⟩
  · exact absurd ⟨k1, q1, z1, z2, z3, z4, z5⟩ p1
  · exact absurd ⟨k, q, p1, p2, p3, p4, p5⟩ z1
  · have e := x_one (by decide) (by decide) p1 z1 p4 z4
    subst e
    have e : q = q1 := (n_inj (by omega) (by omega)).mp (p5.symm.trans z5)
    subst e
    rcases hx with ⟨t1, t2, e3, e11, e12, e13, e14, e15, e16, e17, e23, e24, ec2, ec4, e7, e8⟩ | ⟨t1, t2, t3, e3, e11, e12, e13, e14, e15, e16, e17, e23, e24, ec2, ec4, e7, e8⟩ | ⟨t1, t2, t3, t4, t5, t6, e3, e11, e12, e13, e14, e23, e24, ec2, ec4, e7, e8⟩ <;> rcases hy with ⟨y1, y2, g3, g11, g12, g13, g14, g15, g16, g17, g23, g24, gc2, gc4, g7, g8⟩ | ⟨y1, y2, y3, g3, g11, g12, g13, g14, g15, g16, g17, g23, g24, gc2, gc4, g7, g8⟩ | ⟨y1, y2, y3, y4, y5, y6, g3, g11, g12, g13, g14, g23, g24, gc2, gc4, g7, g8⟩
    · exact ⟨t2.trans y2.symm, RL_of (e8.trans (h0.trans g8.symm)) (by rw [e11, e12, e13, e14, g11, g12, g13, g14]; exact hFl) (by rw [e15, e16, e17, g15, g16, g17]; exact hTr) (by rw [e23, e24, g23, g24]; exact hFa) (by rw [e3, ec2, ec4, g3, gc2, gc4]; exact hs) (e7.trans (h7.trans g7.symm))⟩
    · exfalso; omega
    · exfalso; omega
    · exfalso; omega
    · exact ⟨t3.trans y3.symm, RL_of (e8.trans (h0.trans g8.symm)) (by rw [e11, e12, e13, e14, g11, g12, g13, g14]; exact hFl) (by rw [e15, e16, e17, g15, g16, g17]; exact hTr) (by rw [e23, e24, g23, g24]; exact hFa) (by rw [e3, ec2, ec4, g3, gc2, gc4]; exact hs) (e7.trans (h7.trans g7.symm))⟩
    · exfalso; omega
    · exfalso; omega
    · exfalso; omega
    · exact ⟨by rw [t3, y3, b0], RL_of (e8.trans (h0.trans g8.symm)) (by rw [e11, e12, e13, e14, g11, g12, g13, g14]; exact hFl) (tr_join hTr t4 t5 t6 y4 y5 y6) (by rw [e23, e24, g23, g24]; exact hFa) (by rw [e3, ec2, ec4, g3, gc2, gc4]; exact hs) (e7.trans (h7.trans g7.symm))⟩
set_option maxHeartbeats 1000000 in
theorem pr_leave {v w : Nat → Nat → Nat} {c d : Nat → Nat → Int32} {u u' : (Nat → Nat → Nat) × (Nat → Nat → Int32)} {x : Int32} {r r' : Int32} (hI : XI v) (hJ : XI w) (hR : ALK v c w d) (h : sp_leave v c u x r) (h' : sp_leave w d u' x r') : r = r' ∧ ALK u.1 u.2 u'.1 u'.2 := by
  obtain ⟨h0, hFl, hTr, hFa, hs, h7⟩ := id hR
  obtain ⟨a0, a1, a2, a3, a4⟩ := id hFl
  obtain ⟨b0, b1⟩ := id hTr
  obtain ⟨c0, c1⟩ := id hFa
  obtain ⟨hnb, hnd, hbt, hfg, hne, hnc, hdk, hnf, hkn, hln, hst, hdc, hsp⟩ := id hI
  obtain ⟨knb, knd, kbt, kfg, kne, knc, kdk, knf, kkn, kln, kst, kdc, ksp⟩ := id hJ
  rcases h with ⟨p1, p2, e3, e11, e12, e13, e14, e15, e16, e17, e23, e24, ec2, ec4, e7, e8⟩ | ⟨q, p1, p2, p3, p4, e3, e11, e12, e13, e14, e16, e17, e23, e24, ec2, ec4, e7, e8⟩ <;> rcases h' with ⟨z1, z2, g3, g11, g12, g13, g14, g15, g16, g17, g23, g24, gc2, gc4, g7, g8⟩ | ⟨q1, z1, z2, z3, z4, g3, g11, g12, g13, g14, g16, g17, g23, g24, gc2, gc4, g7, g8⟩
  · exact ⟨p2.trans z2.symm, RL_of (e8.trans (h0.trans g8.symm)) (by rw [e11, e12, e13, e14, g11, g12, g13, g14]; exact hFl) (by rw [e15, e16, e17, g15, g16, g17]; exact hTr) (by rw [e23, e24, g23, g24]; exact hFa) (by rw [e3, ec2, ec4, g3, gc2, gc4]; exact hs) (e7.trans (h7.trans g7.symm))⟩
  · exact absurd ⟨q1, by omega, z2⟩ p1
  · exact absurd ⟨q, by omega, p2⟩ z1
  · have e : q = q1 := (n_inj (by omega) (by omega)).mp (p2.symm.trans z2)
    subst e
    exact ⟨by rw [p3, z3, b0], RL_of (e8.trans (h0.trans g8.symm)) (by rw [e11, e12, e13, e14, g11, g12, g13, g14]; exact hFl) (⟨by rw [p4, z4, b0], fun i hi => by rw [p4] at hi; rw [e16, e17, g16, g17]; exact b1 i (by omega)⟩) (by rw [e23, e24, g23, g24]; exact hFa) (by rw [e3, ec2, ec4, g3, gc2, gc4]; exact hs) (e7.trans (h7.trans g7.symm))⟩
set_option maxHeartbeats 1000000 in
theorem pr_family {v w : Nat → Nat → Nat} {c d : Nat → Nat → Int32} {u u' : (Nat → Nat → Nat) × (Nat → Nat → Int32)} {x : Int32} {r r' : Int32} (hI : XI v) (hJ : XI w) (hR : ALK v c w d) (h : sp_family v c u x r) (h' : sp_family w d u' x r') : r = r' ∧ ALK u.1 u.2 u'.1 u'.2 := by
  obtain ⟨h0, hFl, hTr, hFa, hs, h7⟩ := id hR
  obtain ⟨a0, a1, a2, a3, a4⟩ := id hFl
  obtain ⟨b0, b1⟩ := id hTr
  obtain ⟨c0, c1⟩ := id hFa
  obtain ⟨hnb, hnd, hbt, hfg, hne, hnc, hdk, hnf, hkn, hln, hst, hdc, hsp⟩ := id hI
  obtain ⟨knb, knd, kbt, kfg, kne, knc, kdk, knf, kkn, kln, kst, kdc, ksp⟩ := id hJ
  have eA : abr (v 13) (v 11 1) = abr (w 13) (w 11 1) := by rw [← a1]; exact abr_cg _ a3
  have hlt := abr_lt (nbt := v 13) (v 11 1) hnd (fun e he => (hbt e he).2)
  rcases h with ⟨p1, p2, e3, e11, e12, e13, e14, e15, e16, e17, e23, e24, ec2, ec4, e7, e8⟩ | ⟨q, p1, p2, p3, hx⟩ <;> rcases h' with ⟨z1, z2, g3, g11, g12, g13, g14, g15, g16, g17, g23, g24, gc2, gc4, g7, g8⟩ | ⟨q1, z1, z2, z3, hy⟩
  · exact ⟨p2.trans z2.symm, RL_of (e8.trans (h0.trans g8.symm)) (by rw [e11, e12, e13, e14, g11, g12, g13, g14]; exact hFl) (by rw [e15, e16, e17, g15, g16, g17]; exact hTr) (by rw [e23, e24, g23, g24]; exact hFa) (by rw [e3, ec2, ec4, g3, gc2, gc4]; exact hs) (e7.trans (h7.trans g7.symm))⟩
  · exact absurd ⟨q1, by rw [eA]; exact z1, by rw [eA]; exact z2, z3⟩ p1
  · exact absurd ⟨q, by rw [← eA]; exact p1, by rw [← eA]; exact p2, p3⟩ z1
  · have e : q = q1 := (n_inj (by omega) (by omega)).mp (p3.symm.trans z3)
    subst e
    rcases hx with ⟨t1, t2, e3, e11, e12, e13, e14, e15, e16, e17, e23, e24, ec2, ec4, e7, e8⟩ | ⟨t1, t2, t3, e3, e11, e12, e13, e14, e15, e16, e17, e23, e24, ec2, ec4, e7, e8⟩ | ⟨t1, t2, t3, t4, t5, e3, e11, e12, e13, e14, e15, e16, e17, ec2, ec4, e7, e8⟩ <;> rcases hy with ⟨y1, y2, g3, g11, g12, g13, g14, g15, g16, g17, g23, g24, gc2, gc4, g7, g8⟩ | ⟨y1, y2, y3, g3, g11, g12, g13, g14, g15, g16, g17, g23, g24, gc2, gc4, g7, g8⟩ | ⟨y1, y2, y3, y4, y5, g3, g11, g12, g13, g14, g15, g16, g17, gc2, gc4, g7, g8⟩
    · exact ⟨t2.trans y2.symm, RL_of (e8.trans (h0.trans g8.symm)) (by rw [e11, e12, e13, e14, g11, g12, g13, g14]; exact hFl) (by rw [e15, e16, e17, g15, g16, g17]; exact hTr) (by rw [e23, e24, g23, g24]; exact hFa) (by rw [e3, ec2, ec4, g3, gc2, gc4]; exact hs) (e7.trans (h7.trans g7.symm))⟩
    · exfalso; omega
    · exfalso; omega
    · exfalso; omega
    · exact ⟨t3.trans y3.symm, RL_of (e8.trans (h0.trans g8.symm)) (by rw [e11, e12, e13, e14, g11, g12, g13, g14]; exact hFl) (by rw [e15, e16, e17, g15, g16, g17]; exact hTr) (by rw [e23, e24, g23, g24]; exact hFa) (by rw [e3, ec2, ec4, g3, gc2, gc4]; exact hs) (e7.trans (h7.trans g7.symm))⟩
    · exfalso; omega
    · exfalso; omega
    · exfalso; omega
    · exact ⟨by rw [t3, y3, c0], RL_of (e8.trans (h0.trans g8.symm)) (by rw [e11, e12, e13, e14, g11, g12, g13, g14]; exact hFl) (by rw [e15, e16, e17, g15, g16, g17]; exact hTr) (fa_join hFa t4 t5 y4 y5) (by rw [e3, ec2, ec4, g3, gc2, gc4]; exact hs) (e7.trans (h7.trans g7.symm))⟩
set_option maxHeartbeats 1000000 in
theorem pr_sheet {v w : Nat → Nat → Nat} {c d : Nat → Nat → Int32} {u u' : (Nat → Nat → Nat) × (Nat → Nat → Int32)} {x y z : Int32} {r r' : Int32} (hI : XI v) (hJ : XI w) (hR : ALK v c w d) (h : sp_sheet v c u x y z r) (h' : sq_sheet w d u' x y z r') : r = r' ∧ ALK u.1 u.2 u'.1 u'.2 := by
  obtain ⟨h0, hFl, hTr, hFa, hs, h7⟩ := id hR
  obtain ⟨a0, a1, a2, a3, a4⟩ := id hFl
  obtain ⟨b0, b1⟩ := id hTr
  obtain ⟨c0, c1⟩ := id hFa
  obtain ⟨hnb, hnd, hbt, hfg, hne, hnc, hdk, hnf, hkn, hln, hst, hdc, hsp⟩ := id hI
  obtain ⟨knb, knd, kbt, kfg, kne, knc, kdk, knf, kkn, kln, kst, kdc, ksp⟩ := id hJ
  rcases h with ⟨p1, p2, e8, e3, e11, e12, e13, e14, e15, e16, e17, e23, e24, ec2, ec4, e7⟩ | ⟨k, p1, p2, hx⟩ <;> rcases h' with ⟨z1, z2, g8, g3, g11, g12, g13, g14, g15, g16, g17, g23, g24, gc2, gc4, g7⟩ | ⟨k1, z1, z2, hy⟩
  · exact ⟨p2.trans z2.symm, RL_of (e8.trans g8.symm) (by rw [e11, e12, e13, e14, g11, g12, g13, g14]; exact hFl) (by rw [e15, e16, e17, g15, g16, g17]; exact hTr) (by rw [e23, e24, g23, g24]; exact hFa) (by rw [e3, ec2, ec4, g3, gc2, gc4]; exact hs) (e7.trans (h7.trans g7.symm))⟩
  · exact q_x p1 z1 z2
  · exact q_x z1 p1 p2
  · have e := x_one (by decide) (by decide) p1 z1 p2 z2
    subst e
    rcases hx with ⟨t1, t2, e8, e3, e11, e12, e13, e14, e15, e16, e17, e23, e24, ec2, ec4, e7⟩ | ⟨s1, t1, t2, hx2⟩ <;> rcases hy with ⟨y1, y2, g8, g3, g11, g12, g13, g14, g15, g16, g17, g23, g24, gc2, gc4, g7⟩ | ⟨s2, y1, y2, hy2⟩
    · exact ⟨t2.trans y2.symm, RL_of (e8.trans g8.symm) (by rw [e11, e12, e13, e14, g11, g12, g13, g14]; exact hFl) (by rw [e15, e16, e17, g15, g16, g17]; exact hTr) (by rw [e23, e24, g23, g24]; exact hFa) (by rw [e3, ec2, ec4, g3, gc2, gc4]; exact hs) (e7.trans (h7.trans g7.symm))⟩
    · rcases t1 with t1 | t1
      · exact q_x t1 y1 y2
      · rcases hy2 with ⟨x1, -⟩ | ⟨n1, x1, x2, -⟩
        · omega
        · rw [x2, n_tI (by omega)] at t1; omega
    · rcases y1 with y1 | y1
      · exact q_x y1 t1 t2
      · rcases hx2 with ⟨x1, -⟩ | ⟨n1, x1, x2, -⟩
        · omega
        · rw [x2, n_tI (by omega)] at y1; omega
    · rcases hx2 with ⟨w1, w2, e8, e3, e11, e12, e13, e14, e15, e16, e17, e23, e24, ec2, ec4, e7⟩ | ⟨n, w1, w2, w3, e8, w5, w6, w7, e11, e12, e13, e14, e15, e16, e17, e23, e24, e7⟩ <;> rcases hy2 with ⟨x1, x2, g8, g3, g11, g12, g13, g14, g15, g16, g17, g23, g24, gc2, gc4, g7⟩ | ⟨n1, x1, x2, x3, g8, x5, x6, x7, g11, g12, g13, g14, g15, g16, g17, g23, g24, g7⟩
      · exact ⟨w2.trans x2.symm, RL_of (e8.trans g8.symm) (by rw [e11, e12, e13, e14, g11, g12, g13, g14]; exact hFl) (by rw [e15, e16, e17, g15, g16, g17]; exact hTr) (by rw [e23, e24, g23, g24]; exact hFa) (by rw [e3, ec2, ec4, g3, gc2, gc4]; exact hs) (e7.trans (h7.trans g7.symm))⟩
      · rw [x2, n_tI (by omega)] at w1; omega
      · rw [w2, n_tI (by omega)] at x1; omega
      · have e : n = n1 := (n_inj (by omega) (by omega)).mp (w2.symm.trans x2)
        subst e
        exact ⟨w3.trans x3.symm, RL_of (e8.trans g8.symm) (by rw [e11, e12, e13, e14, g11, g12, g13, g14]; exact hFl) (by rw [e15, e16, e17, g15, g16, g17]; exact hTr) (by rw [e23, e24, g23, g24]; exact hFa) (by rw [w5, w6, w7, x5, x6, x7]; exact sh_new hs hln w1) (e7.trans (h7.trans g7.symm))⟩
set_option maxHeartbeats 1000000 in
theorem pr_lose {v w : Nat → Nat → Nat} {c d : Nat → Nat → Int32} {u u' : (Nat → Nat → Nat) × (Nat → Nat → Int32)} {x : Int32} {r r' : Int32} (hI : XI v) (hJ : XI w) (hR : ALK v c w d) (h : sp_lose v c u x r) (h' : sq_lose w d u' x r') : r = r' ∧ ALK u.1 u.2 u'.1 u'.2 := by
  obtain ⟨h0, hFl, hTr, hFa, hs, h7⟩ := id hR
  obtain ⟨a0, a1, a2, a3, a4⟩ := id hFl
  obtain ⟨b0, b1⟩ := id hTr
  obtain ⟨c0, c1⟩ := id hFa
  obtain ⟨hnb, hnd, hbt, hfg, hne, hnc, hdk, hnf, hkn, hln, hst, hdc, hsp⟩ := id hI
  obtain ⟨knb, knd, kbt, kfg, kne, knc, kdk, knf, kkn, kln, kst, kdc, ksp⟩ := id hJ
  rcases h with ⟨p1, p2, e3, e11, e12, e13, e14, e15, e16, e17, e23, e24, ec2, ec4, e7, e8⟩ | ⟨k, p1, p2, p3, p4, p5, e11, e12, e13, e14, e15, e16, e17, e23, e24, ec4, e7, e8⟩ <;> rcases h' with ⟨z1, z2, g3, g11, g12, g13, g14, g15, g16, g17, g23, g24, gc2, gc4, g7, g8⟩ | ⟨k1, z1, z2, z3, z4, g3, g11, g12, g13, g14, g15, g16, g17, g23, g24, gc4, g7, g8⟩
  · exact ⟨p2.trans z2.symm, RL_of (e8.trans (h0.trans g8.symm)) (by rw [e11, e12, e13, e14, g11, g12, g13, g14]; exact hFl) (by rw [e15, e16, e17, g15, g16, g17]; exact hTr) (by rw [e23, e24, g23, g24]; exact hFa) (by rw [e3, ec2, ec4, g3, gc2, gc4]; exact hs) (e7.trans (h7.trans g7.symm))⟩
  · exact q_x p1 z1 z2
  · exact q_x z1 p1 p2
  · have e := x_one (by decide) (by decide) p1 z1 p2 z2
    subst e
    rw [← (hs k p1).1] at z3
    exact ⟨by rcases p3 with ⟨t1, t2⟩ | ⟨t1, t2⟩ <;> rcases z3 with ⟨y1, y2⟩ | ⟨y1, y2⟩; exact t2.trans y2.symm; exact absurd t1 y1; exact absurd y1 t1; exact t2.trans y2.symm, RL_of (e8.trans (h0.trans g8.symm)) (by rw [e11, e12, e13, e14, g11, g12, g13, g14]; exact hFl) (by rw [e15, e16, e17, g15, g16, g17]; exact hTr) (by rw [e23, e24, g23, g24]; exact hFa) (by rw [p5, p4, ec4, g3, z4, gc4]; exact sh_lose hs) (e7.trans (h7.trans g7.symm))⟩
set_option maxHeartbeats 1000000 in
theorem pr_put {v w : Nat → Nat → Nat} {c d : Nat → Nat → Int32} {u u' : (Nat → Nat → Nat) × (Nat → Nat → Int32)} {x y z : Int32} {r r' : Int32} (hI : XI v) (hJ : XI w) (hR : ALK v c w d) (h : sp_put v c u x y z r) (h' : sp_put w d u' x y z r') : r = r' ∧ ALK u.1 u.2 u'.1 u'.2 := by
  obtain ⟨h0, hFl, hTr, hFa, hs, h7⟩ := id hR
  obtain ⟨a0, a1, a2, a3, a4⟩ := id hFl
  obtain ⟨b0, b1⟩ := id hTr
  obtain ⟨c0, c1⟩ := id hFa
  obtain ⟨hnb, hnd, hbt, hfg, hne, hnc, hdk, hnf, hkn, hln, hst, hdc, hsp⟩ := id hI
  obtain ⟨knb, knd, kbt, kfg, kne, knc, kdk, knf, kkn, kln, kst, kdc, ksp⟩ := id hJ
  rcases h with ⟨p1, p2, e8, e3, e11, e12, e13, e14, e15, e16, e17, e23, e24, ec2, ec4, e7⟩ | ⟨k, p1, p2, hx⟩ <;> rcases h' with ⟨z1, z2, g8, g3, g11, g12, g13, g14, g15, g16, g17, g23, g24, gc2, gc4, g7⟩ | ⟨k1, z1, z2, hy⟩
  · exact ⟨p2.trans z2.symm, RL_of (e8.trans g8.symm) (by rw [e11, e12, e13, e14, g11, g12, g13, g14]; exact hFl) (by rw [e15, e16, e17, g15, g16, g17]; exact hTr) (by rw [e23, e24, g23, g24]; exact hFa) (by rw [e3, ec2, ec4, g3, gc2, gc4]; exact hs) (e7.trans (h7.trans g7.symm))⟩
  · exact q_x p1 z1 z2
  · exact q_x z1 p1 p2
  · have e := x_one (by decide) (by decide) p1 z1 p2 z2
    subst e
    have hk := hs k p1
    rcases hx with ⟨t1, t2, e8, e3, e11, e12, e13, e14, e15, e16, e17, e23, e24, ec2, ec4, e7⟩ | ⟨t1, t2, t3, e8, e3, e11, e12, e13, e14, e15, e16, e17, e23, e24, ec2, ec4, e7⟩ | ⟨q, t1, t2, t3, t4, e8, t6, e3, e11, e12, e13, e14, e15, e16, e17, e23, e24, ec2, e7⟩ <;> rcases hy with ⟨y1, y2, g8, g3, g11, g12, g13, g14, g15, g16, g17, g23, g24, gc2, gc4, g7⟩ | ⟨y1, y2, y3, g8, g3, g11, g12, g13, g14, g15, g16, g17, g23, g24, gc2, gc4, g7⟩ | ⟨q1, y1, y2, y3, y4, g8, y6, g3, g11, g12, g13, g14, g15, g16, g17, g23, g24, gc2, g7⟩
    · exact ⟨t2.trans y2.symm, RL_of (e8.trans g8.symm) (by rw [e11, e12, e13, e14, g11, g12, g13, g14]; exact hFl) (by rw [e15, e16, e17, g15, g16, g17]; exact hTr) (by rw [e23, e24, g23, g24]; exact hFa) (by rw [e3, ec2, ec4, g3, gc2, gc4]; exact hs) (e7.trans (h7.trans g7.symm))⟩
    · exact absurd (hk.1.symm.trans t1) y1
    · exact absurd (hk.1.symm.trans t1) y3
    · exact absurd (hk.1.trans y1) t1
    · exact ⟨t3.trans y3.symm, RL_of (e8.trans g8.symm) (by rw [e11, e12, e13, e14, g11, g12, g13, g14]; exact hFl) (by rw [e15, e16, e17, g15, g16, g17]; exact hTr) (by rw [e23, e24, g23, g24]; exact hFa) (by rw [e3, ec2, ec4, g3, gc2, gc4]; exact hs) (e7.trans (h7.trans g7.symm))⟩
    · exact q_x t2 (by rw [(hk.2 t1).1]; exact y1) y2
    · exact absurd (hk.1.trans y1) t3
    · exact q_x y2 (by rw [← (hk.2 t3).1]; exact t1) t2
    · have hl1 := hln k p1
      have hl2 := kln k p1
      have e : q = q1 := x_one (by omega) (by omega) t1 y1 t2 y2
      subst e
      exact ⟨t4.trans y4.symm, RL_of (e8.trans g8.symm) (by rw [e11, e12, e13, e14, g11, g12, g13, g14]; exact hFl) (by rw [e15, e16, e17, g15, g16, g17]; exact hTr) (by rw [e23, e24, g23, g24]; exact hFa) (by rw [e3, ec2, t6, g3, gc2, y6, ← hk.1]; exact sh_put hs) (e7.trans (h7.trans g7.symm))⟩
set_option maxHeartbeats 1000000 in
theorem pr_copy {v w : Nat → Nat → Nat} {c d : Nat → Nat → Int32} {u u' : (Nat → Nat → Nat) × (Nat → Nat → Int32)} {x i y j q : Int32} {r r' : Int32} (hI : XI v) (hJ : XI w) (hR : ALK v c w d) (h : sp_copy v c u x i y j q r) (h' : sp_copy w d u' x i y j q r') : r = r' ∧ ALK u.1 u.2 u'.1 u'.2 := by
  obtain ⟨h0, hFl, hTr, hFa, hs, h7⟩ := id hR
  obtain ⟨a0, a1, a2, a3, a4⟩ := id hFl
  obtain ⟨b0, b1⟩ := id hTr
  obtain ⟨c0, c1⟩ := id hFa
  obtain ⟨hnb, hnd, hbt, hfg, hne, hnc, hdk, hnf, hkn, hln, hst, hdc, hsp⟩ := id hI
  obtain ⟨knb, knd, kbt, kfg, kne, knc, kdk, knf, kkn, kln, kst, kdc, ksp⟩ := id hJ
  rcases h with ⟨p1, p2, e8, e3, e11, e12, e13, e14, e15, e16, e17, e23, e24, ec2, ec4, e7⟩ | ⟨k, o, p1, p2, p3, p4, hx⟩ <;> rcases h' with ⟨z1, z2, g8, g3, g11, g12, g13, g14, g15, g16, g17, g23, g24, gc2, gc4, g7⟩ | ⟨k1, o1, z1, z2, z3, z4, hy⟩
  · exact ⟨p2.trans z2.symm, RL_of (e8.trans g8.symm) (by rw [e11, e12, e13, e14, g11, g12, g13, g14]; exact hFl) (by rw [e15, e16, e17, g15, g16, g17]; exact hTr) (by rw [e23, e24, g23, g24]; exact hFa) (by rw [e3, ec2, ec4, g3, gc2, gc4]; exact hs) (e7.trans (h7.trans g7.symm))⟩
  · exact (p1.elim (fun t => t ⟨k1, z1, z3⟩) (fun t => t ⟨o1, z2, z4⟩)).elim
  · exact (z1.elim (fun t => t ⟨k, p1, p3⟩) (fun t => t ⟨o, p2, p4⟩)).elim
  · have e := x_one (by decide) (by decide) p1 z1 p3 z3
    subst e
    have e := x_one (by decide) (by decide) p2 z2 p4 z4
    subst e
    have hk := hs k p1
    have ho := hs o p2
    rcases hx with ⟨t1, t2, e8, e3, e11, e12, e13, e14, e15, e16, e17, e23, e24, ec2, ec4, e7⟩ | ⟨t1, t2, t3, t4, e8, e3, e11, e12, e13, e14, e15, e16, e17, e23, e24, ec2, ec4, e7⟩ | ⟨t1, t2, t3, t4, t5, e8, e3, e11, e12, e13, e14, e15, e16, e17, e23, e24, ec2, ec4, e7⟩ | ⟨ta, tb, tn, t1, t2, t3, t4, t5, t6, t7, t8, t9, e8, t10, e3, e11, e12, e13, e14, e15, e16, e17, e23, e24, ec2, e7⟩ <;> rcases hy with ⟨y1, y2, g8, g3, g11, g12, g13, g14, g15, g16, g17, g23, g24, gc2, gc4, g7⟩ | ⟨y1, y2, y3, y4, g8, g3, g11, g12, g13, g14, g15, g16, g17, g23, g24, gc2, gc4, g7⟩ | ⟨y1, y2, y3, y4, y5, g8, g3, g11, g12, g13, g14, g15, g16, g17, g23, g24, gc2, gc4, g7⟩ | ⟨ya, yb, yn, y1, y2, y3, y4, y5, y6, y7, y8, y9, g8, y10, g3, g11, g12, g13, g14, g15, g16, g17, g23, g24, gc2, g7⟩
    · exact ⟨t2.trans y2.symm, RL_of (e8.trans g8.symm) (by rw [e11, e12, e13, e14, g11, g12, g13, g14]; exact hFl) (by rw [e15, e16, e17, g15, g16, g17]; exact hTr) (by rw [e23, e24, g23, g24]; exact hFa) (by rw [e3, ec2, ec4, g3, gc2, gc4]; exact hs) (e7.trans (h7.trans g7.symm))⟩
    · exact (t1.elim (fun z => y1 (hk.1.symm.trans z)) (fun z => y2 (ho.1.symm.trans z))).elim
    · exact (t1.elim (fun z => y1 (hk.1.symm.trans z)) (fun z => y2 (ho.1.symm.trans z))).elim
    · exact (t1.elim (fun z => y6 (hk.1.symm.trans z)) (fun z => y7 (ho.1.symm.trans z))).elim
    · exact (y1.elim (fun z => t1 (hk.1.trans z)) (fun z => t2 (ho.1.trans z))).elim
    · exact ⟨t4.trans y4.symm, RL_of (e8.trans g8.symm) (by rw [e11, e12, e13, e14, g11, g12, g13, g14]; exact hFl) (by rw [e15, e16, e17, g15, g16, g17]; exact hTr) (by rw [e23, e24, g23, g24]; exact hFa) (by rw [e3, ec2, ec4, g3, gc2, gc4]; exact hs) (e7.trans (h7.trans g7.symm))⟩
    · exact absurd (hk.1.trans (y3.trans ho.1.symm)) t3
    · exact absurd (hk.1.trans (y8.trans ho.1.symm)) t3
    · exact (y1.elim (fun z => t1 (hk.1.trans z)) (fun z => t2 (ho.1.trans z))).elim
    · exact absurd (hk.1.symm.trans (t3.trans ho.1)) y3
    · exact ⟨t5.trans y5.symm, RL_of (e8.trans g8.symm) (by rw [e11, e12, e13, e14, g11, g12, g13, g14]; exact hFl) (by rw [e15, e16, e17, g15, g16, g17]; exact hTr) (by rw [e23, e24, g23, g24]; exact hFa) (by rw [e3, ec2, ec4, g3, gc2, gc4]; exact hs) (e7.trans (h7.trans g7.symm))⟩
    · exact absurd ⟨ya, yb, yn, y1, y2, y3, by rw [(hk.2 t1).1]; exact y4, by rw [(ho.2 t2).1]; exact y5⟩ t4
    · exact (y1.elim (fun z => t6 (hk.1.trans z)) (fun z => t7 (ho.1.trans z))).elim
    · exact absurd (hk.1.symm.trans (t8.trans ho.1)) y3
    · exact absurd ⟨ta, tb, tn, t1, t2, t3, by rw [← (hk.2 t6).1]; exact t4, by rw [← (ho.2 t7).1]; exact t5⟩ y4
    · have l1 := hln k p1
      have l2 := hln o p2
      have l3 := kln k p1
      have l4 := kln o p2
      have e : ta = ya := (n_inj (by omega) (by omega)).mp (t1.symm.trans y1)
      subst e
      have e : tb = yb := (n_inj (by omega) (by omega)).mp (t2.symm.trans y2)
      subst e
      have e : tn = yn := (n_inj (by omega) (by omega)).mp (t3.symm.trans y3)
      subst e
      exact ⟨t9.trans y9.symm, RL_of (e8.trans g8.symm) (by rw [e11, e12, e13, e14, g11, g12, g13, g14]; exact hFl) (by rw [e15, e16, e17, g15, g16, g17]; exact hTr) (by rw [e23, e24, g23, g24]; exact hFa) (by rw [e3, ec2, t10, g3, gc2, y10]; exact sh_copy hs hln p1 t6 t4) (e7.trans (h7.trans g7.symm))⟩
set_option maxHeartbeats 1000000 in
theorem pr_tell {v w : Nat → Nat → Nat} {c d : Nat → Nat → Int32} {u u' : (Nat → Nat → Nat) × (Nat → Nat → Int32)} {x : Int32} {r r' : Int32} (hI : XI v) (hJ : XI w) (hR : ALK v c w d) (h : sp_tell v c u x r) (h' : sp_tell w d u' x r') : r = r' ∧ ALK u.1 u.2 u'.1 u'.2 := by
  obtain ⟨h0, hFl, hTr, hFa, hs, h7⟩ := id hR
  obtain ⟨a0, a1, a2, a3, a4⟩ := id hFl
  obtain ⟨b0, b1⟩ := id hTr
  obtain ⟨c0, c1⟩ := id hFa
  obtain ⟨hnb, hnd, hbt, hfg, hne, hnc, hdk, hnf, hkn, hln, hst, hdc, hsp⟩ := id hI
  obtain ⟨knb, knd, kbt, kfg, kne, knc, kdk, knf, kkn, kln, kst, kdc, ksp⟩ := id hJ
  rcases h with ⟨p1, p2, e3, e11, e12, e13, e14, e15, e16, e17, e23, e24, ec2, ec4, e7, e8⟩ | ⟨dd, p1, p2, hx, e3, e11, e12, e13, e14, e15, e16, e17, e23, e24, ec2, ec4, e8⟩ <;> rcases h' with ⟨z1, z2, g3, g11, g12, g13, g14, g15, g16, g17, g23, g24, gc2, gc4, g7, g8⟩ | ⟨dd1, z1, z2, hy, g3, g11, g12, g13, g14, g15, g16, g17, g23, g24, gc2, gc4, g8⟩
  · exact ⟨p2.trans z2.symm, RL_of (e8.trans (h0.trans g8.symm)) (by rw [e11, e12, e13, e14, g11, g12, g13, g14]; exact hFl) (by rw [e15, e16, e17, g15, g16, g17]; exact hTr) (by rw [e23, e24, g23, g24]; exact hFa) (by rw [e3, ec2, ec4, g3, gc2, gc4]; exact hs) (e7.trans (h7.trans g7.symm))⟩
  · exact q_x p1 (by omega) z2
  · exact q_x z1 (by omega) p2
  · have e := x_one (by omega) (by omega) p1 z1 p2 z2
    subst e
    have hb := b1 dd p1
    have hb1 := hb.1
    rcases hx with ⟨t1, t2, t3⟩ | ⟨t1, t2, t3⟩ | ⟨t1, t2, t3⟩ <;> rcases hy with ⟨y1, y2, y3⟩ | ⟨y1, y2, y3⟩ | ⟨y1, y2, y3⟩
    · exact ⟨by rw [t2, y2, hb.2], RL_of (e8.trans (h0.trans g8.symm)) (by rw [e11, e12, e13, e14, g11, g12, g13, g14]; exact hFl) (by rw [e15, e16, e17, g15, g16, g17]; exact hTr) (by rw [e23, e24, g23, g24]; exact hFa) (by rw [e3, ec2, ec4, g3, gc2, gc4]; exact hs) (by rw [t3, y3, h7])⟩
    · exfalso; omega
    · exfalso; omega
    · exfalso; omega
    · exact ⟨by rw [t2, y2, hb.2], RL_of (e8.trans (h0.trans g8.symm)) (by rw [e11, e12, e13, e14, g11, g12, g13, g14]; exact hFl) (by rw [e15, e16, e17, g15, g16, g17]; exact hTr) (by rw [e23, e24, g23, g24]; exact hFa) (by rw [e3, ec2, ec4, g3, gc2, gc4]; exact hs) (by rw [t3, y3, h7])⟩
    · exfalso; omega
    · exfalso; omega
    · exfalso; omega
    · exact ⟨by rw [t2, y2, hb.2], RL_of (e8.trans (h0.trans g8.symm)) (by rw [e11, e12, e13, e14, g11, g12, g13, g14]; exact hFl) (by rw [e15, e16, e17, g15, g16, g17]; exact hTr) (by rw [e23, e24, g23, g24]; exact hFa) (by rw [e3, ec2, ec4, g3, gc2, gc4]; exact hs) (by rw [t3, y3, h7])⟩
set_option maxHeartbeats 1000000 in
theorem pr_lead {v w : Nat → Nat → Nat} {c d : Nat → Nat → Int32} {u u' : (Nat → Nat → Nat) × (Nat → Nat → Int32)} {x : Int32} {r r' : Int32} (hI : XI v) (hJ : XI w) (hR : ALK v c w d) (h : sp_lead v c u x r) (h' : sp_lead w d u' x r') : r = r' ∧ ALK u.1 u.2 u'.1 u'.2 := by
  obtain ⟨h0, hFl, hTr, hFa, hs, h7⟩ := id hR
  obtain ⟨a0, a1, a2, a3, a4⟩ := id hFl
  obtain ⟨b0, b1⟩ := id hTr
  obtain ⟨c0, c1⟩ := id hFa
  obtain ⟨hnb, hnd, hbt, hfg, hne, hnc, hdk, hnf, hkn, hln, hst, hdc, hsp⟩ := id hI
  obtain ⟨knb, knd, kbt, kfg, kne, knc, kdk, knf, kkn, kln, kst, kdc, ksp⟩ := id hJ
  rcases h with ⟨p1, p2, e3, e11, e12, e13, e14, e15, e16, e17, e23, e24, ec2, ec4, e7, e8⟩ | ⟨dd, p1, p2, hx, e3, e11, e12, e13, e14, e15, e16, e17, e23, e24, ec2, ec4, e8⟩ <;> rcases h' with ⟨z1, z2, g3, g11, g12, g13, g14, g15, g16, g17, g23, g24, gc2, gc4, g7, g8⟩ | ⟨dd1, z1, z2, hy, g3, g11, g12, g13, g14, g15, g16, g17, g23, g24, gc2, gc4, g8⟩
  · exact ⟨p2.trans z2.symm, RL_of (e8.trans (h0.trans g8.symm)) (by rw [e11, e12, e13, e14, g11, g12, g13, g14]; exact hFl) (by rw [e15, e16, e17, g15, g16, g17]; exact hTr) (by rw [e23, e24, g23, g24]; exact hFa) (by rw [e3, ec2, ec4, g3, gc2, gc4]; exact hs) (e7.trans (h7.trans g7.symm))⟩
  · exact q_x p1 (by omega) z2
  · exact q_x z1 (by omega) p2
  · have e := x_one (by omega) (by omega) p1 z1 p2 z2
    subst e
    have hb1 := (b1 dd p1).1
    rcases hx with ⟨t1, t2, t3⟩ | ⟨t1, t2, t3⟩ <;> rcases hy with ⟨y1, y2, y3⟩ | ⟨y1, y2, y3⟩
    · exact ⟨t2.trans y2.symm, RL_of (e8.trans (h0.trans g8.symm)) (by rw [e11, e12, e13, e14, g11, g12, g13, g14]; exact hFl) (by rw [e15, e16, e17, g15, g16, g17]; exact hTr) (by rw [e23, e24, g23, g24]; exact hFa) (by rw [e3, ec2, ec4, g3, gc2, gc4]; exact hs) (by rw [t3, y3, h7])⟩
    · exfalso; omega
    · exfalso; omega
    · exact ⟨t2.trans y2.symm, RL_of (e8.trans (h0.trans g8.symm)) (by rw [e11, e12, e13, e14, g11, g12, g13, g14]; exact hFl) (by rw [e15, e16, e17, g15, g16, g17]; exact hTr) (by rw [e23, e24, g23, g24]; exact hFa) (by rw [e3, ec2, ec4, g3, gc2, gc4]; exact hs) (by rw [t3, y3, h7])⟩
set_option maxHeartbeats 1000000 in
theorem pr_lock {v w : Nat → Nat → Nat} {c d : Nat → Nat → Int32} {u u' : (Nat → Nat → Nat) × (Nat → Nat → Int32)} {sh so ii qq : Int32} {r r' : Int32} (hI : XI v) (hJ : XI w) (hR : ALK v c w d) (h : sp_lock v c u sh so ii qq r) (h' : sp_lock w d u' sh so ii qq r') : r = r' ∧ ALK u.1 u.2 u'.1 u'.2 := by
  obtain ⟨h0, hFl, hTr, hFa, hs, h7⟩ := id hR
  obtain ⟨a0, a1, a2, a3, a4⟩ := id hFl
  obtain ⟨b0, b1⟩ := id hTr
  obtain ⟨c0, c1⟩ := id hFa
  obtain ⟨hnb, hnd, hbt, hfg, hne, hnc, hdk, hnf, hkn, hln, hst, hdc, hsp⟩ := id hI
  obtain ⟨knb, knd, kbt, kfg, kne, knc, kdk, knf, kkn, kln, kst, kdc, ksp⟩ := id hJ
  have hs' := sh_sym hs
  rcases h with ⟨F, p1, e8, e3, e11, e12, e13, e14, e15, e16, e17, e23, e24, ec2, ec4, e7⟩ | ⟨k, s1, j, n, p1, e8, f, p2, hx⟩ <;> rcases h' with ⟨F', z1, g8, g3, g11, g12, g13, g14, g15, g16, g17, g23, g24, gc2, gc4, g7⟩ | ⟨k1, s2, j1, n1, z1, g8, f1, z2, hy⟩
  · obtain ⟨e1, e2⟩ := tk_one hs Iff.rfl p1 z1
    exact ⟨e1, RL_of (e8.trans (e2.trans g8.symm)) (by rw [e11, e12, e13, e14, g11, g12, g13, g14]; exact hFl) (by rw [e15, e16, e17, g15, g16, g17]; exact hTr) (by rw [e23, e24, g23, g24]; exact hFa) (by rw [e3, ec2, ec4, g3, gc2, gc4]; exact hs) (e7.trans (h7.trans g7.symm))⟩
  · exact (tk_no kln hs Iff.rfl p1 z1).elim
  · exact (tk_no hln hs' Iff.rfl z1 p1).elim
  · obtain ⟨rfl, rfl, rfl, rfl⟩ := tky_one hln kln p1 z1
    have hff : ∀ e, e < n → f e = f1 e := fun e he => (p2 e he).trans (((tky_sh hs p1).2.2 e he).trans (z2 e he).symm)
    rcases hx with ⟨pp, t1, t2, e3, e11, e12, e13, e14, e15, e16, e17, e23, e24, ec2, ec4, e7⟩ | ⟨S, t1, t2, t3, t4, t5, e3, ec2, ec4, e7⟩ <;> rcases hy with ⟨pp1, y1, y2, g3, g11, g12, g13, g14, g15, g16, g17, g23, g24, gc2, gc4, g7⟩ | ⟨S1, y1, y2, y3, y4, y5, g3, gc2, gc4, g7⟩
    · have e := FLT_one (FLT_cg hff t1) y1
      subst e
      exact ⟨t2.trans y2.symm, RL_of (e8.trans g8.symm) (by rw [e11, e12, e13, e14, g11, g12, g13, g14]; exact hFl) (by rw [e15, e16, e17, g15, g16, g17]; exact hTr) (by rw [e23, e24, g23, g24]; exact hFa) (by rw [e3, ec2, ec4, g3, gc2, gc4]; exact hs) (e7.trans (h7.trans g7.symm))⟩
    · exact (FLT_TKN (FLT_cg hff t1) y1).elim
    · exact (FLT_TKN y1 (TKN_cg hff t1)).elim
    · obtain ⟨k1, k2, k3⟩ := TKN_one (TKN_cg hff t1) y1
      subst k3
      exact ⟨by rw [t3, y3, ← t2.1, ← y2.1], RL_of (e8.trans g8.symm) (fl_lock k1 k2 t2 y2) (⟨t4.trans y4.symm, fun i hi => by rw [t4] at hi; exact absurd hi (Nat.not_lt_zero _)⟩) (⟨t5.trans y5.symm, fun i hi => by rw [t5] at hi; exact absurd hi (Nat.not_lt_zero _)⟩) (by rw [e3, ec2, ec4, g3, gc2, gc4]; exact hs) (e7.trans (h7.trans g7.symm))⟩
