/-! ===== one answer: the calls that read numbers ===== -/
theorem x_one {x : Int32} {j i n m : Nat} (hn : n ≤ 1000) (hm : m ≤ 1000) (h1 : j < n) (h2 : i < m) (e1 : x = nI j) (e2 : x = nI i) : j = i := (n_inj (by omega) (by omega)).mp (e1.symm.trans e2)
theorem d_board {n m : Nat} {f g : Nat → Nat} {x r r' : Int32} (hn : n ≤ 1000) (en : n = m) (e : ∀ b, b < n → f b = g b) (h : sp_board n f x r) (h' : sp_board m g x r') : r = r' := by
  subst en
  rcases h with ⟨j, h1, h2, h3⟩ | ⟨h1, h2⟩ <;> rcases h' with ⟨i, g1, g2, g3⟩ | ⟨g1, g2⟩
  · have := x_one hn hn h1 g1 h2 g2
    subst this
    rw [h3, g3, e j h1]
  · exact absurd ⟨j, h1, h2⟩ g1
  · exact absurd ⟨i, g1, g2⟩ h1
  · rw [h2, g2]
theorem d_beat {n m : Nat} {f g : Nat → Nat} {F G : Nat → Nat → Nat} {x k r r' : Int32} (hn : n ≤ 1000) (en : n = m) (e : ∀ b, b < n → f b = g b ∧ f b ≤ 1000) (e2 : ∀ b k, b < n → k < f b → F b k = G b k) (h : sp_beat n f F x k r) (h' : sp_beat m g G x k r') : r = r' := by
  subst en
  rcases h with ⟨j, h1, h2, h3⟩ | ⟨h1, h2⟩ <;> rcases h' with ⟨i, g1, g2, g3⟩ | ⟨g1, g2⟩
  · have := x_one hn hn h1 g1 h2 g2
    subst this
    have e1 := e j h1
    rw [← e1.1] at g3
    rcases h3 with ⟨a1, a2⟩ | ⟨q, a1, a2, a3⟩ | ⟨a1, a2, a3⟩ <;> rcases g3 with ⟨b1, b2⟩ | ⟨p, b1, b2, b3⟩ | ⟨b1, b2, b3⟩
    · rw [a2, b2]
    · exact absurd (b2.symm.trans a1) (n_neg (by omega) (by decide))
    · exact absurd a1 b1
    · exact absurd (a2.symm.trans b1) (n_neg (by omega) (by decide))
    · have := x_one e1.2 e1.2 a1 b1 a2 b2
      subst this
      rw [a3, b3, e2 j q h1 a1]
    · exact absurd ⟨q, a1, a2⟩ b2
    · exact absurd b1 a1
    · exact absurd ⟨p, b1, b2⟩ a2
    · rw [a3, b3]
  · exact absurd ⟨j, h1, h2⟩ g1
  · exact absurd ⟨i, g1, g2⟩ h1
  · rw [h2, g2]
theorem pA_cg {kd wt kd' wt' : Nat → Nat} {d : Nat} (h1 : kd d = kd' d) (h2 : wt d = wt' d) : pA kd wt d = pA kd' wt' d := by unfold pA; rw [h1, h2]
theorem lA_cg {kd kd' : Nat → Nat} {d : Nat} (h1 : kd d = kd' d) : lA kd d = lA kd' d := by unfold lA; rw [h1]
theorem d_ofDancer {n m : Nat} {f g wf wg : Nat → Nat} {x k r r' : Int32} (hn : n ≤ 1000) (en : n = m) (e : ∀ b, b < n → f b = g b ∧ wf b = wg b) (h : sp_ofDancer n f wf x k r) (h' : sp_ofDancer m g wg x k r') : r = r' := by
  subst en
  rcases h with ⟨j, h1, h2, h3⟩ | ⟨h1, h2⟩ <;> rcases h' with ⟨i, g1, g2, g3⟩ | ⟨g1, g2⟩
  · have := x_one hn hn h1 g1 h2 g2
    subst this
    have e1 := e j h1
    rcases h3 with ⟨a1, a2⟩ | ⟨a1, a2⟩ | ⟨a1, a2⟩ | ⟨a1, a2⟩ <;> rcases g3 with ⟨b1, b2⟩ | ⟨b1, b2⟩ | ⟨b1, b2⟩ | ⟨b1, b2⟩
    · rw [a2, b2, e1.1]
    · exact absurd (a1.symm.trans b1) (by decide)
    · exact absurd (a1.symm.trans b1) (by decide)
    · exact absurd ⟨0, by decide, a1⟩ b1
    · exact absurd (a1.symm.trans b1) (by decide)
    · rw [a2, b2, e1.2]
    · exact absurd (a1.symm.trans b1) (by decide)
    · exact absurd ⟨1, by decide, a1⟩ b1
    · exact absurd (a1.symm.trans b1) (by decide)
    · exact absurd (a1.symm.trans b1) (by decide)
    · rw [a2, b2, pA_cg e1.1 e1.2]
    · exact absurd ⟨2, by decide, a1⟩ b1
    · exact absurd ⟨0, by decide, b1⟩ a1
    · exact absurd ⟨1, by decide, b1⟩ a1
    · exact absurd ⟨2, by decide, b1⟩ a1
    · rw [a2, b2]
  · exact absurd ⟨j, h1, h2⟩ g1
  · exact absurd ⟨i, g1, g2⟩ h1
  · rw [h2, g2]
theorem nR_hit {x : Int32} {n j : Nat} (h : nR x n) (hj : j < n) (e : x = nI j) : False := h ⟨j, hj, e⟩
theorem d_many {a b p q a' b' p' q' : Nat} {x r r' : Int32} (e : a = a' ∧ b = b' ∧ p = p' ∧ q = q') (h : sp_many a b p q x r) (h' : sp_many a' b' p' q' x r') : r = r' := by
  obtain ⟨rfl, rfl, rfl, rfl⟩ := e
  rcases h with ⟨a1, a2⟩ | ⟨a1, a2⟩ | ⟨a1, a2⟩ | ⟨a1, a2⟩ | ⟨a1, a2⟩ <;> rcases h' with ⟨b1, b2⟩ | ⟨b1, b2⟩ | ⟨b1, b2⟩ | ⟨b1, b2⟩ | ⟨b1, b2⟩ <;>
  first
  | (rw [a2, b2]; done)
  | exact absurd (a1.symm.trans b1) (by decide)
  | exact (nR_hit b1 (j := 0) (by decide) a1).elim
  | exact (nR_hit b1 (j := 1) (by decide) a1).elim
  | exact (nR_hit b1 (j := 2) (by decide) a1).elim
  | exact (nR_hit b1 (j := 3) (by decide) a1).elim
  | exact (nR_hit a1 (j := 0) (by decide) b1).elim
  | exact (nR_hit a1 (j := 1) (by decide) b1).elim
  | exact (nR_hit a1 (j := 2) (by decide) b1).elim
  | exact (nR_hit a1 (j := 3) (by decide) b1).elim
theorem d_door {n m : Nat} {f g : Nat → Int32} {x r r' : Int32} (hn : n ≤ 1000) (en : n = m) (e : ∀ b, b < n → f b = g b) (h : sp_door n f x r) (h' : sp_door m g x r') : r = r' := by
  subst en
  rcases h with ⟨j, h1, h2, h3⟩ | ⟨h1, h2⟩ <;> rcases h' with ⟨i, g1, g2, g3⟩ | ⟨g1, g2⟩
  · have := x_one hn hn h1 g1 h2 g2
    subst this
    rw [h3, g3, e j h1]
  · exact absurd ⟨j, h1, h2⟩ g1
  · exact absurd ⟨i, g1, g2⟩ h1
  · rw [h2, g2]
theorem kn_cg {f g : Nat → Nat} {z : Nat} : ∀ n, (∀ i, i < n → f i = g i) → kn f z n = kn g z n := by
  intro n
  induction n with
  | zero => intro _; rfl
  | succ n ih => intro h; show _ ||| _ = _ ||| _; rw [ih (fun i hi => h i (by omega)), h n (by omega)]
theorem ig_cg {f g : Nat → Nat} {b : Nat} : ∀ n, (∀ i, i < n → f i = g i) → ig f b n = ig g b n := by
  intro n
  induction n with
  | zero => intro _; rfl
  | succ n ih => intro h; show ig f b n + _ = ig g b n + _; rw [ih (fun i hi => h i (by omega)), h n (by omega)]
theorem fw_cg {f g : Nat → Nat} {nf z : Nat} (h : ∀ i, i < nf → f i = g i) : ∀ n, fw f nf z n = fw g nf z n := by
  intro n
  induction n with
  | zero => rfl
  | succ n ih => show (if _ then _ else _) = (if _ then _ else _); rw [ih, kn_cg nf h]
theorem d_gone {n m nf mf : Nat} {f g kf kg : Nat → Nat} {x y r r' : Int32} (hn : n ≤ 1000) (en : n = m) (e : ∀ b, b < n → f b = g b) (hf : nf ≤ 7) (ef : nf = mf) (e2 : ∀ b, b < nf → kf b = kg b) (h : sp_gone n f nf kf x y r) (h' : sp_gone m g mf kg x y r') : r = r' := by
  subst en ef
  have hp := pow_le_128 hf
  rcases h with ⟨j, h1, h2, h3⟩ | ⟨h1, h2⟩ <;> rcases h' with ⟨i, g1, g2, g3⟩ | ⟨g1, g2⟩
  · have := x_one hn hn h1 g1 h2 g2
    subst this
    rcases h3 with ⟨q, a1, a2, a3⟩ | ⟨a1, a2⟩ <;> rcases g3 with ⟨p, b1, b2, b3⟩ | ⟨b1, b2⟩
    · have := x_one (by omega) (by omega) a1 b1 a2 b2
      subst this
      rw [a3, b3, kn_cg nf e2]
      unfold BDb
      rw [e j h1]
    · exact absurd ⟨q, a1, a2⟩ b1
    · exact absurd ⟨p, b1, b2⟩ a1
    · rw [a2, b2]
  · exact absurd ⟨j, h1, h2⟩ g1
  · exact absurd ⟨i, g1, g2⟩ h1
  · rw [h2, g2]
theorem ul_cg {n : Nat} {f g : Nat → Nat} {F G : Nat → Nat → Nat} (e : ∀ b, b < n → f b = g b) (e2 : ∀ b k, b < n → k < f b → F b k = G b k) {a b : Nat} (ha : a < n) (hb : b < n) : ulN (f a) (f b) (F a) (F b) 6 = ulN (g a) (g b) (G a) (G b) 6 := by
  rw [← e a ha, ← e b hb]
  exact ulN_congr (fun k hk => e2 a k ha hk) (fun k hk => e2 b k hb hk)
theorem d_apart {n m : Nat} {f g : Nat → Nat} {F G : Nat → Nat → Nat} {x y r r' : Int32} (hn : n ≤ 1000) (en : n = m) (e : ∀ b, b < n → f b = g b) (e2 : ∀ b k, b < n → k < f b → F b k = G b k) (h : sp_apart n f F x y r) (h' : sp_apart m g G x y r') : r = r' := by
  subst en
  rcases h with ⟨j, o, h1, h2, h3, h4, h5⟩ | ⟨h1, h2⟩ <;> rcases h' with ⟨i, q, g1, g2, g3, g4, g5⟩ | ⟨g1, g2⟩
  · have := x_one hn hn h1 g1 h3 g3
    subst this
    have := x_one hn hn h2 g2 h4 g4
    subst this
    rw [h5, g5, ul_cg e e2 h1 h2]
  · exact (g1.elim (fun z => z ⟨j, h1, h3⟩) (fun z => z ⟨o, h2, h4⟩)).elim
  · exact (h1.elim (fun z => z ⟨i, g1, g3⟩) (fun z => z ⟨q, g2, g4⟩)).elim
  · rw [h2, g2]
theorem BG_cg {n : Nat} {f g : Nat → Nat} {F G : Nat → Nat → Nat} (e : ∀ b, b < n → f b = g b) (e2 : ∀ b k, b < n → k < f b → F b k = G b k) {a b : Nat} (ha : a < n) (hb : b < n) (h : BGb f F a b) : BGb g G a b := by
  obtain ⟨h1, h2⟩ := h
  rw [e a ha, e b hb] at h1
  refine ⟨h1, fun k hk => ?_⟩
  rw [← e a ha] at hk h1
  rw [← e b hb] at h1
  rw [← e2 a k ha hk, ← e2 b k hb (by omega)]
  exact h2 k hk
theorem d_safe {n m : Nat} {f g : Nat → Nat} {F G : Nat → Nat → Nat} {r r' : Int32} (en : n = m) (e : ∀ b, b < n → f b = g b) (e2 : ∀ b k, b < n → k < f b → F b k = G b k) (h : sp_safe n f F r) (h' : sp_safe m g G r') : r = r' := by
  subst en
  have e' : ∀ b, b < n → g b = f b := fun b hb => (e b hb).symm
  have e2' : ∀ b k, b < n → k < g b → G b k = F b k := fun b k hb hk => (e2 b k hb (by rw [e b hb]; exact hk)).symm
  rcases h with ⟨a1, a2⟩ | ⟨a1, ⟨p, q, a2, a3, a4, a5⟩, a6⟩ | ⟨a1, a2, a3⟩ <;> rcases h' with ⟨b1, b2⟩ | ⟨b1, ⟨s, t, b2, b3, b4, b5⟩, b6⟩ | ⟨b1, b2, b3⟩
  · rw [a2, b2]
  · omega
  · omega
  · omega
  · rw [a6, b6]
  · exact absurd ⟨p, q, a2, a3, a4, BG_cg e e2 a2 a3 a5⟩ b2
  · omega
  · exact absurd ⟨s, t, b2, b3, b4, BG_cg e' e2' b2 b3 b5⟩ a2
  · rw [a3, b3]
/-! one answer: the calls that dance -/
theorem FE_cg {nb : Nat} {need need' : Nat → Nat} {nc : Nat} {li p li' p' st st' : Nat → Nat} {k : Nat} (en : ∀ b, b < nb → need b = need' b) (h : ∀ e, e < nc → tr li st k e = tr li' st' k e ∧ p e = p' e) : FE nb need nc li p st k = FE nb need' nc li' p' st' k :=
  fe_congr nb (fun b hb => ⟨sm_congr (fun d hd => by rw [(h d hd).1, (h d hd).2]), en b hb⟩)
/-- what dances hang on -/
def CGf (nb nc B : Nat) (need li p F need' li' p' F' : Nat → Nat) : Prop := (∀ b, b < nb → need b = need' b) ∧ (∀ e, e < nc → p e = p' e ∧ li e = li' e) ∧ ∀ k, k < B → F k = F' k
theorem CGf_sym {nb nc B : Nat} {need li p F need' li' p' F' : Nat → Nat} (h : CGf nb nc B need li p F need' li' p' F') : CGf nb nc B need' li' p' F' need li p F :=
  ⟨fun b hb => (h.1 b hb).symm, fun e he => ⟨(h.2.1 e he).1.symm, (h.2.1 e he).2.symm⟩, fun k hk => (h.2.2 k hk).symm⟩
section
variable {nb nc B : Nat} {need li p F need' li' p' F' : Nat → Nat}
theorem FE_lp (h : CGf nb nc B need li p F need' li' p' F') {st : Nat → Nat} {k : Nat} : FE nb need nc li p st k = FE nb need' nc li' p' st k :=
  FE_cg h.1 (fun e he => ⟨by unfold tr; rw [(h.2.1 e he).2], (h.2.1 e he).1⟩)
theorem OK_cg (h : CGf nb nc B need li p F need' li' p' F') {t : Nat → Nat} {k : Nat} (hk : k < B) (q : OKb nb need nc li p F k t) : OKb nb need' nc li' p' F' k t := by
  unfold OKb at q ⊢
  rw [← FE_lp h, ← h.2.2 k hk]; exact q
theorem PP_cg (h : CGf nb nc B need li p F need' li' p' F') {t : Nat → Nat} {k : Nat} (hk : k < B) (q : PPb nb need nc li p F B k t) : PPb nb need' nc li' p' F' B k t :=
  ⟨OK_cg h hk q.1, fun hB => by obtain ⟨t', h1, h2⟩ := q.2 hB; exact ⟨t', cp_lp (fun e he => (h.2.1 e he).2) h1, OK_cg h hB h2⟩⟩
theorem FST_cg (h : CGf nb nc B need li p F need' li' p' F') {g : Nat → Nat} {j : Nat} (hj : j < B) (q : FSTb nb need nc li p F B g j) : FSTb nb need' nc li' p' F' B g j := by
  have hl : ∀ e, e < nc → li e = li' e := fun e he => (h.2.1 e he).2
  have hl' : ∀ e, e < nc → li' e = li e := fun e he => (h.2.1 e he).2.symm
  obtain ⟨⟨a1, a2, a3⟩, b⟩ := q
  refine ⟨⟨cp_lp hl a1, PP_cg h hj a2, fun t ht hq => a3 t (cp_lp hl' ht) (PP_cg (CGf_sym h) hj hq)⟩, fun hB => ?_⟩
  obtain ⟨b1, b2, b3⟩ := b hB
  exact ⟨cp_lp hl b1, OK_cg h hB b2, fun t ht hq => b3 t (cp_lp hl' ht) (OK_cg (CGf_sym h) hB hq)⟩
theorem NF_cg (h : CGf nb nc B need li p F need' li' p' F') {j : Nat} (hj : j < B) (q : NFb nb need nc li p F B j) : NFb nb need' nc li' p' F' B j :=
  fun st t ht hq => q st t (cp_lp (fun e he => (h.2.1 e he).2.symm) ht) (PP_cg (CGf_sym h) hj hq)
end
section
variable {nb nc : Nat} {need li p need' li' p' nbt nbt' : Nat → Nat} {fig fig' : Nat → Nat → Nat} {d : Nat}
theorem planY_cg (h : CGf nb nc (nbt d) need li p (fig d) need' li' p' (fig' d)) (e : nbt d = nbt' d) {st : Nat → Nat} (q : planY nb need nc li p nbt fig d st) : planY nb need' nc li' p' nbt' fig' d st := by
  intro j hj hB
  rw [← e] at hB ⊢
  exact FST_cg h hB (q j hj hB)
theorem planN_cg (h : CGf nb nc (nbt d) need li p (fig d) need' li' p' (fig' d)) (e : nbt d = nbt' d) (q : planN nb need nc li p nbt fig d) : planN nb need' nc li' p' nbt' fig' d := by
  obtain ⟨j, ⟨hj, hB⟩, h2⟩ := q
  refine ⟨j, ⟨hj, by rw [← e]; exact hB⟩, ?_⟩
  rw [← e]
  exact NF_cg h hB h2
end
theorem plan_YN {nb nc : Nat} {need li p nbt : Nat → Nat} {fig : Nat → Nat → Nat} {d : Nat} {st : Nat → Nat} (h : planY nb need nc li p nbt fig d st) (h' : planN nb need nc li p nbt fig d) : False := by
  obtain ⟨j, ⟨hj, hB⟩, h2⟩ := h'
  exact FST_NF (h j hj hB) h2
theorem plan_one {nb nc : Nat} {need li p nbt : Nat → Nat} {fig : Nat → Nat → Nat} {d : Nat} {st st' : Nat → Nat} (h : planY nb need nc li p nbt fig d st) (h' : planY nb need nc li p nbt fig d st') : ∀ k e, k < nbt d → e < nc → st (k * 4 + e) = st' (k * 4 + e) := FSTb_one h h'
section
variable {nb mb nc mc nd md : Nat} {need li p need' li' p' nbt nbt' : Nat → Nat} {fig fig' : Nat → Nat → Nat}
theorem d_can (hn : nd ≤ 1000) (eb : nb = mb) (ec : nc = mc) (ed : nd = md) (e1 : ∀ d, d < nd → nbt d = nbt' d) (h : ∀ d, d < nd → CGf nb nc (nbt d) need li p (fig d) need' li' p' (fig' d)) {x r r' : Int32} (q : sp_can nb need nc li p nd nbt fig x r) (q' : sp_can mb need' mc li' p' md nbt' fig' x r') : r = r' := by
  subst eb ec ed
  rcases q with ⟨j, h1, h2, h3⟩ | ⟨h1, h2⟩ <;> rcases q' with ⟨i, g1, g2, g3⟩ | ⟨g1, g2⟩
  · have := x_one hn hn h1 g1 h2 g2
    subst this
    rcases h3 with ⟨⟨st, a1⟩, a2⟩ | ⟨a1, a2⟩ <;> rcases g3 with ⟨⟨st', b1⟩, b2⟩ | ⟨b1, b2⟩
    · rw [a2, b2]
    · exact (plan_YN (planY_cg (h j h1) (e1 j h1) a1) b1).elim
    · exact (plan_YN b1 (planN_cg (h j h1) (e1 j h1) a1)).elim
    · rw [a2, b2]
  · exact absurd ⟨j, h1, h2⟩ g1
  · exact absurd ⟨i, g1, g2⟩ h1
  · rw [h2, g2]
theorem d_plan (hn : nd ≤ 1000) (hnc : nc ≤ 1000) (eb : nb = mb) (ec : nc = mc) (ed : nd = md) (e1 : ∀ d, d < nd → nbt d = nbt' d ∧ nbt d ≤ 1000) (h : ∀ d, d < nd → CGf nb nc (nbt d) need li p (fig d) need' li' p' (fig' d)) {x y z r r' : Int32} (q : sp_plan nb need nc li p nd nbt fig x y z r) (q' : sp_plan mb need' mc li' p' md nbt' fig' x y z r') : r = r' := by
  subst eb ec ed
  rcases q with ⟨d, j, e, a1, a2, a3, a4, a5, a6, a7⟩ | ⟨h1, h2⟩ <;> rcases q' with ⟨d', j', e', b1, b2, b3, b4, b5, b6, b7⟩ | ⟨g1, g2⟩
  · have := x_one hn hn a1 b1 a4 b4
    subst this
    have e2 := e1 d a1
    rw [← e2.1] at b2
    have := x_one e2.2 e2.2 a2 b2 a5 b5
    subst this
    have := x_one hnc hnc a3 b3 a6 b6
    subst this
    rcases a7 with ⟨st, c1, c2⟩ | ⟨c1, c2⟩ <;> rcases b7 with ⟨st', f1, f2⟩ | ⟨f1, f2⟩
    · rw [c2, f2, plan_one (planY_cg (h d a1) e2.1 c1) f1 j e (by rw [← e2.1]; exact a2) a3]
    · exact (plan_YN (planY_cg (h d a1) e2.1 c1) f1).elim
    · exact (plan_YN f1 (planN_cg (h d a1) e2.1 c1)).elim
    · rw [c2, f2]
  · exact absurd ⟨d, j, e, a1, by rw [← (e1 d a1).1]; exact a2, a3, a4, a5, a6⟩ g1
  · exact absurd ⟨d', j', e', b1, by rw [(e1 d' b1).1]; exact b2, b3, b4, b5, b6⟩ h1
  · rw [h2, g2]
theorem opd_cg {st st' : Nat → Nat} {bt d : Nat} (hn : ∀ b, b < nb → need b = need' b) (hl : ∀ e, e < nc → p e = p' e ∧ li e = li' e) (e1 : nbt d = nbt' d) (ef : ∀ k, k < nbt d → fig d k = fig' d k) (hs : ∀ k e, k < bt → e < nc → st (k * 4 + e) = st' (k * 4 + e)) (h : opd nb need nc li p st nbt fig bt d) : opd nb need' nc li' p' st' nbt' fig' bt d := by
  obtain ⟨h1, h2⟩ := h
  refine ⟨e1.symm.trans h1, fun j hj => ?_⟩
  rw [← e1] at hj
  rw [← ef j hj, ← h2 j hj]
  refine (FE_cg hn (fun e he => ⟨?_, (hl e he).1⟩)).symm
  unfold tr
  rw [(hl e he).2, hs j e (by omega) he, hs (j - 1) e (by omega) he]
theorem d_opd {st st' : Nat → Nat} {bt : Nat} (hnd : nd ≤ 1000) (hn : ∀ b, b < nb → need b = need' b) (hl : ∀ e, e < nc → p e = p' e ∧ li e = li' e) (e1 : ∀ d, d < nd → nbt d = nbt' d) (ef : ∀ d k, d < nd → k < nbt d → fig d k = fig' d k) (hs : ∀ k e, k < bt → e < nc → st (k * 4 + e) = st' (k * 4 + e)) {r r' : Int32}
    (q : sp_opd nb need nc li p st nd nbt fig bt r) (q' : sp_opd nb need' nc li' p' st' nd nbt' fig' bt r') : r = r' := by
  have t1 : ∀ d, d < nd → opd nb need nc li p st nbt fig bt d → opd nb need' nc li' p' st' nbt' fig' bt d := fun d hd => opd_cg hn hl (e1 d hd) (fun k hk => ef d k hd hk) hs
  have t2 : ∀ d, d < nd → opd nb need' nc li' p' st' nbt' fig' bt d → opd nb need nc li p st nbt fig bt d := fun d hd => opd_cg (fun b hb => (hn b hb).symm) (fun e he => ⟨(hl e he).1.symm, (hl e he).2.symm⟩) (e1 d hd).symm (fun k hk => (ef d k hd (by rw [e1 d hd]; exact hk)).symm) (fun k e hk he => (hs k e hk he).symm)
  rcases q with ⟨d, a1, a2, a3, a4⟩ | ⟨a1, a2⟩ <;> rcases q' with ⟨d', b1, b2, b3, b4⟩ | ⟨b1, b2⟩
  · rcases Nat.lt_trichotomy d d' with h | h | h
    · exact absurd (t1 d a1 a3) (b4 d h)
    · rw [a2, b2, h]
    · exact absurd (t2 d' b1 b3) (a4 d' h)
  · exact absurd (t1 d a1 a3) (b2 d a1)
  · exact absurd (t2 d' b1 b3) (a2 d' b1)
  · rw [a1, b1]
theorem d_wrg {st st' : Nat → Nat} {d : Nat} (h6 : nbt d ≤ 1000) (hn : ∀ b, b < nb → need b = need' b) (hl : ∀ e, e < nc → p e = p' e ∧ li e = li' e) (e1 : nbt d = nbt' d) (ef : ∀ k, k < nbt d → fig d k = fig' d k) (hs : ∀ k e, k < nbt d → e < nc → st (k * 4 + e) = st' (k * 4 + e)) {r r' : Int32}
    (q : sp_wrg nb need nc li p st nbt fig d r) (q' : sp_wrg nb need' nc li' p' st' nbt' fig' d r') : r = r' := by
  have t : ∀ j, j < nbt d → FE nb need nc li p st j = FE nb need' nc li' p' st' j := fun j hj => FE_cg hn (fun e he => ⟨by unfold tr; rw [(hl e he).2, hs j e hj he, hs (j - 1) e (by omega) he], (hl e he).1⟩)
  unfold sp_wrg at q'
  rw [← e1] at q'
  rcases q with ⟨k, a1, a2, a3, a4⟩ | ⟨a1, a2⟩ <;> rcases q' with ⟨k', b1, b2, b3, b4⟩ | ⟨b1, b2⟩
  · rcases Nat.lt_trichotomy k k' with h | h | h
    · exact absurd ((t k a1).trans ((b4 k h).trans (ef k a1).symm)) a3
    · rw [a2, b2, h]
    · exact absurd ((t k' b1).symm.trans ((a4 k' h).trans (ef k' b1))) b3
  · exact absurd ((t k a1).trans ((b2 k a1).trans (ef k a1).symm)) a3
  · exact absurd ((t k' b1).symm.trans ((a2 k' b1).trans (ef k' b1))) b3
  · rw [a1, b1]
theorem cr_cg {f : Nat} (hn : ∀ b, b < nb → need b = need' b) (hl : ∀ e, e < nc → p e = p' e ∧ li e = li' e) : ∀ {m : Nat} {st : Nat → Nat}, cr nb need nc li p f m st = cr nb need' nc li' p' f m st := by
  intro m
  induction m with
  | zero =>
    intro st
    show (if _ then _ else _) = (if _ then _ else _)
    rw [FE_cg (li' := li') (p' := p') (st' := st) hn (fun e he => ⟨by unfold tr; rw [(hl e he).2], (hl e he).1⟩)]
  | succ m ih => intro st; exact sm_congr (fun b _ => ih)
theorem d_plans (hnd : nd ≤ 1000) (eb : nb = mb) (ec : nc = mc) (ed : nd = md) (hn : ∀ b, b < nb → need b = need' b) (hl : ∀ e, e < nc → p e = p' e ∧ li e = li' e) (e1 : ∀ d, d < nd → nbt d = nbt' d ∧ nbt d ≤ 1000) (ef : ∀ d k, d < nd → k < nbt d → fig d k = fig' d k) {x k : Int32} {r r' : Int64}
    (q : sp_plans nb need nc li p nd nbt fig x k r) (q' : sp_plans mb need' mc li' p' md nbt' fig' x k r') : r = r' := by
  subst eb ec ed
  rcases q with ⟨d, j, a1, a2, a3, a4, st, a5⟩ | ⟨a1, a2⟩ <;> rcases q' with ⟨d', j', b1, b2, b3, b4, st', b5⟩ | ⟨b1, b2⟩
  · have := x_one hnd hnd a1 b1 a3 b3
    subst this
    have e2 := e1 d a1
    rw [← e2.1] at b2
    have := x_one e2.2 e2.2 a2 b2 a4 b4
    subst this
    rw [a5, b5, ef d j a1 a2, cr_cg hn hl, cr_agr (st' := st') (fun e he => absurd he (by omega))]
  · exact absurd ⟨d, j, a1, by rw [← (e1 d a1).1]; exact a2, a3, a4⟩ b1
  · exact absurd ⟨d', j', b1, by rw [(e1 d' b1).1]; exact b2, b3, b4⟩ a1
  · rw [a2, b2]
end
theorem d_limped {nb mb nc mc nd md : Nat} {need kd wt need' kd' wt' nbt nbt' : Nat → Nat} {fig fig' : Nat → Nat → Nat} (hnd : nd ≤ 1000) (eb : nb = mb) (ec : nc = mc) (ed : nd = md) (hn : ∀ b, b < nb → need b = need' b) (hl : ∀ e, e < nc → kd e = kd' e ∧ wt e = wt' e) (e1 : ∀ d, d < nd → nbt d = nbt' d) (ef : ∀ d k, d < nd → k < nbt d → fig d k = fig' d k) {x r r' : Int32}
    (q : sp_limped nb need nc kd wt nd nbt fig x r) (q' : sp_limped mb need' mc kd' wt' md nbt' fig' x r') : r = r' := by
  subst eb ec ed
  have hc : ∀ d, d < nd → CGf nb nc (nbt d) need (fun _ => 0) wt (fig d) need' (fun _ => 0) wt' (fig' d) := fun d hd => ⟨hn, fun e he => ⟨(hl e he).2, rfl⟩, fun k hk => ef d k hd hk⟩
  rcases q with ⟨j, h1, h2, h3⟩ | ⟨h1, h2⟩ <;> rcases q' with ⟨i, g1, g2, g3⟩ | ⟨g1, g2⟩
  · have := x_one hnd hnd h1 g1 h2 g2
    subst this
    rcases h3 with ⟨st, a1, a2⟩ | ⟨a1, a2⟩ <;> rcases g3 with ⟨st', b1, b2⟩ | ⟨b1, b2⟩
    · rw [← e1 j h1] at b2
      exact d_opd hnd hn (fun e he => ⟨pA_cg (hl e he).1 (hl e he).2, lA_cg (hl e he).1⟩) e1 ef (fun k e hk he => plan_one (planY_cg (hc j h1) (e1 j h1) a1) b1 k e (by rw [← e1 j h1]; exact hk) he) a2 b2
    · exact (plan_YN (planY_cg (hc j h1) (e1 j h1) a1) b1).elim
    · exact (plan_YN b1 (planN_cg (hc j h1) (e1 j h1) a1)).elim
    · rw [a2, b2]
  · exact absurd ⟨j, h1, h2⟩ g1
  · exact absurd ⟨i, g1, g2⟩ h1
  · rw [h2, g2]
