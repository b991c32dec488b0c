/-! rows pasted from kit/laws/BITS.to-paste (wb_), then rows over them -/
theorem wb_tb (n : Nat) : (lN n).toBitVec = BitVec.ofNat 64 n := rfl
theorem wb_inj {a b : Int64} (h : a.toBitVec = b.toBitVec) : a = b := Int64.toBitVec_inj.mp h
theorem wb_tn {n : Nat} (h : n < 2 ^ 64) : (lN n).toBitVec.toNat = n := by rw [wb_tb, BitVec.toNat_ofNat, Nat.mod_eq_of_lt h]
theorem wb_c : ∀ k, k < 64 → ((nI k).toInt64 &&& 63) = lN k := by decide +kernel
theorem wb_cu : ∀ k, k < 64 → ((nI k).toInt64.toUInt64 &&& Int64.toUInt64 63) = UInt64.ofNat k := by decide +kernel
theorem wb_sm : ∀ k, k < 64 → (BitVec.ofNat 64 k).smod 64 = BitVec.ofNat 64 k := by decide +kernel
theorem wb_pw {a b : Nat} (h : a ≤ b) : 2 ^ b = 2 ^ a * 2 ^ (b - a) := by rw [← Nat.pow_add]; congr 1; omega
theorem wb_lt2 {a b : Nat} (h : a < b) : 2 ^ a < 2 ^ b := Nat.pow_lt_pow_right (by decide) h
theorem wb_mod (n : Nat) : lN n = lN (n % 2 ^ 64) := wb_inj (by rw [wb_tb, wb_tb]; apply BitVec.eq_of_toNat_eq; rw [BitVec.toNat_ofNat, BitVec.toNat_ofNat, Nat.mod_mod])
theorem wb_shr {n k : Nat} (hn : n < 2 ^ 64) (hk : k < 64) : ((lN n).toUInt64 >>> ((nI k).toInt64.toUInt64 &&& Int64.toUInt64 63)).toInt64 = lN (n / 2 ^ k) := by
  rw [wb_cu k hk]
  apply wb_inj
  apply BitVec.eq_of_toNat_eq
  show ((lN n).toUInt64 >>> UInt64.ofNat k).toNat = (BitVec.ofNat 64 _).toNat
  have h1 : (UInt64.ofNat k).toNat = k := by
    show (BitVec.ofNat 64 k).toNat = k
    rw [BitVec.toNat_ofNat, Nat.mod_eq_of_lt (by omega)]
  have h2 : (lN n).toUInt64.toNat = n := wb_tn hn
  rw [UInt64.toNat_shiftRight, h1, h2, Nat.mod_eq_of_lt hk, Nat.shiftRight_eq_div_pow, BitVec.toNat_ofNat, Nat.mod_eq_of_lt (Nat.lt_of_le_of_lt (Nat.div_le_self _ _) hn)]
theorem wb_shl (n : Nat) {k : Nat} (hk : k < 64) : lN n <<< ((nI k).toInt64 &&& 63) = lN (n * 2 ^ k) := by
  rw [wb_c k hk]
  apply wb_inj
  rw [Int64.toBitVec_shiftLeft, wb_tb, wb_tb, wb_tb, wb_sm k hk]
  apply BitVec.eq_of_toNat_eq
  rw [BitVec.shiftLeft_eq', BitVec.toNat_shiftLeft, BitVec.toNat_ofNat, BitVec.toNat_ofNat, BitVec.toNat_ofNat, Nat.mod_eq_of_lt (show k < 2 ^ 64 by omega), Nat.shiftLeft_eq, Nat.mul_mod, Nat.mod_mod, ← Nat.mul_mod]
theorem wb_and {a b : Nat} (ha : a < 2 ^ 64) (hb : b < 2 ^ 64) : lN a &&& lN b = lN (a &&& b) := by
  apply wb_inj
  rw [Int64.toBitVec_and, wb_tb, wb_tb, wb_tb]
  apply BitVec.eq_of_toNat_eq
  rw [BitVec.toNat_and, BitVec.toNat_ofNat, BitVec.toNat_ofNat, BitVec.toNat_ofNat, Nat.mod_eq_of_lt ha, Nat.mod_eq_of_lt hb, Nat.mod_eq_of_lt (Nat.and_lt_two_pow _ hb)]
theorem wb_or {a b : Nat} (ha : a < 2 ^ 64) (hb : b < 2 ^ 64) : lN a ||| lN b = lN (a ||| b) := by
  apply wb_inj
  rw [Int64.toBitVec_or, wb_tb, wb_tb, wb_tb]
  apply BitVec.eq_of_toNat_eq
  rw [BitVec.toNat_or, BitVec.toNat_ofNat, BitVec.toNat_ofNat, BitVec.toNat_ofNat, Nat.mod_eq_of_lt ha, Nat.mod_eq_of_lt hb, Nat.mod_eq_of_lt (Nat.or_lt_two_pow ha hb)]
theorem wb_mask {n k : Nat} (hn : n < 2 ^ 64) (hk : k < 64) : lN n &&& lN (2 ^ k - 1) = lN (n % 2 ^ k) := by
  rw [wb_and hn (by have := wb_lt2 hk; omega), Nat.and_two_pow_sub_one_eq_mod]
theorem wb_a1 {n : Nat} (hn : n < 2 ^ 64) : lN n &&& 1 = lN (n % 2) := wb_mask (k := 1) hn (by decide)
theorem cmp_bit (x : Nat) : lg_cmp (lN (x % 2)) (lN 0) = nI (x % 2) := by
  rcases Nat.mod_two_eq_zero_or_one x with h | h <;> rw [h] <;> decide
theorem rg_set {h : Nat → Nat} {w b : Nat} (hr : ∀ q, q < 38 → h q < 2 ^ 64) (hw : w < 38) (hb : b < 64) : ∀ q, q < 38 → va_up h w (h w ||| 1 * 2 ^ b) q < 2 ^ 64 := by
  intro q hq
  by_cases e : q = w
  · subst e; rw [up_eq]; exact Nat.or_lt_two_pow (hr q hq) (by rw [Nat.one_mul]; exact Nat.pow_lt_pow_right (by decide) hb)
  · rw [up_ne e]; exact hr q hq
section GL
variable {p : Program} {l : Launch} {e : Env} {R : Room} {s : State} {m : MethodId} {args : Array Value} {below : List Frame} {meth : Method} {c : Code} {H H0 : Heap} {locs : List Loc} {cells slots : Nat} {Q : State → Prop}
variable {cc : ByteArray} {pc : Nat} {ls : Array Slot} {rest : List Value}
theorem w_land1 (hx : p.tables.exec = Jvm.exec) (hb : c.code = cc) {x : Nat} (hdg : decode cc pc = .ok (.land, 1)) (h1 : x < 2 ^ 64) (k : W p l e R s m args below meth c H locs cells slots Q (F0 m (pc + 1) ls (.long (lN (x % 2)) :: rest))) : W p l e R s m args below meth c H locs cells slots Q (F0 m pc ls (.long (lN 1) :: .long (lN x) :: rest)) :=
  lv_land hx hb hdg (by rw [show lN x &&& lN 1 = lN (x % 2) from wb_a1 h1]; exact k)
theorem w_lor (hx : p.tables.exec = Jvm.exec) (hb : c.code = cc) {x y : Nat} (hdg : decode cc pc = .ok (.lor, 1)) (h1 : x < 2 ^ 64) (h2 : y < 2 ^ 64) (k : W p l e R s m args below meth c H locs cells slots Q (F0 m (pc + 1) ls (.long (lN (x ||| y)) :: rest))) : W p l e R s m args below meth c H locs cells slots Q (F0 m pc ls (.long (lN y) :: .long (lN x) :: rest)) :=
  lv_lor hx hb hdg (by rw [wb_or h1 h2]; exact k)
theorem w_lcmp0 (hx : p.tables.exec = Jvm.exec) (hb : c.code = cc) {x : Nat} (hdg : decode cc pc = .ok (.lcmp, 1)) (k : W p l e R s m args below meth c H locs cells slots Q (F0 m (pc + 1) ls (.int (nI (x % 2)) :: rest))) : W p l e R s m args below meth c H locs cells slots Q (F0 m pc ls (.long (lN 0) :: .long (lN (x % 2)) :: rest)) :=
  W.lcmp hx hb hdg (by rw [cmp_bit]; exact k)
end GL
/-! what stays when the words for dancers are other ones of the same values, and when later beats are laid -/
theorem cp_lp {nb nc k d : Nat} {li li' st t : Nat → Nat} (h : ∀ e, e < nc → li e = li' e) (ht : cp nb nc li k d st t) : cp nb nc li' k d st t :=
  ⟨ht.1, ht.2.1, fun e h1 h2 => by rw [← h e h2]; exact ht.2.2 e h1 h2⟩
theorem OKb_lp {nb : Nat} {need : Nat → Nat} {nc : Nat} {li p li' p' F t : Nat → Nat} {k : Nat} (h : ∀ e, e < nc → p e = p' e ∧ li e = li' e) : OKb nb need nc li p F k t ↔ OKb nb need nc li' p' F k t := by
  unfold OKb
  rw [FE_congr (li' := li') (p' := p') (st' := t) (fun e he => ⟨by unfold tr; rw [(h e he).2], (h e he).1⟩)]
theorem PPb_lp {nb : Nat} {need : Nat → Nat} {nc : Nat} {li p li' p' F t : Nat → Nat} {B k : Nat} (h : ∀ e, e < nc → p e = p' e ∧ li e = li' e) (hp : PPb nb need nc li p F B k t) : PPb nb need nc li' p' F B k t :=
  ⟨(OKb_lp h).mp hp.1, fun hB => by obtain ⟨t', h1, h2⟩ := hp.2 hB; exact ⟨t', cp_lp (fun e he => (h e he).2) h1, (OKb_lp h).mp h2⟩⟩
theorem lp_sym {nc : Nat} {li p li' p' : Nat → Nat} (h : ∀ e, e < nc → p e = p' e ∧ li e = li' e) : ∀ e, e < nc → p' e = p e ∧ li' e = li e := fun e he => ⟨(h e he).1.symm, (h e he).2.symm⟩
def FSTb (nb : Nat) (need : Nat → Nat) (nc : Nat) (li p F : Nat → Nat) (B : Nat) (g : Nat → Nat) (j : Nat) : Prop :=
  MINb nb nc li j 0 g (PPb nb need nc li p F B j) g ∧ (j + 1 < B → MINb nb nc li (j + 1) 0 g (OKb nb need nc li p F (j + 1)) g)
def NFb (nb : Nat) (need : Nat → Nat) (nc : Nat) (li p F : Nat → Nat) (B : Nat) (j : Nat) : Prop := ∀ st, NOb nb nc li j 0 st (PPb nb need nc li p F B j)
theorem FSTb_lp {nb : Nat} {need : Nat → Nat} {nc : Nat} {li p li' p' F g : Nat → Nat} {B j : Nat} (h : ∀ e, e < nc → p e = p' e ∧ li e = li' e) (hf : FSTb nb need nc li p F B g j) : FSTb nb need nc li' p' F B g j := by
  have hl : ∀ e, e < nc → li e = li' e := fun e he => (h e he).2
  have hl' : ∀ e, e < nc → li' e = li e := fun e he => (h e he).2.symm
  obtain ⟨⟨a1, a2, a3⟩, b⟩ := hf
  refine ⟨⟨cp_lp hl a1, PPb_lp h a2, fun t ht hq => a3 t (cp_lp hl' ht) (PPb_lp (lp_sym h) hq)⟩, fun hB => ?_⟩
  obtain ⟨b1, b2, b3⟩ := b hB
  exact ⟨cp_lp hl b1, (OKb_lp h).mp b2, fun t ht hq => b3 t (cp_lp hl' ht) ((OKb_lp h).mpr hq)⟩
theorem NFb_lp {nb : Nat} {need : Nat → Nat} {nc : Nat} {li p li' p' F : Nat → Nat} {B j : Nat} (h : ∀ e, e < nc → p e = p' e ∧ li e = li' e) (hf : NFb nb need nc li p F B j) : NFb nb need nc li' p' F B j :=
  fun st t ht hq => hf st t (cp_lp (fun e he => (h e he).2.symm) ht) (PPb_lp (lp_sym h) hq)
theorem cp_even {nb nc j : Nat} {li st st' t : Nat → Nat} (hj : j % 2 = 0) (h : cp nb nc li j 0 st t) : cp nb nc li j 0 st' t := ⟨fun z => by omega, fun e he => absurd he (Nat.not_lt_zero _), h.2.2⟩
theorem min_even {nb nc j : Nat} {li st st' g : Nat → Nat} {Q : (Nat → Nat) → Prop} (hj : j % 2 = 0) (h : MINb nb nc li j 0 st Q g) : MINb nb nc li j 0 st' Q g :=
  ⟨cp_even hj h.1, h.2.1, fun t ht hq => h.2.2 t (cp_even hj ht) hq⟩
theorem OK_at {nb : Nat} {need : Nat → Nat} {nc : Nat} {li p F g g' : Nat → Nat} {k : Nat} (h : ∀ e, e < nc → g ((k - 1) * 4 + e) = g' ((k - 1) * 4 + e) ∧ g (k * 4 + e) = g' (k * 4 + e)) : OKb nb need nc li p F k g ↔ OKb nb need nc li p F k g' := by
  unfold OKb
  rw [FE_congr (li' := li) (p' := p) (st' := g') (fun e he => ⟨by unfold tr; rw [(h e he).1, (h e he).2], rfl⟩)]
theorem OK_even {nb : Nat} {need : Nat → Nat} {nc : Nat} {li p F g g' : Nat → Nat} {k : Nat} (hk : k % 2 = 0) (h : ∀ e, e < nc → g (k * 4 + e) = g' (k * 4 + e)) : OKb nb need nc li p F k g ↔ OKb nb need nc li p F k g' := by
  unfold OKb
  rw [FE_congr (li' := li) (p' := p) (st' := g') (fun e he => ⟨by unfold tr; rw [if_neg (by omega), if_neg (by omega)]; exact h e he, rfl⟩)]
theorem FSTb_later {nb : Nat} {need : Nat → Nat} {nc : Nat} {li p F g g' : Nat → Nat} {B j k : Nat} (hnc : nc ≤ 4) (hj : j % 2 = 0) (hjk : j + 2 ≤ k) (ha : agr k 0 g' g) (hf : FSTb nb need nc li p F B g j) : FSTb nb need nc li p F B g' j := by
  have e0 : ∀ e, e < nc → g (j * 4 + e) = g' (j * 4 + e) := fun e he => (ha _ (by omega)).symm
  have e1 : ∀ e, e < nc → g ((j + 1) * 4 + e) = g' ((j + 1) * 4 + e) := fun e he => (ha _ (by omega)).symm
  obtain ⟨⟨a1, a2, a3⟩, b⟩ := hf
  refine ⟨⟨⟨fun z => by omega, fun e he => absurd he (Nat.not_lt_zero _), fun e h1 h2 => by rw [← e0 e h2]; exact a1.2.2 e h1 h2⟩, ⟨(OK_even hj e0).mp a2.1, fun hB => ?_⟩, fun t ht hq hl => ?_⟩, fun hB => ?_⟩
  · obtain ⟨t', h1, h2⟩ := a2.2 hB
    exact ⟨t', cp_prev e0 h1, h2⟩
  · refine a3 t (cp_even hj ht) hq ?_
    obtain ⟨e, he, h1, h2⟩ := hl
    exact ⟨e, he, by rw [e0 e he]; exact h1, fun i hi => by rw [e0 i (by omega)]; exact h2 i hi⟩
  · obtain ⟨b1, b2, b3⟩ := b hB
    refine ⟨⟨fun _ e he => rfl, fun e he => absurd he (Nat.not_lt_zero _), fun e h1 h2 => by rw [← e1 e h2]; exact b1.2.2 e h1 h2⟩, (OK_at (fun e he => ⟨by rw [Nat.add_sub_cancel]; exact e0 e he, e1 e he⟩)).mp b2, fun t ht hq hl => ?_⟩
    refine b3 t (cp_prev (fun e he => (e0 e he).symm) ht) hq ?_
    obtain ⟨e, he, h1, h2⟩ := hl
    exact ⟨e, he, by rw [e1 e he]; exact h1, fun i hi => by rw [e1 i (by omega)]; exact h2 i hi⟩
/-- the first plan is one -/
theorem lx_tri {nc k : Nat} {t u : Nat → Nat} : lx nc k t u ∨ lx nc k u t ∨ ∀ e, e < nc → t (k * 4 + e) = u (k * 4 + e) := by
  have key : ∀ n, n ≤ nc → (lx nc k t u ∨ lx nc k u t ∨ ∀ e, e < n → t (k * 4 + e) = u (k * 4 + e)) := by
    intro n
    induction n with
    | zero => intro _; exact Or.inr (Or.inr (fun e he => absurd he (Nat.not_lt_zero _)))
    | succ n ih =>
      intro hn
      rcases ih (by omega) with h | h | h
      · exact Or.inl h
      · exact Or.inr (Or.inl h)
      · rcases Nat.lt_trichotomy (t (k * 4 + n)) (u (k * 4 + n)) with h1 | h1 | h1
        · exact Or.inl ⟨n, by omega, h1, h⟩
        · exact Or.inr (Or.inr (lt_s h h1))
        · exact Or.inr (Or.inl ⟨n, by omega, h1, fun j hj => (h j hj).symm⟩)
  exact key nc (Nat.le_refl _)
theorem min_one {nb nc k : Nat} {li st st' g g' : Nat → Nat} {Q : (Nat → Nat) → Prop} (h : MINb nb nc li k 0 st Q g) (h' : MINb nb nc li k 0 st' Q g') (hs : ∀ t, cp nb nc li k 0 st t ↔ cp nb nc li k 0 st' t) : ∀ e, e < nc → g (k * 4 + e) = g' (k * 4 + e) := by
  rcases @lx_tri nc k g g' with h1 | h1 | h1
  · exact absurd h1 (h'.2.2 g ((hs g).mp h.1) h.2.1)
  · exact absurd h1 (h.2.2 g' ((hs g').mpr h'.1) h'.2.1)
  · exact h1
theorem FSTb_one {nb : Nat} {need : Nat → Nat} {nc : Nat} {li p F g g' : Nat → Nat} {B : Nat} (h : ∀ j, j % 2 = 0 → j < B → FSTb nb need nc li p F B g j) (h' : ∀ j, j % 2 = 0 → j < B → FSTb nb need nc li p F B g' j) : ∀ k e, k < B → e < nc → g (k * 4 + e) = g' (k * 4 + e) := by
  intro k e hk he
  have hev : ∀ j, j % 2 = 0 → j < B → ∀ e, e < nc → g (j * 4 + e) = g' (j * 4 + e) := fun j hj hB => min_one (h j hj hB).1 (h' j hj hB).1 (fun t => ⟨cp_even hj, cp_even hj⟩)
  rcases Nat.mod_two_eq_zero_or_one k with h2 | h2
  · exact hev k h2 hk e he
  · obtain ⟨j, rfl⟩ : ∃ j, k = j + 1 := ⟨k - 1, by omega⟩
    have h3 := hev j (by omega) (by omega)
    exact min_one ((h j (by omega) (by omega)).2 hk) ((h' j (by omega) (by omega)).2 hk) (fun t => ⟨cp_prev h3, cp_prev (fun e he => (h3 e he).symm)⟩) e he
theorem FST_NF {nb : Nat} {need : Nat → Nat} {nc : Nat} {li p F g : Nat → Nat} {B j : Nat} (h : FSTb nb need nc li p F B g j) (h' : NFb nb need nc li p F B j) : False := h' g g h.1.1 h.1.2.1
