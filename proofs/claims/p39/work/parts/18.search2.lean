/-! ===== the search, and how many rows ===== -/
theorem up22 {v : Nat → Nat → Nat} {g : Nat → Nat} : va_up (va_up v 19 g) 22 (v 22) = va_up v 19 g := by
  funext j
  by_cases h : j = 22
  · subst h; simp [va_up]
  · simp [va_up, h]
theorem pre_s {g : Nat → Nat} {k d i nb : Nat} (h : ∀ e, e < d → g (k * 4 + e) < nb) (hi : i < nb) : ∀ e, e < d + 1 → va_up g (k * 4 + d) i (k * 4 + e) < nb := by
  intro e he
  by_cases hed : e = d
  · subst hed; rw [up_eq]; exact hi
  · rw [up_ne (by omega)]; exact h e (by omega)
theorem fst_s {nb : Nat} {need : Nat → Nat} {nc : Nat} {li p F g g' : Nat → Nat} {B k : Nat} (hnc : nc ≤ 4) (h1 : k % 2 = 0) (hF : ∀ j, j % 2 = 0 → j < k → j < B → FSTb nb need nc li p F B g j) (ha : agr k 0 g' g) (hk : FSTb nb need nc li p F B g' k) : ∀ j, j % 2 = 0 → j < k + 2 → j < B → FSTb nb need nc li p F B g' j := by
  intro j hj hjk hB
  by_cases e : j = k
  · subst e; exact hk
  · exact FSTb_later hnc hj (show j + 2 ≤ k by omega) ha (hF j hj (by omega) hB)
/-- how many rows of boards, for the last m dancers -/
def cr (nb : Nat) (need : Nat → Nat) (nc : Nat) (li p : Nat → Nat) (f : Nat) : Nat → (Nat → Nat) → Nat
  | 0, st => if FE nb need nc li p st 0 = f then 1 else 0
  | m + 1, st => sm (fun b => cr nb need nc li p f m (va_up st (0 * 4 + (nc - (m + 1))) b)) nb
theorem cr_s {nb : Nat} {need : Nat → Nat} {nc : Nat} {li p : Nat → Nat} {f d : Nat} {st : Nat → Nat} (h : d < nc) : cr nb need nc li p f (nc - d) st = sm (fun b => cr nb need nc li p f (nc - (d + 1)) (va_up st (0 * 4 + d) b)) nb := by
  obtain ⟨m, hm⟩ : ∃ m, nc - d = m + 1 := ⟨nc - d - 1, by omega⟩
  rw [hm, show nc - (d + 1) = m by omega]
  show sm (fun b => cr nb need nc li p f m (va_up st (0 * 4 + (nc - (m + 1))) b)) nb = _
  rw [show nc - (m + 1) = d by omega]
theorem cr_yes {nb : Nat} {need : Nat → Nat} {nc : Nat} {li p : Nat → Nat} {f : Nat} {st : Nat → Nat} (h : FE nb need nc li p st 0 = f) : cr nb need nc li p f 0 st = 1 := if_pos h
theorem cr_agr {nb : Nat} {need : Nat → Nat} {nc : Nat} {li p : Nat → Nat} {f : Nat} : ∀ {m : Nat} {st st' : Nat → Nat}, (∀ e, e < nc - m → st (0 * 4 + e) = st' (0 * 4 + e)) → cr nb need nc li p f m st = cr nb need nc li p f m st' := by
  intro m
  induction m with
  | zero =>
    intro st st' h
    show (if _ then _ else _) = (if _ then _ else _)
    rw [FE_congr (li' := li) (p' := p) (st' := st') (fun e he => ⟨by unfold tr; rw [if_neg (by omega), if_neg (by omega)]; exact h e he, rfl⟩)]
  | succ m ih =>
    intro st st' h
    refine sm_congr (fun b _ => ih (fun e he => ?_))
    by_cases h1 : e = nc - (m + 1)
    · subst h1; rw [up_eq, up_eq]
    · rw [up_ne (by omega), up_ne (by omega)]; exact h e (by omega)
theorem cr_some {nb : Nat} {need : Nat → Nat} {nc : Nat} {li p : Nat → Nat} {f : Nat} : ∀ {m : Nat} {st : Nat → Nat}, m ≤ nc → cr nb need nc li p f m st ≠ 0 → ∃ t, (∀ e, e < nc - m → t (0 * 4 + e) = st (0 * 4 + e)) ∧ FE nb need nc li p t 0 = f := by
  intro m
  induction m with
  | zero =>
    intro st _ h
    refine ⟨st, fun _ _ => rfl, ?_⟩
    by_cases h1 : FE nb need nc li p st 0 = f
    · exact h1
    · exact absurd (if_neg h1) h
  | succ m ih =>
    intro st hm h
    have h1 : ∃ b, b < nb ∧ cr nb need nc li p f m (va_up st (0 * 4 + (nc - (m + 1))) b) ≠ 0 := by
      refine Classical.byContradiction (fun z => h (sm_zero (fun b hb => ?_)))
      exact Classical.byContradiction (fun z2 => z ⟨b, hb, z2⟩)
    obtain ⟨b, hb, h2⟩ := h1
    obtain ⟨t, h3, h4⟩ := ih (by omega) h2
    exact ⟨t, fun e he => by rw [h3 e (by omega), up_ne (by omega)], h4⟩
theorem cr_no {nb : Nat} {need : Nat → Nat} {nc : Nat} {li p : Nat → Nat} {f d : Nat} {st : Nat → Nat} (hd : d ≤ nc) (h : ¬ opn nb need nc li p st f 0 d) : cr nb need nc li p f (nc - d) st = 0 := by
  refine Classical.byContradiction (fun z => ?_)
  obtain ⟨t, h1, h2⟩ := cr_some (by omega) z
  refine h (opn_of h2 (fun e he h3 => ?_))
  unfold tr
  rw [if_neg (by omega), if_neg (by omega)]
  exact h1 e (by rcases h3 with h3 | h3 <;> omega)
theorem up_agr {g st : Nat → Nat} {d x e : Nat} (ha : agr 0 d g st) (he : e < d + 1) : va_up g (0 * 4 + d) x (0 * 4 + e) = va_up st (0 * 4 + d) x (0 * 4 + e) := by
  by_cases h : e = d
  · subst h; rw [up_eq, up_eq]
  · rw [up_ne (by omega), up_ne (by omega)]; exact ha _ (by omega)
theorem cr_lp {nb : Nat} {need : Nat → Nat} {nc : Nat} {li p li' p' : Nat → Nat} {f : Nat} (h : ∀ e, e < nc → p e = p' e ∧ li e = li' e) : ∀ {m : Nat} {st : Nat → Nat}, cr nb need nc li p f m st = cr nb need nc li' p' f m st := by
  intro m
  induction m with
  | zero =>
    intro st
    show (if _ then _ else _) = (if _ then _ else _)
    rw [FE_congr (li' := li') (p' := p') (st' := st) (fun e he => ⟨by unfold tr; rw [(h e he).2], (h e he).1⟩)]
  | succ m ih => intro st; exact sm_congr (fun b _ => ih)
set_option maxHeartbeats 4000000 in
set_option maxRecDepth 100000 in
theorem k_placeBehind (l : Launch) (D : va_G) (a : Nat → Nat) (cI cJ cZ : ClassId) (A : Nat → Prop) (v : Nat → Nat → Nat) (c : Nat → Nat → Int32) (dd : Nat) (k : Nat) (j : Nat) (hI : XI v) (hdn : v 10 6 ≤ 4) (hli : ∀ e1, e1 < v 10 6 → v 21 e1 ≤ 1) (hpl : ∀ e1, e1 < v 10 6 → v 20 e1 ≤ 9) (hdd : dd < v 11 1) (hk : k < v 13 dd) (hkj : k = j + 1) (hje : j % 2 = 0) (hpre : ∀ e1, e1 < v 10 6 → v 18 (j * 4 + e1) < v 11 0) (hHI : HIb (v 11 0) (v 12) (v 10 6) (v 21) (v 20) (fun j => v 14 (dd * 6 + j)) j (v 22)) (hrg : ∀ q, q < 38 → v 22 q < 2 ^ 64) :
    mI l yX0_placeBehind wsX0_placeBehind 8 219 [.ref (a 10), .int (nI dd), .int (nI k)] D (xT cI cJ cZ) A (xW a cI cJ cZ v c) (fun u : ((Nat → Nat → Nat) × (Nat → Nat → Int32)) => xW a cI cJ cZ u.1 u.2)
    (fun (r : Int32) (u : ((Nat → Nat → Nat) × (Nat → Nat → Int32))) => (∃ g18 : Nat → Nat, ∃ g19 : Nat → Nat, ∃ g22 : Nat → Nat, r = nI (1) ∧ u = (va_up (va_up (va_up v 18 (g18)) 19 (g19)) 22 (g22), c) ∧ agr k 0 g18 (v 18) ∧ (∀ q, q < 24 → g18 q < 8) ∧ MINb (v 11 0) (v 10 6) (v 21) k 0 (v 18) (OKb (v 11 0) (v 12) (v 10 6) (v 21) (v 20) (fun j => v 14 (dd * 6 + j)) k) g18) ∨ (∃ g18 : Nat → Nat, ∃ g19 : Nat → Nat, ∃ g22 : Nat → Nat, r = nI (0) ∧ u = (va_up (va_up (va_up v 18 (g18)) 19 (g19)) 22 (g22), c) ∧ agr k 0 g18 (v 18) ∧ (∀ q, q < 24 → g18 q < 8) ∧ NOb (v 11 0) (v 10 6) (v 21) k 0 (v 18) (OKb (v 11 0) (v 12) (v 10 6) (v 21) (v 20) (fun j => v 14 (dd * 6 + j)) k) ∧ HIb (v 11 0) (v 12) (v 10 6) (v 21) (v 20) (fun j => v 14 (dd * 6 + j)) j (g22) ∧ (∀ q, q < 38 → g22 q < 2 ^ 64))) := by
  refine w_bI cX0_placeBehind 5 .boolean (by decide) rfl (Nat.le_of_ble_eq_true rfl) (Or.inr rfl) ?_
  intro p e s m args below meth c0 ls Q hx hb hml hts hown hK hN hA hret hP hD hS hl
  have hl : lv_has ls 5 [(0, .ref (a 10)), (1, .int (nI (dd))), (2, .int (nI (k)))] := hl
  have hinX0 : ∀ w ∈ wsX00, w ∈ wsX0_placeBehind := fun w h => List.mem_cons_of_mem _ (List.mem_append_left _ (List.mem_append_right _ h))
  obtain ⟨hnb, hnd, hbt, hfg, hne, hnc, hdk, hnf, hkn, hln, hst, hdc, hsp⟩ := id hI
  have hbd := hbt dd hdd
  have hf1 := hfg dd k hdd hk
  have hf2 := pow_le_128 hnb
  have hkj2 : k - 1 = j := by omega
  have hlr := lrow_le (li := v 21) (st := v 18) (k := j) hdn (fun e he => Nat.lt_of_lt_of_le (hpre e he) hnb)
  refine lv_aload_n hx hb dX0_placeBehind_0 rfl (lv_at hl 0 rfl) ?_
  refine lv_iload_n hx hb dX0_placeBehind_1 rfl (lv_at hl 2 rfl) ?_
  refine w_cVi (rest := []) hx hb hml hown hts (k_lrow l D a cI cJ cZ A v c k j (by first | assumption | omega) (by first | assumption | omega) (by first | assumption | omega) (by first | assumption | omega) (by first | assumption | omega) (by exact fun e he => Nat.lt_of_lt_of_le (hpre e he) hnb)) 1 gX0_placeBehind_X0_limpersRow rfl hdX0_limpersRow ⟨Nat.le_of_ble_eq_true rfl, Nat.le_of_ble_eq_true rfl⟩ hK hN hP hD hS hA 10 0 rfl rfl rfl rfl hl.1 rfl (Nat.le_of_ble_eq_true rfl) dX0_placeBehind_2 ⟨Nat.le_of_ble_eq_true rfl, Nat.le_of_ble_eq_true rfl⟩ (fun r u H locs hq hP hD hS => ?_)
  obtain rfl := hq
  have hP : va_P D vwCl (xW a cI cJ cZ v c) H := hP
  have hD : va_D A (xW a cI cJ cZ v c) := hD
  refine lv_istore_n (lv' := [(3, .int (nI (lrow ((v 21)) ((v 18)) j ((v 10 6))))), (0, .ref (a 10)), (1, .int (nI (dd))), (2, .int (nI (k)))]) hx hb dX0_placeBehind_5 rfl hl (by decide) rfl (fun ls hl => ?_)
  refine lv_iload_n hx hb dX0_placeBehind_6 rfl (lv_at hl 0 rfl) ?_
  refine lv_bipush (v := nI (64)) hx hb dX0_placeBehind_7 (by decide) ?_
  refine w_idiv (x := lrow ((v 21)) ((v 18)) j ((v 10 6))) (y := 64) hx hb dX0_placeBehind_9 (by omega) (by omega) (by omega) ?_
  refine lv_istore (lv' := [(4, .int (nI ((lrow ((v 21)) ((v 18)) j ((v 10 6))) / 64))), (3, .int (nI (lrow ((v 21)) ((v 18)) j ((v 10 6))))), (0, .ref (a 10)), (1, .int (nI (dd))), (2, .int (nI (k)))]) hx hb dX0_placeBehind_10 hl (by decide) rfl (fun ls hl => ?_)
  refine lv_iload hx hb dX0_placeBehind_12 (lv_at hl 0 rfl) ?_
  refine w_if_lt (x := (lrow ((v 21)) ((v 18)) j ((v 10 6))) / 64) hx hb dX0_placeBehind_14 (tgt := 46) (by decide) (by omega) ?_
  refine lv_iload hx hb dX0_placeBehind_17 (lv_at hl 0 rfl) ?_
  refine lv_aload_n hx hb dX0_placeBehind_19 rfl (lv_at hl 2 rfl) ?_
  refine va_get (D := D) (ci := 0) (v := .ref (a 22)) (C := RX0) (T := TX0) (N := 8) hx hb hts hinX0 hown hK hP 10 rfl rfl 7 (by decide) (hts (.fieldLink RX0 39 "DancedLock$Dance" "hopeless" "[J") (List.mem_of_getElem? (i := 1) rfl)) (fun _ h9 => h9) rfl dX0_placeBehind_20 ?_
  refine va_alen (v := nI 38) hx hb hK hP 22 1 rfl rfl rfl dX0_placeBehind_23 ?_
  refine w_icmp_ge (x := (lrow ((v 21)) ((v 18)) j ((v 10 6))) / 64) (y := 38) hx hb dX0_placeBehind_24 (tgt := 46) (by decide) (by omega) (by omega) (fun c24 => absurd c24 (by omega)) (fun c24 => ?_)
  refine lv_aload_n hx hb dX0_placeBehind_27 rfl (lv_at hl 2 rfl) ?_
  refine va_get (D := D) (ci := 0) (v := .ref (a 22)) (C := RX0) (T := TX0) (N := 8) hx hb hts hinX0 hown hK hP 10 rfl rfl 7 (by decide) (hts (.fieldLink RX0 39 "DancedLock$Dance" "hopeless" "[J") (List.mem_of_getElem? (i := 1) rfl)) (fun _ h9 => h9) rfl dX0_placeBehind_28 ?_
  refine lv_iload hx hb dX0_placeBehind_31 (lv_at hl 0 rfl) ?_
  refine w_lald (f := v 22) hx hb hK hP 22 1 rfl rfl (i := (lrow ((v 21)) ((v 18)) j ((v 10 6))) / 64) (by omega) (by decide) dX0_placeBehind_33 ?_
  refine lv_iload_n hx hb dX0_placeBehind_34 rfl (lv_at hl 1 rfl) ?_
  refine lv_bipush (v := nI (64)) hx hb dX0_placeBehind_35 (by decide) ?_
  refine w_irem (x := lrow ((v 21)) ((v 18)) j ((v 10 6))) (y := 64) hx hb dX0_placeBehind_37 (by omega) (by omega) (by omega) ?_
  refine lv_lushr (v := lN (v 22 (lrow (v 21) (v 18) j (v 10 6) / 64) / 2 ^ (lrow (v 21) (v 18) j (v 10 6) % 64))) hx hb dX0_placeBehind_38 (wb_shr (hrg _ (by omega)) (by omega)) ?_
  refine lv_lconst (v := lN 1) hx hb dX0_placeBehind_39 (by decide) ?_
  refine w_land1 hx hb dX0_placeBehind_40 (Nat.lt_of_le_of_lt (Nat.div_le_self _ _) (hrg _ (by omega))) ?_
  refine lv_lconst (v := lN 0) hx hb dX0_placeBehind_41 (by decide) ?_
  refine w_lcmp0 hx hb dX0_placeBehind_42 ?_
  refine w_if_eq (x := (v 22 (lrow (v 21) (v 18) j (v 10 6) / 64) / 2 ^ (lrow (v 21) (v 18) j (v 10 6) % 64)) % 2) hx hb dX0_placeBehind_43 (tgt := 48) (by decide) (by omega) (fun c43 => ?_) (fun c43 => ?_)
  · skip
    refine lv_aload_n hx hb dX0_placeBehind_48 rfl (lv_at hl 2 rfl) ?_
    refine va_get (D := D) (ci := 0) (v := .ref (a 22)) (C := RX0) (T := TX0) (N := 8) hx hb hts hinX0 hown hK hP 10 rfl rfl 7 (by decide) (hts (.fieldLink RX0 39 "DancedLock$Dance" "hopeless" "[J") (List.mem_of_getElem? (i := 1) rfl)) (fun _ h9 => h9) rfl dX0_placeBehind_49 ?_
    refine lv_iload hx hb dX0_placeBehind_52 (lv_at hl 0 rfl) ?_
    refine lv_dup2_11 hx hb dX0_placeBehind_54 rfl rfl ?_
    refine w_lald (f := v 22) hx hb hK hP 22 1 rfl rfl (i := (lrow ((v 21)) ((v 18)) j ((v 10 6))) / 64) (by omega) (by decide) dX0_placeBehind_55 ?_
    refine lv_lconst (v := lN 1) hx hb dX0_placeBehind_56 (by decide) ?_
    refine lv_iload_n hx hb dX0_placeBehind_57 rfl (lv_at hl 1 rfl) ?_
    refine lv_bipush (v := nI (64)) hx hb dX0_placeBehind_58 (by decide) ?_
    refine w_irem (x := lrow ((v 21)) ((v 18)) j ((v 10 6))) (y := 64) hx hb dX0_placeBehind_60 (by omega) (by omega) (by omega) ?_
    refine lv_lshl (v := lN (1 * 2 ^ (lrow (v 21) (v 18) j (v 10 6) % 64))) hx hb dX0_placeBehind_61 (wb_shl 1 (by omega)) ?_
    refine w_lor hx hb dX0_placeBehind_62 (hrg _ (by omega)) (by rw [Nat.one_mul]; exact Nat.pow_lt_pow_right (by decide) (by omega)) ?_
    refine w_last (f := v 22) (w := v 22 (lrow (v 21) (v 18) j (v 10 6) / 64) ||| 1 * 2 ^ (lrow (v 21) (v 18) j (v 10 6) % 64)) hx hb hK hP hD hS 22 1 rfl rfl (i := (lrow ((v 21)) ((v 18)) j ((v 10 6))) / 64) (by omega) (by decide) dX0_placeBehind_63 (fun H locs hP hD hS => ?_)
    have hP : va_P D vwCl (xW a cI cJ cZ (va_up v 22 (va_up (v 22) ((lrow ((v 21)) ((v 18)) j ((v 10 6))) / 64) (v 22 (lrow (v 21) (v 18) j (v 10 6) / 64) ||| 1 * 2 ^ (lrow (v 21) (v 18) j (v 10 6) % 64)))) c) H := hP
    have hD : va_D A (xW a cI cJ cZ (va_up v 22 (va_up (v 22) ((lrow ((v 21)) ((v 18)) j ((v 10 6))) / 64) (v 22 (lrow (v 21) (v 18) j (v 10 6) / 64) ||| 1 * 2 ^ (lrow (v 21) (v 18) j (v 10 6) % 64)))) c) := hD
    refine lv_aload_n hx hb dX0_placeBehind_64 rfl (lv_at hl 2 rfl) ?_
    refine lv_iload_n hx hb dX0_placeBehind_65 rfl (lv_at hl 3 rfl) ?_
    refine lv_iload_n hx hb dX0_placeBehind_66 rfl (lv_at hl 4 rfl) ?_
    refine lv_iconst (v := nI (0)) hx hb dX0_placeBehind_67 (by decide) ?_
    refine w_cVi (rest := []) hx hb hml hown hts (k_placeO l D a cI cJ cZ A 4 (va_up v 22 (va_up (v 22) ((lrow ((v 21)) ((v 18)) j ((v 10 6))) / 64) (v 22 (lrow (v 21) (v 18) j (v 10 6) / 64) ||| 1 * 2 ^ (lrow (v 21) (v 18) j (v 10 6) % 64)))) c dd k 0 (by show XI (va_up v 22 (va_up (v 22) ((lrow ((v 21)) ((v 18)) j ((v 10 6))) / 64) (v 22 (lrow (v 21) (v 18) j (v 10 6) / 64) ||| 1 * 2 ^ (lrow (v 21) (v 18) j (v 10 6) % 64)))); exact hI) (by show (v 10 6) ≤ 4; exact hdn) (by show ∀ e1, e1 < (v 10 6) → (v 21) e1 ≤ 1; exact hli) (by show ∀ e1, e1 < (v 10 6) → (v 20) e1 ≤ 9; exact hpl) (by show dd < (v 11 1); exact hdd) (by show k < (v 13) dd; exact hk) (by omega) (by show 0 ≤ (v 10 6); omega) (by omega)) 3 gX0_placeBehind_X0_place rfl hdX0_place ⟨Nat.le_of_ble_eq_true rfl, Nat.le_of_ble_eq_true rfl⟩ hK hN hP hD hS hA 10 0 rfl rfl rfl rfl hl.1 rfl (Nat.le_of_ble_eq_true rfl) dX0_placeBehind_68 ⟨Nat.le_of_ble_eq_true rfl, Nat.le_of_ble_eq_true rfl⟩ (fun r u H locs hq hP hD hS => ?_)
    rcases hq with ⟨g18_68, g19_68, rfl, rfl, ha_68, hs_68, hmin_68⟩ | ⟨g18_68, g19_68, rfl, rfl, ha_68, hs_68, hno_68⟩
    · skip
      have ha_68 : agr k 0 g18_68 ((v 18)) := ha_68
      have hmin_68 : MINb ((v 11 0)) ((v 10 6)) ((v 21)) k 0 ((v 18)) (OKb ((v 11 0)) ((v 12)) ((v 10 6)) ((v 21)) ((v 20)) (fun j => (v 14) (dd * 6 + j)) k) g18_68 := hmin_68
      have hP : va_P D vwCl (xW a cI cJ cZ (va_up (va_up (va_up v 18 (g18_68)) 19 (g19_68)) 22 (va_up (v 22) ((lrow ((v 21)) ((v 18)) j ((v 10 6))) / 64) (v 22 (lrow (v 21) (v 18) j (v 10 6) / 64) ||| 1 * 2 ^ (lrow (v 21) (v 18) j (v 10 6) % 64)))) c) H := hP
      have hD : va_D A (xW a cI cJ cZ (va_up (va_up (va_up v 18 (g18_68)) 19 (g19_68)) 22 (va_up (v 22) ((lrow ((v 21)) ((v 18)) j ((v 10 6))) / 64) (v 22 (lrow (v 21) (v 18) j (v 10 6) / 64) ||| 1 * 2 ^ (lrow (v 21) (v 18) j (v 10 6) % 64)))) c) := hD
      exact hret (nI (1)) (va_up (va_up (va_up v 18 (g18_68)) 19 (g19_68)) 22 (va_up (v 22) ((lrow ((v 21)) ((v 18)) j ((v 10 6))) / 64) (v 22 (lrow (v 21) (v 18) j (v 10 6) / 64) ||| 1 * 2 ^ (lrow (v 21) (v 18) j (v 10 6) % 64))), c) _ _ 71 _ dX0_placeBehind_71 rfl (by exact Or.inl ⟨g18_68, g19_68, _, rfl, rfl, ha_68, hs_68, hmin_68⟩) hP hD hS
    · skip
      have ha_68 : agr k 0 g18_68 ((v 18)) := ha_68
      have hno_68 : NOb ((v 11 0)) ((v 10 6)) ((v 21)) k 0 ((v 18)) (OKb ((v 11 0)) ((v 12)) ((v 10 6)) ((v 21)) ((v 20)) (fun j => (v 14) (dd * 6 + j)) k) := hno_68
      have hP : va_P D vwCl (xW a cI cJ cZ (va_up (va_up (va_up v 18 (g18_68)) 19 (g19_68)) 22 (va_up (v 22) ((lrow ((v 21)) ((v 18)) j ((v 10 6))) / 64) (v 22 (lrow (v 21) (v 18) j (v 10 6) / 64) ||| 1 * 2 ^ (lrow (v 21) (v 18) j (v 10 6) % 64)))) c) H := hP
      have hD : va_D A (xW a cI cJ cZ (va_up (va_up (va_up v 18 (g18_68)) 19 (g19_68)) 22 (va_up (v 22) ((lrow ((v 21)) ((v 18)) j ((v 10 6))) / 64) (v 22 (lrow (v 21) (v 18) j (v 10 6) / 64) ||| 1 * 2 ^ (lrow (v 21) (v 18) j (v 10 6) % 64)))) c) := hD
      exact hret (nI (0)) (va_up (va_up (va_up v 18 (g18_68)) 19 (g19_68)) 22 (va_up (v 22) ((lrow ((v 21)) ((v 18)) j ((v 10 6))) / 64) (v 22 (lrow (v 21) (v 18) j (v 10 6) / 64) ||| 1 * 2 ^ (lrow (v 21) (v 18) j (v 10 6) % 64))), c) _ _ 71 _ dX0_placeBehind_71 rfl (by exact Or.inr ⟨g18_68, g19_68, _, rfl, rfl, ha_68, hs_68, hno_68, HI_set hnb hje hHI hpre (fun r _ hr => hbit_set hr) (by rw [← hkj]; exact hno_68) hdn, rg_set hrg (by omega) (by omega)⟩) hP hD hS
  · skip
    refine lv_iconst (v := nI (0)) hx hb dX0_placeBehind_46 (by decide) ?_
    exact hret (nI (0)) (v, c) _ _ 47 _ dX0_placeBehind_47 rfl (by exact Or.inr ⟨v 18, v 19, v 22, rfl, by rw [up_self, up_self, up_self], agr_rf, hsp, by rw [hkj]; exact hHI _ hlr (show _ = 1 by omega) (v 18) hpre rfl, hHI, hrg⟩) hP hD hS

set_option maxHeartbeats 4000000 in
set_option maxRecDepth 100000 in
theorem k_placeE_step (l : Launch) (D : va_G) (a : Nat → Nat) (cI cJ cZ : ClassId) (A : Nat → Prop) (v : Nat → Nat → Nat) (c : Nat → Nat → Int32) (dd : Nat) (k : Nat) (d : Nat) (mm : Nat) (ih : ∀ (v' : Nat → Nat → Nat) (c' : Nat → Nat → Int32), d < v 10 6 → (XI v') → (v' 10 6 ≤ 4) → (∀ e1, e1 < v' 10 6 → v' 21 e1 ≤ 1) → (∀ e1, e1 < v' 10 6 → v' 20 e1 ≤ 9) → (dd < v' 11 1) → (k < v' 13 dd) → (k % 2 = 0) → ((d + 1) ≤ v' 10 6) → ((d + 1) + (mm - 1) = 4) → (∀ e1, e1 < (d + 1) → v' 18 (k * 4 + e1) < v' 11 0) → (HIb (v' 11 0) (v' 12) (v' 10 6) (v' 21) (v' 20) (fun j => v' 14 (dd * 6 + j)) k (v' 22)) → (∀ q, q < 38 → v' 22 q < 2 ^ 64) → mI l yX0_place wsX0_place (9 + (mm - 1)) (243 + 30 * (mm - 1)) [.ref (a 10), .int (nI dd), .int (nI k), .int (nI (d + 1))] D (xT cI cJ cZ) A (xW a cI cJ cZ v' c') (fun u : ((Nat → Nat → Nat) × (Nat → Nat → Int32)) => xW a cI cJ cZ u.1 u.2) (fun (r : Int32) (u : ((Nat → Nat → Nat) × (Nat → Nat → Int32))) => (∃ g18 : Nat → Nat, ∃ g19 : Nat → Nat, ∃ g22 : Nat → Nat, r = nI (1) ∧ u = (va_up (va_up (va_up v' 18 (g18)) 19 (g19)) 22 (g22), c') ∧ agr k (d + 1) g18 (v' 18) ∧ (∀ q, q < 24 → g18 q < 8) ∧ MINb (v' 11 0) (v' 10 6) (v' 21) k (d + 1) (v' 18) (PPb (v' 11 0) (v' 12) (v' 10 6) (v' 21) (v' 20) (fun j => v' 14 (dd * 6 + j)) (v' 13 dd) k) g18 ∧ (k + 1 < v' 13 dd → MINb (v' 11 0) (v' 10 6) (v' 21) (k + 1) 0 (g18) (OKb (v' 11 0) (v' 12) (v' 10 6) (v' 21) (v' 20) (fun j => v' 14 (dd * 6 + j)) (k + 1)) g18)) ∨ (∃ g18 : Nat → Nat, ∃ g19 : Nat → Nat, ∃ g22 : Nat → Nat, r = nI (0) ∧ u = (va_up (va_up (va_up v' 18 (g18)) 19 (g19)) 22 (g22), c') ∧ agr k (d + 1) g18 (v' 18) ∧ (∀ q, q < 24 → g18 q < 8) ∧ NOb (v' 11 0) (v' 10 6) (v' 21) k (d + 1) (v' 18) (PPb (v' 11 0) (v' 12) (v' 10 6) (v' 21) (v' 20) (fun j => v' 14 (dd * 6 + j)) (v' 13 dd) k) ∧ HIb (v' 11 0) (v' 12) (v' 10 6) (v' 21) (v' 20) (fun j => v' 14 (dd * 6 + j)) k (g22) ∧ (∀ q, q < 38 → g22 q < 2 ^ 64)))) (hI : XI v) (hdn : v 10 6 ≤ 4) (hli : ∀ e1, e1 < v 10 6 → v 21 e1 ≤ 1) (hpl : ∀ e1, e1 < v 10 6 → v 20 e1 ≤ 9) (hdd : dd < v 11 1) (hk : k < v 13 dd) (hke : k % 2 = 0) (hd : d ≤ v 10 6) (hm : d + mm = 4) (hpre : ∀ e1, e1 < d → v 18 (k * 4 + e1) < v 11 0) (hHI : HIb (v 11 0) (v 12) (v 10 6) (v 21) (v 20) (fun j => v 14 (dd * 6 + j)) k (v 22)) (hrg : ∀ q, q < 38 → v 22 q < 2 ^ 64) :
    mI l yX0_place wsX0_place (9 + mm) (243 + 30 * mm) [.ref (a 10), .int (nI dd), .int (nI k), .int (nI d)] D (xT cI cJ cZ) A (xW a cI cJ cZ v c) (fun u : ((Nat → Nat → Nat) × (Nat → Nat → Int32)) => xW a cI cJ cZ u.1 u.2)
    (fun (r : Int32) (u : ((Nat → Nat → Nat) × (Nat → Nat → Int32))) => (∃ g18 : Nat → Nat, ∃ g19 : Nat → Nat, ∃ g22 : Nat → Nat, r = nI (1) ∧ u = (va_up (va_up (va_up v 18 (g18)) 19 (g19)) 22 (g22), c) ∧ agr k d g18 (v 18) ∧ (∀ q, q < 24 → g18 q < 8) ∧ MINb (v 11 0) (v 10 6) (v 21) k d (v 18) (PPb (v 11 0) (v 12) (v 10 6) (v 21) (v 20) (fun j => v 14 (dd * 6 + j)) (v 13 dd) k) g18 ∧ (k + 1 < v 13 dd → MINb (v 11 0) (v 10 6) (v 21) (k + 1) 0 (g18) (OKb (v 11 0) (v 12) (v 10 6) (v 21) (v 20) (fun j => v 14 (dd * 6 + j)) (k + 1)) g18)) ∨ (∃ g18 : Nat → Nat, ∃ g19 : Nat → Nat, ∃ g22 : Nat → Nat, r = nI (0) ∧ u = (va_up (va_up (va_up v 18 (g18)) 19 (g19)) 22 (g22), c) ∧ agr k d g18 (v 18) ∧ (∀ q, q < 24 → g18 q < 8) ∧ NOb (v 11 0) (v 10 6) (v 21) k d (v 18) (PPb (v 11 0) (v 12) (v 10 6) (v 21) (v 20) (fun j => v 14 (dd * 6 + j)) (v 13 dd) k) ∧ HIb (v 11 0) (v 12) (v 10 6) (v 21) (v 20) (fun j => v 14 (dd * 6 + j)) k (g22) ∧ (∀ q, q < 38 → g22 q < 2 ^ 64))) := by
  refine w_bI cX0_place 5 .boolean (by decide) rfl (Nat.le_of_ble_eq_true rfl) (Or.inr rfl) ?_
  intro p e s m args below meth c0 ls Q hx hb hml hts hown hK hN hA hret hP hD hS hl
  have hl : lv_has ls 5 [(0, .ref (a 10)), (1, .int (nI (dd))), (2, .int (nI (k))), (3, .int (nI (d)))] := hl
  have hinX0 : ∀ w ∈ wsX00, w ∈ wsX0_place := fun w h => List.mem_cons_of_mem _ (List.mem_append_left _ (List.mem_append_right _ h))
  have hinX2 : ∀ w ∈ wsX20, w ∈ wsX0_place := fun w h => List.mem_cons_of_mem _ (List.mem_append_right _ h)
  obtain ⟨hnb, hnd, hbt, hfg, hne, hnc, hdk, hnf, hkn, hln, hst, hdc, hsp⟩ := id hI
  have hbd := hbt dd hdd
  have hf1 := hfg dd k hdd hk
  have hf2 := pow_le_128 hnb
  refine lv_aload_n hx hb dX0_place_0 rfl (lv_at hl 0 rfl) ?_
  refine lv_aload_n hx hb dX0_place_1 rfl (lv_at hl 0 rfl) ?_
  refine va_get (D := D) (ci := 0) (v := .ref (a 11)) (C := RX0) (T := TX0) (N := 8) hx hb hts hinX0 hown hK hP 10 rfl rfl 0 (by decide) (hts (.fieldLink RX0 12 "DancedLock$Dance" "floor" "LDancedLock$Floor;") (List.mem_of_getElem? (i := 1) rfl)) (fun _ h9 => h9) rfl dX0_place_2 ?_
  refine lv_iload_n hx hb dX0_place_5 rfl (lv_at hl 1 rfl) ?_
  refine lv_iload_n hx hb dX0_place_6 rfl (lv_at hl 2 rfl) ?_
  refine w_cVi (rest := [.ref (a 10)]) hx hb hml hown hts (k_figureAt l D a cI cJ cZ A v c dd k  (by first | assumption | omega) (by first | assumption | omega) (by first | assumption | omega) (by first | assumption | omega)) 2 gX0_place_X2_figureAt rfl hdX2_figureAt ⟨by show 2 + 1 ≤ 9 + mm; omega, by show 8 + (3 + 11) + (43) ≤ 243 + 30 * mm; omega⟩ hK hN hP hD hS hA 11 2 rfl rfl rfl rfl hl.1 rfl (Nat.le_of_ble_eq_true rfl) dX0_place_7 ⟨Nat.le_of_ble_eq_true rfl, Nat.le_of_ble_eq_true rfl⟩ (fun r u H locs hq hP hD hS => ?_)
  obtain rfl := hq
  have hP : va_P D vwCl (xW a cI cJ cZ v c) H := hP
  have hD : va_D A (xW a cI cJ cZ v c) := hD
  rw [show (nI (if k < (v 13) dd then (v 14) (dd * 6 + k) else 0)) = (nI (v 14 (dd * 6 + k))) from by rw [if_pos hk]]
  refine lv_iload_n hx hb dX0_place_10 rfl (lv_at hl 2 rfl) ?_
  refine lv_iload_n hx hb dX0_place_11 rfl (lv_at hl 3 rfl) ?_
  refine w_cVi (rest := []) hx hb hml hown hts (k_isOpen l D a cI cJ cZ A v c (v 14 (dd * 6 + k)) k d  (by first | assumption | omega | exact hsp) (by first | assumption | omega | exact hsp) (by first | assumption | omega | exact hsp) (by first | assumption | omega | exact hsp) (by first | assumption | omega | exact hsp) (by first | assumption | omega | exact hsp) (by first | assumption | omega | exact hsp) (by first | assumption | omega | exact hsp) (by first | assumption | omega | exact hsp)) 3 gX0_place_X0_isOpen rfl hdX0_isOpen ⟨by show 2 + 1 ≤ 9 + mm; omega, by show 8 + (8 + 11) + (48) ≤ 243 + 30 * mm; omega⟩ hK hN hP hD hS hA 10 0 rfl rfl rfl rfl hl.1 rfl (Nat.le_of_ble_eq_true rfl) dX0_place_12 ⟨Nat.le_of_ble_eq_true rfl, Nat.le_of_ble_eq_true rfl⟩ (fun r u H locs hq hP hD hS => ?_)
  rcases hq with ⟨g19_12, rfl, rfl, h_12⟩ | ⟨g19_12, rfl, rfl, h_12⟩
  · skip
    have hP : va_P D vwCl (xW a cI cJ cZ (va_up v 19 (g19_12)) c) H := hP
    have hD : va_D A (xW a cI cJ cZ (va_up v 19 (g19_12)) c) := hD
    refine w_if_ne (x := 1) hx hb dX0_place_15 (tgt := 20) (by decide) (by decide) (fun _ => ?_) (fun h => absurd h (by decide))
    refine lv_iload_n hx hb dX0_place_20 rfl (lv_at hl 3 rfl) ?_
    refine lv_aload_n hx hb dX0_place_21 rfl (lv_at hl 0 rfl) ?_
    refine va_get (D := D) (ci := 0) (v := .int (nI (v 10 6))) (C := RX0) (T := TX0) (N := 8) hx hb hts hinX0 hown hK hP 10 rfl rfl 6 (by decide) (hts (.fieldLink RX0 53 "DancedLock$Dance" "dancers" "I") (List.mem_of_getElem? (i := 2) rfl)) (fun _ h9 => h9) rfl dX0_place_22 ?_
    refine w_icmp_lt (x := d) (y := v 10 6) hx hb dX0_place_25 (tgt := 66) (by decide) (by omega) (by omega) (fun c25 => ?_) (fun c25 => ?_)
    · skip
      refine lv_aload_n hx hb dX0_place_66 rfl (lv_at hl 0 rfl) ?_
      refine lv_iload_n hx hb dX0_place_67 rfl (lv_at hl 2 rfl) ?_
      refine lv_iload_n hx hb dX0_place_68 rfl (lv_at hl 3 rfl) ?_
      refine w_cVi (rest := []) hx hb hml hown hts (k_isBound l D a cI cJ cZ A (va_up v 19 (g19_12)) c k d  (by show (v 10 6) ≤ 4; first | assumption | omega) (by show ∀ d, d < (v 10 6) → (v 21) d ≤ 1; first | assumption | omega) (by show d < (v 10 6); first | assumption | omega) (by first | assumption | omega)) 2 gX0_place_X0_isBound rfl hdX0_isBound ⟨by show 0 + 1 ≤ 9 + mm; omega, by show 8 + (3 + 11) + (0) ≤ 243 + 30 * mm; omega⟩ hK hN hP hD hS hA 10 0 rfl rfl rfl rfl hl.1 rfl (Nat.le_of_ble_eq_true rfl) dX0_place_69 ⟨Nat.le_of_ble_eq_true rfl, Nat.le_of_ble_eq_true rfl⟩ (fun r u H locs hq hP hD hS => ?_)
      rcases hq with ⟨rfl, h1_69, h2_69⟩ | ⟨rfl, h_69⟩
      · skip
        have h2_69 : (v 21) d ≠ 0 := h2_69
        exfalso; omega
      · skip
        have h_69 : ¬ (k % 2 = 1 ∧ (v 21) d ≠ 0) := h_69
        have hP : va_P D vwCl (xW a cI cJ cZ (va_up v 19 (g19_12)) c) H := hP
        have hD : va_D A (xW a cI cJ cZ (va_up v 19 (g19_12)) c) := hD
        refine w_if_eq (x := 0) hx hb dX0_place_72 (tgt := 92) (by decide) (by decide) (fun _ => ?_) (fun h => absurd h (by decide))
        refine lv_iconst (v := nI (0)) hx hb dX0_place_92 (by decide) ?_
        refine lv_istore (lv' := [(4, .int (nI (0))), (0, .ref (a 10)), (1, .int (nI (dd))), (2, .int (nI (k))), (3, .int (nI (d)))]) hx hb dX0_place_93 hl (by decide) rfl (fun ls hl => ?_)
        have L95 : ∀ (n : Nat) (i : Nat) (g18 : Nat → Nat) (g19 : Nat → Nat) (g22 : Nat → Nat) (H : Heap) (locs : List Loc) (ls : Array Slot), v 11 0 - i < n → (i ≤ v 11 0) → (agr k d g18 (v 18)) → (∀ q, q < 24 → g18 q < 8) → (∀ t, cp (v 11 0) (v 10 6) (v 21) k d (v 18) t → t (k * 4 + d) < i → ¬ (PPb (v 11 0) (v 12) (v 10 6) (v 21) (v 20) (fun j => v 14 (dd * 6 + j)) (v 13 dd) k) t) → (HIb (v 11 0) (v 12) (v 10 6) (v 21) (v 20) (fun j => v 14 (dd * 6 + j)) k (g22)) → (∀ q, q < 38 → g22 q < 2 ^ 64) → va_P D vwCl (xW a cI cJ cZ (va_up (va_up (va_up v 18 (g18)) 19 (g19)) 22 (g22)) c) H → va_D A (xW a cI cJ cZ (va_up (va_up (va_up v 18 (g18)) 19 (g19)) 22 (g22)) c) → va_S A s.heap H locs → lv_has ls 5 [(4, .int (nI (i))), (0, .ref (a 10)), (1, .int (nI (dd))), (2, .int (nI (k))), (3, .int (nI (d)))] → W p l e { frames := 9 + mm, cells := 0, slots := 0, locals := 243 + 30 * mm } s m args below meth c0 H locs 0 0 Q (F0 m 95 ls []) := by
          intro n
          induction n with
          | zero => intro i g18 g19 g22 H locs ls hm; exact absurd hm (Nat.not_lt_zero _)
          | succ n ih95 =>
            intro i g18 g19 g22 H locs ls hm95 hi ha hs hlo hHi hRg hP hD hS hl
            refine lv_iload hx hb dX0_place_95 (lv_at hl 0 rfl) ?_
            refine lv_aload_n hx hb dX0_place_97 rfl (lv_at hl 1 rfl) ?_
            refine va_get (D := D) (ci := 0) (v := .ref (a 11)) (C := RX0) (T := TX0) (N := 8) hx hb hts hinX0 hown hK hP 10 rfl rfl 0 (by decide) (hts (.fieldLink RX0 12 "DancedLock$Dance" "floor" "LDancedLock$Floor;") (List.mem_of_getElem? (i := 1) rfl)) (fun _ h9 => h9) rfl dX0_place_98 ?_
            refine va_getN (D := D) (ci := 2) (v := .int (nI (v 11 0))) (C := RX2) (T := TX2) (N := 5) hx hb hts hinX2 hown hK hP 11 rfl rfl 0 (by decide) (va_Nw.use rfl (hN (.fieldLinkNest RX0 97 "DancedLock$Floor" "boards" "I" "DancedLock") (List.mem_of_getElem? (i := 0) rfl))) (fun _ h9 => h9) rfl dX0_place_101 ?_
            refine w_icmp_ge (x := i) (y := v 11 0) hx hb dX0_place_104 (tgt := 135) (by decide) (by omega) (by omega) (fun c104 => ?_) (fun c104 => ?_)
            · skip
              refine lv_iconst (v := nI (0)) hx hb dX0_place_135 (by decide) ?_
              exact hret (nI (0)) (va_up (va_up (va_up v 18 (g18)) 19 (g19)) 22 (g22), c) _ _ 136 _ dX0_place_136 rfl (by exact Or.inr ⟨g18, g19, g22, rfl, rfl, ha, hs, no_loop c25 h_69 (fun t ht h9 => hlo t ht (by omega)), hHi, hRg⟩) hP hD hS
            · skip
              refine lv_aload_n hx hb dX0_place_107 rfl (lv_at hl 1 rfl) ?_
              refine lv_iload_n hx hb dX0_place_108 rfl (lv_at hl 3 rfl) ?_
              refine lv_iload_n hx hb dX0_place_109 rfl (lv_at hl 4 rfl) ?_
              refine lv_iload hx hb dX0_place_110 (lv_at hl 0 rfl) ?_
              refine w_cVv (rest := []) hx hb hml hown hts (k_step l D a cI cJ cZ A (va_up (va_up (va_up v 18 (g18)) 19 (g19)) 22 (g22)) c k d i  (by first | assumption | omega)) 3 gX0_place_X0_step rfl hdX0_step ⟨by show 0 + 1 ≤ 9 + mm; omega, by show 8 + (5 + 11) + (0) ≤ 243 + 30 * mm; omega⟩ hK hN hP hD hS hA 10 0 rfl rfl rfl rfl hl.1 rfl (Nat.le_of_ble_eq_true rfl) dX0_place_112 ⟨Nat.le_of_ble_eq_true rfl, Nat.le_of_ble_eq_true rfl⟩ (fun u H locs hq hP hD hS => ?_)
              obtain rfl := hq
              have hP : va_P D vwCl (xW a cI cJ cZ (va_up (va_up (va_up v 18 (va_up (g18) (k * 4 + d) i)) 19 (g19)) 22 (g22)) c) H := hP
              have hD : va_D A (xW a cI cJ cZ (va_up (va_up (va_up v 18 (va_up (g18) (k * 4 + d) i)) 19 (g19)) 22 (g22)) c) := hD
              refine lv_aload_n hx hb dX0_place_115 rfl (lv_at hl 1 rfl) ?_
              refine lv_iload_n hx hb dX0_place_116 rfl (lv_at hl 2 rfl) ?_
              refine lv_iload_n hx hb dX0_place_117 rfl (lv_at hl 3 rfl) ?_
              refine lv_iload_n hx hb dX0_place_118 rfl (lv_at hl 4 rfl) ?_
              refine lv_iconst (v := nI (1)) hx hb dX0_place_119 (by decide) ?_
              refine w_iadd (x := d) (y := 1) hx hb dX0_place_120  ?_
              refine w_cVi (rest := []) hx hb hml hown hts (ih (va_up (va_up (va_up v 18 (va_up (g18) (k * 4 + d) i)) 19 (g19)) 22 (g22)) c c25 (by show XI (va_up (va_up (va_up v 18 (va_up (g18) (k * 4 + d) i)) 19 (g19)) 22 (g22)); have h9 := XI_18 (g := va_up g18 (k * 4 + d) i) hI (up8 hs (by omega)); exact h9) (by show (v 10 6) ≤ 4; exact hdn) (by show ∀ e1, e1 < (v 10 6) → (v 21) e1 ≤ 1; exact hli) (by show ∀ e1, e1 < (v 10 6) → (v 20) e1 ≤ 9; exact hpl) (by show dd < (v 11 1); exact hdd) (by show k < (v 13) dd; exact hk) (by exact hke) (by show (d + 1) ≤ (v 10 6); exact c25) (by omega) (by show ∀ e1, e1 < (d + 1) → (va_up (g18) (k * 4 + d) i) (k * 4 + e1) < (v 11 0); exact pre_s (fun e he => by rw [ha _ (by omega)]; exact hpre e he) c104) (by show HIb ((v 11 0)) ((v 12)) ((v 10 6)) ((v 21)) ((v 20)) (fun j => (v 14) (dd * 6 + j)) k (g22); exact hHi) (by show ∀ q, q < 38 → g22 q < 2 ^ 64; exact hRg)) 3 gX0_place_X0_place rfl hdX0_place ⟨by show 9 + (mm - 1) + 1 ≤ 9 + mm; omega, by show 8 + (5 + 11) + (243 + 30 * (mm - 1)) ≤ 243 + 30 * mm; omega⟩ hK hN hP hD hS hA 10 0 rfl rfl rfl rfl hl.1 rfl (Nat.le_of_ble_eq_true rfl) dX0_place_121 ⟨Nat.le_of_ble_eq_true rfl, Nat.le_of_ble_eq_true rfl⟩ (fun r u H locs hq hP hD hS => ?_)
              rcases hq with ⟨g18_121, g19_121, g22_121, rfl, rfl, ha_121, hs_121, hmin_121, hm2_121⟩ | ⟨g18_121, g19_121, g22_121, rfl, rfl, ha_121, hs_121, hno_121, hHI_121, hrg_121⟩
              · skip
                have ha_121 : agr k (d + 1) g18_121 ((va_up (g18) (k * 4 + d) i)) := ha_121
                have hmin_121 : MINb ((v 11 0)) ((v 10 6)) ((v 21)) k (d + 1) ((va_up (g18) (k * 4 + d) i)) (PPb ((v 11 0)) ((v 12)) ((v 10 6)) ((v 21)) ((v 20)) (fun j => (v 14) (dd * 6 + j)) ((v 13) dd) k) g18_121 := hmin_121
                have hm2_121 : k + 1 < (v 13) dd → MINb ((v 11 0)) ((v 10 6)) ((v 21)) (k + 1) 0 (g18_121) (OKb ((v 11 0)) ((v 12)) ((v 10 6)) ((v 21)) ((v 20)) (fun j => (v 14) (dd * 6 + j)) (k + 1)) g18_121 := hm2_121
                have hP : va_P D vwCl (xW a cI cJ cZ (va_up (va_up (va_up v 18 (g18_121)) 19 (g19_121)) 22 (g22_121)) c) H := hP
                have hD : va_D A (xW a cI cJ cZ (va_up (va_up (va_up v 18 (g18_121)) 19 (g19_121)) 22 (g22_121)) c) := hD
                refine w_if_eq (x := 1) hx hb dX0_place_124 (tgt := 129) (by decide) (by decide) (fun h => absurd h (by decide)) (fun _ => ?_)
                refine lv_iconst (v := nI (1)) hx hb dX0_place_127 (by decide) ?_
                exact hret (nI (1)) (va_up (va_up (va_up v 18 (g18_121)) 19 (g19_121)) 22 (g22_121), c) _ _ 128 _ dX0_place_128 rfl (by exact Or.inl ⟨g18_121, g19_121, g22_121, rfl, rfl, agr_tr (agr_up ha_121) ha, hs_121, min_up hdn ha (fun z => absurd z.1 (by omega)) (fun _ => by omega) hlo hmin_121, hm2_121⟩) hP hD hS
              · skip
                have ha_121 : agr k (d + 1) g18_121 ((va_up (g18) (k * 4 + d) i)) := ha_121
                have hno_121 : NOb ((v 11 0)) ((v 10 6)) ((v 21)) k (d + 1) ((va_up (g18) (k * 4 + d) i)) (PPb ((v 11 0)) ((v 12)) ((v 10 6)) ((v 21)) ((v 20)) (fun j => (v 14) (dd * 6 + j)) ((v 13) dd) k) := hno_121
                have hHI_121 : HIb ((v 11 0)) ((v 12)) ((v 10 6)) ((v 21)) ((v 20)) (fun j => (v 14) (dd * 6 + j)) k (g22_121) := hHI_121
                have hP : va_P D vwCl (xW a cI cJ cZ (va_up (va_up (va_up v 18 (g18_121)) 19 (g19_121)) 22 (g22_121)) c) H := hP
                have hD : va_D A (xW a cI cJ cZ (va_up (va_up (va_up v 18 (g18_121)) 19 (g19_121)) 22 (g22_121)) c) := hD
                refine w_if_eq (x := 0) hx hb dX0_place_124 (tgt := 129) (by decide) (by decide) (fun _ => ?_) (fun h => absurd h (by decide))
                refine lv_iinc (v := nI (i + 1)) (lv' := [(4, .int (nI (i + 1))), (0, .ref (a 10)), (1, .int (nI (dd))), (2, .int (nI (k))), (3, .int (nI (d)))]) hx hb dX0_place_129 hl (k := 0) rfl (nI_add i 1) (by decide) rfl (fun ls hl => ?_)
                refine lv_goto (tgt := 95) hx hb dX0_place_132 (by decide) ?_
                exact ih95 (i + 1) g18_121 g19_121 g22_121 _ _ _ (by omega) (by omega) (by exact agr_tr (agr_up ha_121) ha) (by exact hs_121) (by exact no_up hdn ha hlo hno_121) (by exact hHI_121) (by exact hrg_121) hP hD hS (lv_sub hl [0, 1, 2, 3, 4] rfl)
        exact L95 ((v 11 0 - 0) + 1) 0 (v 18) g19_12 (v 22) _ _ _ (Nat.lt_succ_self _) (by omega) (by exact agr_rf) (by exact hsp) (by exact fun t _ h9 => absurd h9 (Nat.not_lt_zero _)) (by exact hHI) (by exact hrg) hP hD hS (lv_sub hl [0, 1, 2, 3, 4] rfl)
    · skip
      have e : d = v 10 6 := by omega
      refine lv_iload_n hx hb dX0_place_28 rfl (lv_at hl 2 rfl) ?_
      refine lv_iconst (v := nI (2)) hx hb dX0_place_29 (by decide) ?_
      refine w_irem (x := k) (y := 2) hx hb dX0_place_30 (by omega) (by omega) (by omega) ?_
      refine lv_iconst (v := nI (1)) hx hb dX0_place_31 (by decide) ?_
      refine w_icmp_eq (x := k % 2) (y := 1) hx hb dX0_place_32 (tgt := 60) (by decide) (by omega) (by omega) (fun c32 => absurd c32 (by omega)) (fun c32 => ?_)
      refine lv_aload_n hx hb dX0_place_35 rfl (lv_at hl 0 rfl) ?_
      refine va_get (D := D) (ci := 0) (v := .ref (a 11)) (C := RX0) (T := TX0) (N := 8) hx hb hts hinX0 hown hK hP 10 rfl rfl 0 (by decide) (hts (.fieldLink RX0 12 "DancedLock$Dance" "floor" "LDancedLock$Floor;") (List.mem_of_getElem? (i := 1) rfl)) (fun _ h9 => h9) rfl dX0_place_36 ?_
      refine lv_iload_n hx hb dX0_place_39 rfl (lv_at hl 1 rfl) ?_
      refine lv_iload_n hx hb dX0_place_40 rfl (lv_at hl 2 rfl) ?_
      refine lv_iconst (v := nI (1)) hx hb dX0_place_41 (by decide) ?_
      refine w_iadd (x := k) (y := 1) hx hb dX0_place_42  ?_
      refine w_cVi (rest := []) hx hb hml hown hts (k_hasBeat_N l D a cI cJ cZ A (va_up v 19 (g19_12)) c dd (k + 1)  (by show (v 11 1) ≤ 4; first | assumption | omega | exact hbt) (by show ∀ dd, dd < (v 11 1) → 1 ≤ (v 13) dd ∧ (v 13) dd ≤ 6; first | assumption | omega | exact hbt) (by show dd < (v 11 1); first | assumption | omega | exact hbt) (by first | assumption | omega | exact hbt)) 2 gX0_place_X2_hasBeat rfl hdX2_hasBeat ⟨by show 1 + 1 ≤ 9 + mm; omega, by show 8 + (3 + 11) + (21) ≤ 243 + 30 * mm; omega⟩ hK hN hP hD hS hA 11 2 rfl rfl rfl rfl hl.1 rfl (Nat.le_of_ble_eq_true rfl) dX0_place_43 ⟨Nat.le_of_ble_eq_true rfl, Nat.le_of_ble_eq_true rfl⟩ (fun r u H locs hq hP hD hS => ?_)
      rcases hq with ⟨rfl, h_43⟩ | ⟨rfl, h_43⟩
      · skip
        have h_43 : (k + 1) < (v 13) dd := h_43
        have hP : va_P D vwCl (xW a cI cJ cZ (va_up v 19 (g19_12)) c) H := hP
        have hD : va_D A (xW a cI cJ cZ (va_up v 19 (g19_12)) c) := hD
        refine w_if_eq (x := 1) hx hb dX0_place_46 (tgt := 60) (by decide) (by decide) (fun h => absurd h (by decide)) (fun _ => ?_)
        refine lv_aload_n hx hb dX0_place_49 rfl (lv_at hl 0 rfl) ?_
        refine lv_iload_n hx hb dX0_place_50 rfl (lv_at hl 1 rfl) ?_
        refine lv_iload_n hx hb dX0_place_51 rfl (lv_at hl 2 rfl) ?_
        refine lv_iconst (v := nI (1)) hx hb dX0_place_52 (by decide) ?_
        refine w_iadd (x := k) (y := 1) hx hb dX0_place_53  ?_
        refine w_cVi (rest := []) hx hb hml hown hts (k_placeBehind l D a cI cJ cZ A (va_up v 19 (g19_12)) c dd (k + 1) k (by show XI (va_up v 19 (g19_12)); exact hI) (by show (v 10 6) ≤ 4; exact hdn) (by show ∀ e1, e1 < (v 10 6) → (v 21) e1 ≤ 1; exact hli) (by show ∀ e1, e1 < (v 10 6) → (v 20) e1 ≤ 9; exact hpl) (by show dd < (v 11 1); exact hdd) (by show (k + 1) < (v 13) dd; exact h_43) (by rfl) (by exact hke) (by show ∀ e1, e1 < (v 10 6) → (v 18) (k * 4 + e1) < (v 11 0); rw [e] at hpre; exact hpre) (by show HIb ((v 11 0)) ((v 12)) ((v 10 6)) ((v 21)) ((v 20)) (fun k => (v 14) (dd * 6 + k)) k ((v 22)); exact hHI) (by show ∀ q, q < 38 → (v 22) q < 2 ^ 64; exact hrg)) 2 gX0_place_X0_placeBehind rfl hdX0_placeBehind ⟨by show 8 + 1 ≤ 9 + mm; omega, by show 8 + (5 + 11) + (219) ≤ 243 + 30 * mm; omega⟩ hK hN hP hD hS hA 10 0 rfl rfl rfl rfl hl.1 rfl (Nat.le_of_ble_eq_true rfl) dX0_place_54 ⟨Nat.le_of_ble_eq_true rfl, Nat.le_of_ble_eq_true rfl⟩ (fun r u H locs hq hP hD hS => ?_)
        rcases hq with ⟨g18_54, g19_54, g22_54, rfl, rfl, ha_54, hs_54, hmin_54⟩ | ⟨g18_54, g19_54, g22_54, rfl, rfl, ha_54, hs_54, hno_54, hHI_54, hrg_54⟩
        · skip
          have ha_54 : agr (k + 1) 0 g18_54 ((v 18)) := ha_54
          have hmin_54 : MINb ((v 11 0)) ((v 10 6)) ((v 21)) (k + 1) 0 ((v 18)) (OKb ((v 11 0)) ((v 12)) ((v 10 6)) ((v 21)) ((v 20)) (fun k => (v 14) (dd * 6 + k)) (k + 1)) g18_54 := hmin_54
          have hP : va_P D vwCl (xW a cI cJ cZ (va_up (va_up (va_up v 18 (g18_54)) 19 (g19_54)) 22 (g22_54)) c) H := hP
          have hD : va_D A (xW a cI cJ cZ (va_up (va_up (va_up v 18 (g18_54)) 19 (g19_54)) 22 (g22_54)) c) := hD
          refine w_if_eq (x := 1) hx hb dX0_place_57 (tgt := 64) (by decide) (by decide) (fun h => absurd h (by decide)) (fun _ => ?_)
          refine lv_iconst (v := nI (1)) hx hb dX0_place_60 (by decide) ?_
          refine lv_goto (tgt := 65) hx hb dX0_place_61 (by decide) ?_
          exact hret (nI (1)) (va_up (va_up (va_up v 18 (g18_54)) 19 (g19_54)) 22 (g22_54), c) _ _ 65 _ dX0_place_65 rfl (by first | (exact Or.inl ⟨v 18, g19_12, v 22, rfl, by rw [up_self, up22], agr_rf, hsp, by rw [e] at h_12 ⊢; exact min_all ⟨opn_ok hf1 h_12, fun z => absurd z (by omega)⟩, fun z => absurd z (by omega)⟩) | (exact Or.inl ⟨g18_54, g19_54, g22_54, rfl, rfl, fun q hq => ha_54 q (by omega), hs_54, by rw [e] at h_12 ⊢; exact (min_two (F := fun j => v 14 (dd * 6 + j)) (k := k) hdn (opn_ok hf1 h_12) hke ha_54 hmin_54).1, fun _ => by rw [e] at h_12; exact (min_two (F := fun j => v 14 (dd * 6 + j)) (k := k) (B := v 13 dd) hdn (opn_ok hf1 h_12) hke ha_54 hmin_54).2⟩)) hP hD hS
        · skip
          have ha_54 : agr (k + 1) 0 g18_54 ((v 18)) := ha_54
          have hno_54 : NOb ((v 11 0)) ((v 10 6)) ((v 21)) (k + 1) 0 ((v 18)) (OKb ((v 11 0)) ((v 12)) ((v 10 6)) ((v 21)) ((v 20)) (fun k => (v 14) (dd * 6 + k)) (k + 1)) := hno_54
          have hHI_54 : HIb ((v 11 0)) ((v 12)) ((v 10 6)) ((v 21)) ((v 20)) (fun k => (v 14) (dd * 6 + k)) k (g22_54) := hHI_54
          have hP : va_P D vwCl (xW a cI cJ cZ (va_up (va_up (va_up v 18 (g18_54)) 19 (g19_54)) 22 (g22_54)) c) H := hP
          have hD : va_D A (xW a cI cJ cZ (va_up (va_up (va_up v 18 (g18_54)) 19 (g19_54)) 22 (g22_54)) c) := hD
          refine w_if_eq (x := 0) hx hb dX0_place_57 (tgt := 64) (by decide) (by decide) (fun _ => ?_) (fun h => absurd h (by decide))
          refine lv_iconst (v := nI (0)) hx hb dX0_place_64 (by decide) ?_
          exact hret (nI (0)) (va_up (va_up (va_up v 18 (g18_54)) 19 (g19_54)) 22 (g22_54), c) _ _ 65 _ dX0_place_65 rfl (by exact Or.inr ⟨g18_54, g19_54, g22_54, rfl, rfl, fun q hq => ha_54 q (by omega), hs_54, by rw [e]; exact no_two h_43 hno_54, hHI_54, hrg_54⟩) hP hD hS
      · skip
        have h_43 : (v 13) dd ≤ (k + 1) := h_43
        have hP : va_P D vwCl (xW a cI cJ cZ (va_up v 19 (g19_12)) c) H := hP
        have hD : va_D A (xW a cI cJ cZ (va_up v 19 (g19_12)) c) := hD
        refine w_if_eq (x := 0) hx hb dX0_place_46 (tgt := 60) (by decide) (by decide) (fun _ => ?_) (fun h => absurd h (by decide))
        refine lv_iconst (v := nI (1)) hx hb dX0_place_60 (by decide) ?_
        refine lv_goto (tgt := 65) hx hb dX0_place_61 (by decide) ?_
        exact hret (nI (1)) (va_up v 19 (g19_12), c) _ _ 65 _ dX0_place_65 rfl (by first | (exact Or.inl ⟨v 18, g19_12, v 22, rfl, by rw [up_self, up22], agr_rf, hsp, by rw [e] at h_12 ⊢; exact min_all ⟨opn_ok hf1 h_12, fun z => absurd z (by omega)⟩, fun z => absurd z (by omega)⟩) | (exact Or.inl ⟨g18_54, g19_54, g22_54, rfl, rfl, fun q hq => ha_54 q (by omega), hs_54, by rw [e] at h_12 ⊢; exact (min_two (F := fun j => v 14 (dd * 6 + j)) (k := k) hdn (opn_ok hf1 h_12) hke ha_54 hmin_54).1, fun _ => by rw [e] at h_12; exact (min_two (F := fun j => v 14 (dd * 6 + j)) (k := k) (B := v 13 dd) hdn (opn_ok hf1 h_12) hke ha_54 hmin_54).2⟩)) hP hD hS
  · skip
    have hP : va_P D vwCl (xW a cI cJ cZ (va_up v 19 (g19_12)) c) H := hP
    have hD : va_D A (xW a cI cJ cZ (va_up v 19 (g19_12)) c) := hD
    refine w_if_ne (x := 0) hx hb dX0_place_15 (tgt := 20) (by decide) (by decide) (fun h => absurd h (by decide)) (fun _ => ?_)
    refine lv_iconst (v := nI (0)) hx hb dX0_place_18 (by decide) ?_
    exact hret (nI (0)) (va_up v 19 (g19_12), c) _ _ 19 _ dX0_place_19 rfl (by exact Or.inr ⟨v 18, g19_12, v 22, rfl, by rw [up_self, up22], agr_rf, hsp, no_PP (no_opn rfl h_12), hHI, hrg⟩) hP hD hS

set_option maxHeartbeats 4000000 in
theorem k_placeE (l : Launch) (D : va_G) (a : Nat → Nat) (cI cJ cZ : ClassId) (A : Nat → Prop) : ∀ (mm : Nat) (v : Nat → Nat → Nat) (c : Nat → Nat → Int32) (dd k d : Nat), (XI v) → (v 10 6 ≤ 4) → (∀ e1, e1 < v 10 6 → v 21 e1 ≤ 1) → (∀ e1, e1 < v 10 6 → v 20 e1 ≤ 9) → (dd < v 11 1) → (k < v 13 dd) → (k % 2 = 0) → (d ≤ v 10 6) → (d + mm = 4) → (∀ e1, e1 < d → v 18 (k * 4 + e1) < v 11 0) → (HIb (v 11 0) (v 12) (v 10 6) (v 21) (v 20) (fun j => v 14 (dd * 6 + j)) k (v 22)) → (∀ q, q < 38 → v 22 q < 2 ^ 64) → mI l yX0_place wsX0_place (9 + mm) (243 + 30 * mm) [.ref (a 10), .int (nI dd), .int (nI k), .int (nI d)] D (xT cI cJ cZ) A (xW a cI cJ cZ v c) (fun u : ((Nat → Nat → Nat) × (Nat → Nat → Int32)) => xW a cI cJ cZ u.1 u.2) (fun (r : Int32) (u : ((Nat → Nat → Nat) × (Nat → Nat → Int32))) => (∃ g18 : Nat → Nat, ∃ g19 : Nat → Nat, ∃ g22 : Nat → Nat, r = nI (1) ∧ u = (va_up (va_up (va_up v 18 (g18)) 19 (g19)) 22 (g22), c) ∧ agr k d g18 (v 18) ∧ (∀ q, q < 24 → g18 q < 8) ∧ MINb (v 11 0) (v 10 6) (v 21) k d (v 18) (PPb (v 11 0) (v 12) (v 10 6) (v 21) (v 20) (fun j => v 14 (dd * 6 + j)) (v 13 dd) k) g18 ∧ (k + 1 < v 13 dd → MINb (v 11 0) (v 10 6) (v 21) (k + 1) 0 (g18) (OKb (v 11 0) (v 12) (v 10 6) (v 21) (v 20) (fun j => v 14 (dd * 6 + j)) (k + 1)) g18)) ∨ (∃ g18 : Nat → Nat, ∃ g19 : Nat → Nat, ∃ g22 : Nat → Nat, r = nI (0) ∧ u = (va_up (va_up (va_up v 18 (g18)) 19 (g19)) 22 (g22), c) ∧ agr k d g18 (v 18) ∧ (∀ q, q < 24 → g18 q < 8) ∧ NOb (v 11 0) (v 10 6) (v 21) k d (v 18) (PPb (v 11 0) (v 12) (v 10 6) (v 21) (v 20) (fun j => v 14 (dd * 6 + j)) (v 13 dd) k) ∧ HIb (v 11 0) (v 12) (v 10 6) (v 21) (v 20) (fun j => v 14 (dd * 6 + j)) k (g22) ∧ (∀ q, q < 38 → g22 q < 2 ^ 64))) := by
  intro mm
  induction mm with
  | zero =>
    intro v c dd k d hI hdn hli hpl hdd hk hke hd hm hpre hHI hrg
    exact k_placeE_step l D a cI cJ cZ A v c dd k d 0 (fun v' c' h9 => absurd h9 (by omega)) hI hdn hli hpl hdd hk hke hd hm hpre hHI hrg
  | succ mm ih =>
    intro v c dd k d hI hdn hli hpl hdd hk hke hd hm hpre hHI hrg
    exact k_placeE_step l D a cI cJ cZ A v c dd k d (mm + 1) (fun v' c' _ hI' hdn' hli' hpl' hdd' hk' hke' hd' hm' hpre' hHI' hrg' => ih v' c' dd k (d + 1) hI' hdn' hli' hpl' hdd' hk' hke' hd' (by omega) hpre' hHI' hrg') hI hdn hli hpl hdd hk hke hd hm hpre hHI hrg

set_option maxHeartbeats 4000000 in
set_option maxRecDepth 100000 in
theorem k_findPlan0 (l : Launch) (D : va_G) (a : Nat → Nat) (cI cJ cZ : ClassId) (A : Nat → Prop) (v : Nat → Nat → Nat) (c : Nat → Nat → Int32) (dd : Nat) (hI : XI v) (hdd : dd < v 11 1) :
    mI l yX0_findPlan wsX0_findPlan 14 387 [.ref (a 10), .int (nI dd), .int (nI 0)] D (xT cI cJ cZ) A (xW a cI cJ cZ v c) (fun u : ((Nat → Nat → Nat) × (Nat → Nat → Int32)) => xW a cI cJ cZ u.1 u.2)
    (fun (r : Int32) (u : ((Nat → Nat → Nat) × (Nat → Nat → Int32))) => (∃ g18 : Nat → Nat, ∃ g19 : Nat → Nat, ∃ g20 : Nat → Nat, ∃ g21 : Nat → Nat, ∃ g22 : Nat → Nat, r = nI (1) ∧ u = (va_up (va_up (va_up (va_up (va_up (va_up v 10 (va_up (v 10) 6 (v 15 0))) 18 (g18)) 19 (g19)) 20 (g20)) 21 (g21)) 22 (g22), c) ∧ (∀ q, q < 24 → g18 q < 8) ∧ (∀ j, j % 2 = 0 → j < v 13 dd → FSTb (v 11 0) (v 12) (v 15 0) (lA (v 16)) (pA (v 16) (v 17)) (fun j => v 14 (dd * 6 + j)) (v 13 dd) g18 j)) ∨ (∃ g18 : Nat → Nat, ∃ g19 : Nat → Nat, ∃ g20 : Nat → Nat, ∃ g21 : Nat → Nat, ∃ g22 : Nat → Nat, ∃ j : Nat, r = nI (0) ∧ u = (va_up (va_up (va_up (va_up (va_up (va_up v 10 (va_up (v 10) 6 (v 15 0))) 18 (g18)) 19 (g19)) 20 (g20)) 21 (g21)) 22 (g22), c) ∧ (∀ q, q < 24 → g18 q < 8) ∧ (j % 2 = 0 ∧ j < v 13 dd) ∧ NFb (v 11 0) (v 12) (v 15 0) (lA (v 16)) (pA (v 16) (v 17)) (fun j => v 14 (dd * 6 + j)) (v 13 dd) j)) := by
  refine w_bI cX0_findPlan 4 .boolean (by decide) rfl (Nat.le_of_ble_eq_true rfl) (Or.inr rfl) ?_
  intro p e s m args below meth c0 ls Q hx hb hml hts hown hK hN hA hret hP hD hS hl
  have hl : lv_has ls 4 [(0, .ref (a 10)), (1, .int (nI (dd))), (2, .int (nI (0)))] := hl
  have hinX0 : ∀ w ∈ wsX00, w ∈ wsX0_findPlan := fun w h => List.mem_cons_of_mem _ (List.mem_append_left _ (List.mem_append_left _ (List.mem_append_right _ h)))
  obtain ⟨hnb, hnd, hbt, hfg, hne, hnc, hdk, hnf, hkn, hln, hst, hdc, hsp⟩ := id hI
  have hbd := hbt dd hdd
  refine lv_aload_n hx hb dX0_findPlan_0 rfl (lv_at hl 0 rfl) ?_
  refine lv_iload_n hx hb dX0_findPlan_1 rfl (lv_at hl 2 rfl) ?_
  refine w_cVv (rest := []) hx hb hml hown hts (k_callUp0 l D a cI cJ cZ A v c   (by first | assumption | omega | exact hdk) (by first | assumption | omega | exact hdk)) 1 gX0_findPlan_X0_callUp rfl hdX0_callUp ⟨Nat.le_of_ble_eq_true rfl, Nat.le_of_ble_eq_true rfl⟩ hK hN hP hD hS hA 10 0 rfl rfl rfl rfl hl.1 rfl (Nat.le_of_ble_eq_true rfl) dX0_findPlan_2 ⟨Nat.le_of_ble_eq_true rfl, Nat.le_of_ble_eq_true rfl⟩ (fun u H locs hq hP hD hS => ?_)
  obtain ⟨g20_2, g21_2, rfl, hg_2⟩ := hq
  have hP : va_P D vwCl (xW a cI cJ cZ (va_up (va_up (va_up v 10 (va_up (v 10) 6 ((v 15 0)))) 20 (g20_2)) 21 (g21_2)) c) H := hP
  have hD : va_D A (xW a cI cJ cZ (va_up (va_up (va_up v 10 (va_up (v 10) 6 ((v 15 0)))) 20 (g20_2)) 21 (g21_2)) c) := hD
  have hpl : ∀ d, d < v 15 0 → g20_2 d ≤ 9 := fun d hd => by rw [(hg_2 d hd).1]; first | exact pA_le (hdk d hd).2.2 | exact (hdk d hd).2.2
  have hli : ∀ d, d < v 15 0 → g21_2 d ≤ 1 := fun d hd => by rw [(hg_2 d hd).2]; first | exact lA_le | exact Nat.zero_le _
  refine lv_iconst (v := nI (0)) hx hb dX0_findPlan_5 (by decide) ?_
  refine lv_istore_n (lv' := [(3, .int (nI (0))), (0, .ref (a 10)), (1, .int (nI (dd))), (2, .int (nI (0)))]) hx hb dX0_findPlan_6 rfl hl (by decide) rfl (fun ls hl => ?_)
  have L7 : ∀ (n : Nat) (k : Nat) (g18 : Nat → Nat) (g19 : Nat → Nat) (g22 : Nat → Nat) (H : Heap) (locs : List Loc) (ls : Array Slot), v 13 dd - k < n → (k ≤ 8) → (k % 2 = 0) → (∀ q, q < 24 → g18 q < 8) → (∀ j, j % 2 = 0 → j < k → j < v 13 dd → FSTb (v 11 0) (v 12) (v 15 0) g21_2 g20_2 (fun j => v 14 (dd * 6 + j)) (v 13 dd) g18 j) → va_P D vwCl (xW a cI cJ cZ (va_up (va_up (va_up (va_up (va_up (va_up v 10 (va_up (v 10) 6 ((v 15 0)))) 18 (g18)) 19 (g19)) 20 (g20_2)) 21 (g21_2)) 22 (g22)) c) H → va_D A (xW a cI cJ cZ (va_up (va_up (va_up (va_up (va_up (va_up v 10 (va_up (v 10) 6 ((v 15 0)))) 18 (g18)) 19 (g19)) 20 (g20_2)) 21 (g21_2)) 22 (g22)) c) → va_S A s.heap H locs → lv_has ls 4 [(3, .int (nI (k))), (0, .ref (a 10)), (1, .int (nI (dd))), (2, .int (nI (0)))] → W p l e { frames := 14, cells := 0, slots := 0, locals := 387 } s m args below meth c0 H locs 0 0 Q (F0 m 7 ls []) := by
    intro n
    induction n with
    | zero => intro k g18 g19 g22 H locs ls hm; exact absurd hm (Nat.not_lt_zero _)
    | succ n ih7 =>
      intro k g18 g19 g22 H locs ls hm7 h0 h1 hs hF hP hD hS hl
      refine lv_iload_n hx hb dX0_findPlan_7 rfl (lv_at hl 0 rfl) ?_
      refine lv_aload_n hx hb dX0_findPlan_8 rfl (lv_at hl 1 rfl) ?_
      refine va_get (D := D) (ci := 0) (v := .ref (a 11)) (C := RX0) (T := TX0) (N := 8) hx hb hts hinX0 hown hK hP 10 rfl rfl 0 (by decide) (hts (.fieldLink RX0 12 "DancedLock$Dance" "floor" "LDancedLock$Floor;") (List.mem_of_getElem? (i := 1) rfl)) (fun _ h9 => h9) rfl dX0_findPlan_9 ?_
      refine lv_iload_n hx hb dX0_findPlan_12 rfl (lv_at hl 2 rfl) ?_
      refine w_cVi (rest := [.int (nI (k))]) hx hb hml hown hts (k_beatsOf l D a cI cJ cZ A (va_up (va_up (va_up (va_up (va_up (va_up v 10 (va_up (v 10) 6 ((v 15 0)))) 18 (g18)) 19 (g19)) 20 (g20_2)) 21 (g21_2)) 22 (g22)) c dd  (by show (v 11 1) ≤ 4; first | assumption | omega) (by show dd < (v 11 1); first | assumption | omega)) 1 gX0_findPlan_X2_beatsOf rfl hdX2_beatsOf ⟨Nat.le_of_ble_eq_true rfl, Nat.le_of_ble_eq_true rfl⟩ hK hN hP hD hS hA 11 2 rfl rfl rfl rfl hl.1 rfl (Nat.le_of_ble_eq_true rfl) dX0_findPlan_13 ⟨Nat.le_of_ble_eq_true rfl, Nat.le_of_ble_eq_true rfl⟩ (fun r u H locs hq hP hD hS => ?_)
      have hr_13 := hq
      have hr_13 : r = nI ((v 13) dd) := hr_13
      subst hr_13
      have hP : va_P D vwCl (xW a cI cJ cZ (va_up (va_up (va_up (va_up (va_up (va_up v 10 (va_up (v 10) 6 ((v 15 0)))) 18 (g18)) 19 (g19)) 20 (g20_2)) 21 (g21_2)) 22 (g22)) c) H := hP
      have hD : va_D A (xW a cI cJ cZ (va_up (va_up (va_up (va_up (va_up (va_up v 10 (va_up (v 10) 6 ((v 15 0)))) 18 (g18)) 19 (g19)) 20 (g20_2)) 21 (g21_2)) 22 (g22)) c) := hD
      refine w_icmp_ge (x := k) (y := (v 13) dd) hx hb dX0_findPlan_16 (tgt := 45) (by decide) (by omega) (by omega) (fun c16 => ?_) (fun c16 => ?_)
      · skip
        refine lv_iconst (v := nI (1)) hx hb dX0_findPlan_45 (by decide) ?_
        exact hret (nI (1)) (va_up (va_up (va_up (va_up (va_up (va_up v 10 (va_up (v 10) 6 ((v 15 0)))) 18 (g18)) 19 (g19)) 20 (g20_2)) 21 (g21_2)) 22 (g22), c) _ _ 46 _ dX0_findPlan_46 rfl (by exact Or.inl ⟨g18, g19, g20_2, g21_2, g22, rfl, rfl, hs, fun j hj hB => FSTb_lp hg_2 (hF j hj (by omega) hB)⟩) hP hD hS
      · skip
        refine lv_aload_n hx hb dX0_findPlan_19 rfl (lv_at hl 1 rfl) ?_
        refine va_get (D := D) (ci := 0) (v := .ref (a 22)) (C := RX0) (T := TX0) (N := 8) hx hb hts hinX0 hown hK hP 10 rfl rfl 7 (by decide) (hts (.fieldLink RX0 39 "DancedLock$Dance" "hopeless" "[J") (List.mem_of_getElem? (i := 2) rfl)) (fun _ h9 => h9) rfl dX0_findPlan_20 ?_
        refine lv_lconst (v := lN 0) hx hb dX0_findPlan_23 (by decide) ?_
        refine w_cSv (rest := []) hx hb hml hown hts (k_fillHope l D a cI cJ cZ A (va_up (va_up (va_up (va_up (va_up (va_up v 10 (va_up (v 10) 6 ((v 15 0)))) 18 (g18)) 19 (g19)) 20 (g20_2)) 21 (g21_2)) 22 (g22)) c   ) 2 gX0_findPlan_J7_fill_d0a16 rfl hdJ7_fill_d0a16 ⟨Nat.le_of_ble_eq_true rfl, Nat.le_of_ble_eq_true rfl⟩ hK hN hP hD hS hA rfl hl.1 rfl (Nat.le_of_ble_eq_true rfl) dX0_findPlan_24 ⟨Nat.le_of_ble_eq_true rfl, Nat.le_of_ble_eq_true rfl⟩ (fun u H locs hq hP hD hS => ?_)
        obtain rfl := hq
        have hP : va_P D vwCl (xW a cI cJ cZ (va_up (va_up (va_up (va_up (va_up (va_up v 10 (va_up (v 10) 6 ((v 15 0)))) 18 (g18)) 19 (g19)) 20 (g20_2)) 21 (g21_2)) 22 (flf (g22) 0 38 0)) c) H := hP
        have hD : va_D A (xW a cI cJ cZ (va_up (va_up (va_up (va_up (va_up (va_up v 10 (va_up (v 10) 6 ((v 15 0)))) 18 (g18)) 19 (g19)) 20 (g20_2)) 21 (g21_2)) 22 (flf (g22) 0 38 0)) c) := hD
        refine lv_aload_n hx hb dX0_findPlan_27 rfl (lv_at hl 1 rfl) ?_
        refine lv_iload_n hx hb dX0_findPlan_28 rfl (lv_at hl 2 rfl) ?_
        refine lv_iload_n hx hb dX0_findPlan_29 rfl (lv_at hl 0 rfl) ?_
        refine lv_iconst (v := nI (0)) hx hb dX0_findPlan_30 (by decide) ?_
        refine w_cVi (rest := []) hx hb hml hown hts (k_placeE l D a cI cJ cZ A 4 (va_up (va_up (va_up (va_up (va_up (va_up v 10 (va_up (v 10) 6 ((v 15 0)))) 18 (g18)) 19 (g19)) 20 (g20_2)) 21 (g21_2)) 22 (flf (g22) 0 38 0)) c dd k 0 (by show XI (va_up (va_up (va_up (va_up (va_up (va_up v 10 (va_up (v 10) 6 ((v 15 0)))) 18 (g18)) 19 (g19)) 20 (g20_2)) 21 (g21_2)) 22 (flf (g22) 0 38 0)); have h9 := XI_18 (g := g18) hI hs; exact h9) (by show (v 15 0) ≤ 4; exact hnc) (by show ∀ e1, e1 < (v 15 0) → g21_2 e1 ≤ 1; exact hli) (by show ∀ e1, e1 < (v 15 0) → g20_2 e1 ≤ 9; exact hpl) (by show dd < (v 11 1); exact hdd) (by show k < (v 13) dd; exact c16) (by exact h1) (by show 0 ≤ (v 15 0); omega) (by omega) (by show ∀ e1, e1 < 0 → g18 (k * 4 + e1) < (v 11 0); exact fun e he => absurd he (Nat.not_lt_zero _)) (by show HIb ((v 11 0)) ((v 12)) ((v 15 0)) (g21_2) (g20_2) (fun j => (v 14) (dd * 6 + j)) k ((flf (g22) 0 38 0)); exact HI_0 (fun q hq => if_pos ⟨Nat.zero_le _, hq⟩)) (by show ∀ q, q < 38 → (flf (g22) 0 38 0) q < 2 ^ 64; exact fun q hq => Nat.lt_of_le_of_lt (Nat.le_of_eq (if_pos ⟨Nat.zero_le _, hq⟩)) (by decide))) 3 gX0_findPlan_X0_place rfl hdX0_place ⟨Nat.le_of_ble_eq_true rfl, Nat.le_of_ble_eq_true rfl⟩ hK hN hP hD hS hA 10 0 rfl rfl rfl rfl hl.1 rfl (Nat.le_of_ble_eq_true rfl) dX0_findPlan_31 ⟨Nat.le_of_ble_eq_true rfl, Nat.le_of_ble_eq_true rfl⟩ (fun r u H locs hq hP hD hS => ?_)
        rcases hq with ⟨g18_31, g19_31, g22_31, rfl, rfl, ha_31, hs_31, hmin_31, hm2_31⟩ | ⟨g18_31, g19_31, g22_31, rfl, rfl, ha_31, hs_31, hno_31, hHI_31, hrg_31⟩
        · skip
          have ha_31 : agr k 0 g18_31 (g18) := ha_31
          have hmin_31 : MINb ((v 11 0)) ((v 15 0)) (g21_2) k 0 (g18) (PPb ((v 11 0)) ((v 12)) ((v 15 0)) (g21_2) (g20_2) (fun j => (v 14) (dd * 6 + j)) ((v 13) dd) k) g18_31 := hmin_31
          have hm2_31 : k + 1 < (v 13) dd → MINb ((v 11 0)) ((v 15 0)) (g21_2) (k + 1) 0 (g18_31) (OKb ((v 11 0)) ((v 12)) ((v 15 0)) (g21_2) (g20_2) (fun j => (v 14) (dd * 6 + j)) (k + 1)) g18_31 := hm2_31
          have hP : va_P D vwCl (xW a cI cJ cZ (va_up (va_up (va_up (va_up (va_up (va_up v 10 (va_up (v 10) 6 ((v 15 0)))) 18 (g18_31)) 19 (g19_31)) 20 (g20_2)) 21 (g21_2)) 22 (g22_31)) c) H := hP
          have hD : va_D A (xW a cI cJ cZ (va_up (va_up (va_up (va_up (va_up (va_up v 10 (va_up (v 10) 6 ((v 15 0)))) 18 (g18_31)) 19 (g19_31)) 20 (g20_2)) 21 (g21_2)) 22 (g22_31)) c) := hD
          refine w_if_ne (x := 1) hx hb dX0_findPlan_34 (tgt := 39) (by decide) (by decide) (fun _ => ?_) (fun h => absurd h (by decide))
          refine lv_iinc (v := nI (k + 2)) (lv' := [(3, .int (nI (k + 2))), (0, .ref (a 10)), (1, .int (nI (dd))), (2, .int (nI (0)))]) hx hb dX0_findPlan_39 hl (k := 0) rfl (nI_add k 2) (by decide) rfl (fun ls hl => ?_)
          refine lv_goto (tgt := 7) hx hb dX0_findPlan_42 (by decide) ?_
          exact ih7 (k + 2) g18_31 g19_31 g22_31 _ _ _ (by omega) (by omega) (by omega) (by exact hs_31) (by exact fst_s hnc h1 hF ha_31 ⟨min_even h1 hmin_31, hm2_31⟩) hP hD hS (lv_sub hl [0, 1, 2, 3] rfl)
        · skip
          have ha_31 : agr k 0 g18_31 (g18) := ha_31
          have hno_31 : NOb ((v 11 0)) ((v 15 0)) (g21_2) k 0 (g18) (PPb ((v 11 0)) ((v 12)) ((v 15 0)) (g21_2) (g20_2) (fun j => (v 14) (dd * 6 + j)) ((v 13) dd) k) := hno_31
          have hHI_31 : HIb ((v 11 0)) ((v 12)) ((v 15 0)) (g21_2) (g20_2) (fun j => (v 14) (dd * 6 + j)) k (g22_31) := hHI_31
          have hP : va_P D vwCl (xW a cI cJ cZ (va_up (va_up (va_up (va_up (va_up (va_up v 10 (va_up (v 10) 6 ((v 15 0)))) 18 (g18_31)) 19 (g19_31)) 20 (g20_2)) 21 (g21_2)) 22 (g22_31)) c) H := hP
          have hD : va_D A (xW a cI cJ cZ (va_up (va_up (va_up (va_up (va_up (va_up v 10 (va_up (v 10) 6 ((v 15 0)))) 18 (g18_31)) 19 (g19_31)) 20 (g20_2)) 21 (g21_2)) 22 (g22_31)) c) := hD
          refine w_if_ne (x := 0) hx hb dX0_findPlan_34 (tgt := 39) (by decide) (by decide) (fun h => absurd h (by decide)) (fun _ => ?_)
          refine lv_iconst (v := nI (0)) hx hb dX0_findPlan_37 (by decide) ?_
          exact hret (nI (0)) (va_up (va_up (va_up (va_up (va_up (va_up v 10 (va_up (v 10) 6 ((v 15 0)))) 18 (g18_31)) 19 (g19_31)) 20 (g20_2)) 21 (g21_2)) 22 (g22_31), c) _ _ 38 _ dX0_findPlan_38 rfl (by exact Or.inr ⟨g18_31, g19_31, g20_2, g21_2, g22_31, k, rfl, rfl, hs_31, ⟨h1, by omega⟩, NFb_lp hg_2 (fun st t ht hq => hno_31 t (cp_even h1 ht) hq)⟩) hP hD hS
  exact L7 ((v 13 dd - 0) + 1) 0 (v 18) (v 19) (v 22) _ _ _ (Nat.lt_succ_self _) (by omega) (by omega) (by exact hsp) (by exact fun j _ hj => absurd hj (Nat.not_lt_zero _)) hP hD hS (lv_sub hl [0, 1, 2, 3] rfl)

set_option maxHeartbeats 4000000 in
set_option maxRecDepth 100000 in
theorem k_findPlan1 (l : Launch) (D : va_G) (a : Nat → Nat) (cI cJ cZ : ClassId) (A : Nat → Prop) (v : Nat → Nat → Nat) (c : Nat → Nat → Int32) (dd : Nat) (hI : XI v) (hdd : dd < v 11 1) :
    mI l yX0_findPlan wsX0_findPlan 14 387 [.ref (a 10), .int (nI dd), .int (nI 1)] D (xT cI cJ cZ) A (xW a cI cJ cZ v c) (fun u : ((Nat → Nat → Nat) × (Nat → Nat → Int32)) => xW a cI cJ cZ u.1 u.2)
    (fun (r : Int32) (u : ((Nat → Nat → Nat) × (Nat → Nat → Int32))) => (∃ g18 : Nat → Nat, ∃ g19 : Nat → Nat, ∃ g20 : Nat → Nat, ∃ g21 : Nat → Nat, ∃ g22 : Nat → Nat, r = nI (1) ∧ u = (va_up (va_up (va_up (va_up (va_up (va_up v 10 (va_up (v 10) 6 (v 15 0))) 18 (g18)) 19 (g19)) 20 (g20)) 21 (g21)) 22 (g22), c) ∧ (∀ q, q < 24 → g18 q < 8) ∧ (∀ j, j % 2 = 0 → j < v 13 dd → FSTb (v 11 0) (v 12) (v 15 0) (fun _ => 0) (v 17) (fun j => v 14 (dd * 6 + j)) (v 13 dd) g18 j)) ∨ (∃ g18 : Nat → Nat, ∃ g19 : Nat → Nat, ∃ g20 : Nat → Nat, ∃ g21 : Nat → Nat, ∃ g22 : Nat → Nat, ∃ j : Nat, r = nI (0) ∧ u = (va_up (va_up (va_up (va_up (va_up (va_up v 10 (va_up (v 10) 6 (v 15 0))) 18 (g18)) 19 (g19)) 20 (g20)) 21 (g21)) 22 (g22), c) ∧ (∀ q, q < 24 → g18 q < 8) ∧ (j % 2 = 0 ∧ j < v 13 dd) ∧ NFb (v 11 0) (v 12) (v 15 0) (fun _ => 0) (v 17) (fun j => v 14 (dd * 6 + j)) (v 13 dd) j)) := by
  refine w_bI cX0_findPlan 4 .boolean (by decide) rfl (Nat.le_of_ble_eq_true rfl) (Or.inr rfl) ?_
  intro p e s m args below meth c0 ls Q hx hb hml hts hown hK hN hA hret hP hD hS hl
  have hl : lv_has ls 4 [(0, .ref (a 10)), (1, .int (nI (dd))), (2, .int (nI (1)))] := hl
  have hinX0 : ∀ w ∈ wsX00, w ∈ wsX0_findPlan := fun w h => List.mem_cons_of_mem _ (List.mem_append_left _ (List.mem_append_left _ (List.mem_append_right _ h)))
  obtain ⟨hnb, hnd, hbt, hfg, hne, hnc, hdk, hnf, hkn, hln, hst, hdc, hsp⟩ := id hI
  have hbd := hbt dd hdd
  refine lv_aload_n hx hb dX0_findPlan_0 rfl (lv_at hl 0 rfl) ?_
  refine lv_iload_n hx hb dX0_findPlan_1 rfl (lv_at hl 2 rfl) ?_
  refine w_cVv (rest := []) hx hb hml hown hts (k_callUp1 l D a cI cJ cZ A v c   (by first | assumption | omega | exact hdk) (by first | assumption | omega | exact hdk)) 1 gX0_findPlan_X0_callUp rfl hdX0_callUp ⟨Nat.le_of_ble_eq_true rfl, Nat.le_of_ble_eq_true rfl⟩ hK hN hP hD hS hA 10 0 rfl rfl rfl rfl hl.1 rfl (Nat.le_of_ble_eq_true rfl) dX0_findPlan_2 ⟨Nat.le_of_ble_eq_true rfl, Nat.le_of_ble_eq_true rfl⟩ (fun u H locs hq hP hD hS => ?_)
  obtain ⟨g20_2, g21_2, rfl, hg_2⟩ := hq
  have hP : va_P D vwCl (xW a cI cJ cZ (va_up (va_up (va_up v 10 (va_up (v 10) 6 ((v 15 0)))) 20 (g20_2)) 21 (g21_2)) c) H := hP
  have hD : va_D A (xW a cI cJ cZ (va_up (va_up (va_up v 10 (va_up (v 10) 6 ((v 15 0)))) 20 (g20_2)) 21 (g21_2)) c) := hD
  have hpl : ∀ d, d < v 15 0 → g20_2 d ≤ 9 := fun d hd => by rw [(hg_2 d hd).1]; first | exact pA_le (hdk d hd).2.2 | exact (hdk d hd).2.2
  have hli : ∀ d, d < v 15 0 → g21_2 d ≤ 1 := fun d hd => by rw [(hg_2 d hd).2]; first | exact lA_le | exact Nat.zero_le _
  refine lv_iconst (v := nI (0)) hx hb dX0_findPlan_5 (by decide) ?_
  refine lv_istore_n (lv' := [(3, .int (nI (0))), (0, .ref (a 10)), (1, .int (nI (dd))), (2, .int (nI (1)))]) hx hb dX0_findPlan_6 rfl hl (by decide) rfl (fun ls hl => ?_)
  have L7 : ∀ (n : Nat) (k : Nat) (g18 : Nat → Nat) (g19 : Nat → Nat) (g22 : Nat → Nat) (H : Heap) (locs : List Loc) (ls : Array Slot), v 13 dd - k < n → (k ≤ 8) → (k % 2 = 0) → (∀ q, q < 24 → g18 q < 8) → (∀ j, j % 2 = 0 → j < k → j < v 13 dd → FSTb (v 11 0) (v 12) (v 15 0) g21_2 g20_2 (fun j => v 14 (dd * 6 + j)) (v 13 dd) g18 j) → va_P D vwCl (xW a cI cJ cZ (va_up (va_up (va_up (va_up (va_up (va_up v 10 (va_up (v 10) 6 ((v 15 0)))) 18 (g18)) 19 (g19)) 20 (g20_2)) 21 (g21_2)) 22 (g22)) c) H → va_D A (xW a cI cJ cZ (va_up (va_up (va_up (va_up (va_up (va_up v 10 (va_up (v 10) 6 ((v 15 0)))) 18 (g18)) 19 (g19)) 20 (g20_2)) 21 (g21_2)) 22 (g22)) c) → va_S A s.heap H locs → lv_has ls 4 [(3, .int (nI (k))), (0, .ref (a 10)), (1, .int (nI (dd))), (2, .int (nI (1)))] → W p l e { frames := 14, cells := 0, slots := 0, locals := 387 } s m args below meth c0 H locs 0 0 Q (F0 m 7 ls []) := by
    intro n
    induction n with
    | zero => intro k g18 g19 g22 H locs ls hm; exact absurd hm (Nat.not_lt_zero _)
    | succ n ih7 =>
      intro k g18 g19 g22 H locs ls hm7 h0 h1 hs hF hP hD hS hl
      refine lv_iload_n hx hb dX0_findPlan_7 rfl (lv_at hl 0 rfl) ?_
      refine lv_aload_n hx hb dX0_findPlan_8 rfl (lv_at hl 1 rfl) ?_
      refine va_get (D := D) (ci := 0) (v := .ref (a 11)) (C := RX0) (T := TX0) (N := 8) hx hb hts hinX0 hown hK hP 10 rfl rfl 0 (by decide) (hts (.fieldLink RX0 12 "DancedLock$Dance" "floor" "LDancedLock$Floor;") (List.mem_of_getElem? (i := 1) rfl)) (fun _ h9 => h9) rfl dX0_findPlan_9 ?_
      refine lv_iload_n hx hb dX0_findPlan_12 rfl (lv_at hl 2 rfl) ?_
      refine w_cVi (rest := [.int (nI (k))]) hx hb hml hown hts (k_beatsOf l D a cI cJ cZ A (va_up (va_up (va_up (va_up (va_up (va_up v 10 (va_up (v 10) 6 ((v 15 0)))) 18 (g18)) 19 (g19)) 20 (g20_2)) 21 (g21_2)) 22 (g22)) c dd  (by show (v 11 1) ≤ 4; first | assumption | omega) (by show dd < (v 11 1); first | assumption | omega)) 1 gX0_findPlan_X2_beatsOf rfl hdX2_beatsOf ⟨Nat.le_of_ble_eq_true rfl, Nat.le_of_ble_eq_true rfl⟩ hK hN hP hD hS hA 11 2 rfl rfl rfl rfl hl.1 rfl (Nat.le_of_ble_eq_true rfl) dX0_findPlan_13 ⟨Nat.le_of_ble_eq_true rfl, Nat.le_of_ble_eq_true rfl⟩ (fun r u H locs hq hP hD hS => ?_)
      have hr_13 := hq
      have hr_13 : r = nI ((v 13) dd) := hr_13
      subst hr_13
      have hP : va_P D vwCl (xW a cI cJ cZ (va_up (va_up (va_up (va_up (va_up (va_up v 10 (va_up (v 10) 6 ((v 15 0)))) 18 (g18)) 19 (g19)) 20 (g20_2)) 21 (g21_2)) 22 (g22)) c) H := hP
      have hD : va_D A (xW a cI cJ cZ (va_up (va_up (va_up (va_up (va_up (va_up v 10 (va_up (v 10) 6 ((v 15 0)))) 18 (g18)) 19 (g19)) 20 (g20_2)) 21 (g21_2)) 22 (g22)) c) := hD
      refine w_icmp_ge (x := k) (y := (v 13) dd) hx hb dX0_findPlan_16 (tgt := 45) (by decide) (by omega) (by omega) (fun c16 => ?_) (fun c16 => ?_)
      · skip
        refine lv_iconst (v := nI (1)) hx hb dX0_findPlan_45 (by decide) ?_
        exact hret (nI (1)) (va_up (va_up (va_up (va_up (va_up (va_up v 10 (va_up (v 10) 6 ((v 15 0)))) 18 (g18)) 19 (g19)) 20 (g20_2)) 21 (g21_2)) 22 (g22), c) _ _ 46 _ dX0_findPlan_46 rfl (by exact Or.inl ⟨g18, g19, g20_2, g21_2, g22, rfl, rfl, hs, fun j hj hB => FSTb_lp hg_2 (hF j hj (by omega) hB)⟩) hP hD hS
      · skip
        refine lv_aload_n hx hb dX0_findPlan_19 rfl (lv_at hl 1 rfl) ?_
        refine va_get (D := D) (ci := 0) (v := .ref (a 22)) (C := RX0) (T := TX0) (N := 8) hx hb hts hinX0 hown hK hP 10 rfl rfl 7 (by decide) (hts (.fieldLink RX0 39 "DancedLock$Dance" "hopeless" "[J") (List.mem_of_getElem? (i := 2) rfl)) (fun _ h9 => h9) rfl dX0_findPlan_20 ?_
        refine lv_lconst (v := lN 0) hx hb dX0_findPlan_23 (by decide) ?_
        refine w_cSv (rest := []) hx hb hml hown hts (k_fillHope l D a cI cJ cZ A (va_up (va_up (va_up (va_up (va_up (va_up v 10 (va_up (v 10) 6 ((v 15 0)))) 18 (g18)) 19 (g19)) 20 (g20_2)) 21 (g21_2)) 22 (g22)) c   ) 2 gX0_findPlan_J7_fill_d0a16 rfl hdJ7_fill_d0a16 ⟨Nat.le_of_ble_eq_true rfl, Nat.le_of_ble_eq_true rfl⟩ hK hN hP hD hS hA rfl hl.1 rfl (Nat.le_of_ble_eq_true rfl) dX0_findPlan_24 ⟨Nat.le_of_ble_eq_true rfl, Nat.le_of_ble_eq_true rfl⟩ (fun u H locs hq hP hD hS => ?_)
        obtain rfl := hq
        have hP : va_P D vwCl (xW a cI cJ cZ (va_up (va_up (va_up (va_up (va_up (va_up v 10 (va_up (v 10) 6 ((v 15 0)))) 18 (g18)) 19 (g19)) 20 (g20_2)) 21 (g21_2)) 22 (flf (g22) 0 38 0)) c) H := hP
        have hD : va_D A (xW a cI cJ cZ (va_up (va_up (va_up (va_up (va_up (va_up v 10 (va_up (v 10) 6 ((v 15 0)))) 18 (g18)) 19 (g19)) 20 (g20_2)) 21 (g21_2)) 22 (flf (g22) 0 38 0)) c) := hD
        refine lv_aload_n hx hb dX0_findPlan_27 rfl (lv_at hl 1 rfl) ?_
        refine lv_iload_n hx hb dX0_findPlan_28 rfl (lv_at hl 2 rfl) ?_
        refine lv_iload_n hx hb dX0_findPlan_29 rfl (lv_at hl 0 rfl) ?_
        refine lv_iconst (v := nI (0)) hx hb dX0_findPlan_30 (by decide) ?_
        refine w_cVi (rest := []) hx hb hml hown hts (k_placeE l D a cI cJ cZ A 4 (va_up (va_up (va_up (va_up (va_up (va_up v 10 (va_up (v 10) 6 ((v 15 0)))) 18 (g18)) 19 (g19)) 20 (g20_2)) 21 (g21_2)) 22 (flf (g22) 0 38 0)) c dd k 0 (by show XI (va_up (va_up (va_up (va_up (va_up (va_up v 10 (va_up (v 10) 6 ((v 15 0)))) 18 (g18)) 19 (g19)) 20 (g20_2)) 21 (g21_2)) 22 (flf (g22) 0 38 0)); have h9 := XI_18 (g := g18) hI hs; exact h9) (by show (v 15 0) ≤ 4; exact hnc) (by show ∀ e1, e1 < (v 15 0) → g21_2 e1 ≤ 1; exact hli) (by show ∀ e1, e1 < (v 15 0) → g20_2 e1 ≤ 9; exact hpl) (by show dd < (v 11 1); exact hdd) (by show k < (v 13) dd; exact c16) (by exact h1) (by show 0 ≤ (v 15 0); omega) (by omega) (by show ∀ e1, e1 < 0 → g18 (k * 4 + e1) < (v 11 0); exact fun e he => absurd he (Nat.not_lt_zero _)) (by show HIb ((v 11 0)) ((v 12)) ((v 15 0)) (g21_2) (g20_2) (fun j => (v 14) (dd * 6 + j)) k ((flf (g22) 0 38 0)); exact HI_0 (fun q hq => if_pos ⟨Nat.zero_le _, hq⟩)) (by show ∀ q, q < 38 → (flf (g22) 0 38 0) q < 2 ^ 64; exact fun q hq => Nat.lt_of_le_of_lt (Nat.le_of_eq (if_pos ⟨Nat.zero_le _, hq⟩)) (by decide))) 3 gX0_findPlan_X0_place rfl hdX0_place ⟨Nat.le_of_ble_eq_true rfl, Nat.le_of_ble_eq_true rfl⟩ hK hN hP hD hS hA 10 0 rfl rfl rfl rfl hl.1 rfl (Nat.le_of_ble_eq_true rfl) dX0_findPlan_31 ⟨Nat.le_of_ble_eq_true rfl, Nat.le_of_ble_eq_true rfl⟩ (fun r u H locs hq hP hD hS => ?_)
        rcases hq with ⟨g18_31, g19_31, g22_31, rfl, rfl, ha_31, hs_31, hmin_31, hm2_31⟩ | ⟨g18_31, g19_31, g22_31, rfl, rfl, ha_31, hs_31, hno_31, hHI_31, hrg_31⟩
        · skip
          have ha_31 : agr k 0 g18_31 (g18) := ha_31
          have hmin_31 : MINb ((v 11 0)) ((v 15 0)) (g21_2) k 0 (g18) (PPb ((v 11 0)) ((v 12)) ((v 15 0)) (g21_2) (g20_2) (fun j => (v 14) (dd * 6 + j)) ((v 13) dd) k) g18_31 := hmin_31
          have hm2_31 : k + 1 < (v 13) dd → MINb ((v 11 0)) ((v 15 0)) (g21_2) (k + 1) 0 (g18_31) (OKb ((v 11 0)) ((v 12)) ((v 15 0)) (g21_2) (g20_2) (fun j => (v 14) (dd * 6 + j)) (k + 1)) g18_31 := hm2_31
          have hP : va_P D vwCl (xW a cI cJ cZ (va_up (va_up (va_up (va_up (va_up (va_up v 10 (va_up (v 10) 6 ((v 15 0)))) 18 (g18_31)) 19 (g19_31)) 20 (g20_2)) 21 (g21_2)) 22 (g22_31)) c) H := hP
          have hD : va_D A (xW a cI cJ cZ (va_up (va_up (va_up (va_up (va_up (va_up v 10 (va_up (v 10) 6 ((v 15 0)))) 18 (g18_31)) 19 (g19_31)) 20 (g20_2)) 21 (g21_2)) 22 (g22_31)) c) := hD
          refine w_if_ne (x := 1) hx hb dX0_findPlan_34 (tgt := 39) (by decide) (by decide) (fun _ => ?_) (fun h => absurd h (by decide))
          refine lv_iinc (v := nI (k + 2)) (lv' := [(3, .int (nI (k + 2))), (0, .ref (a 10)), (1, .int (nI (dd))), (2, .int (nI (1)))]) hx hb dX0_findPlan_39 hl (k := 0) rfl (nI_add k 2) (by decide) rfl (fun ls hl => ?_)
          refine lv_goto (tgt := 7) hx hb dX0_findPlan_42 (by decide) ?_
          exact ih7 (k + 2) g18_31 g19_31 g22_31 _ _ _ (by omega) (by omega) (by omega) (by exact hs_31) (by exact fst_s hnc h1 hF ha_31 ⟨min_even h1 hmin_31, hm2_31⟩) hP hD hS (lv_sub hl [0, 1, 2, 3] rfl)
        · skip
          have ha_31 : agr k 0 g18_31 (g18) := ha_31
          have hno_31 : NOb ((v 11 0)) ((v 15 0)) (g21_2) k 0 (g18) (PPb ((v 11 0)) ((v 12)) ((v 15 0)) (g21_2) (g20_2) (fun j => (v 14) (dd * 6 + j)) ((v 13) dd) k) := hno_31
          have hHI_31 : HIb ((v 11 0)) ((v 12)) ((v 15 0)) (g21_2) (g20_2) (fun j => (v 14) (dd * 6 + j)) k (g22_31) := hHI_31
          have hP : va_P D vwCl (xW a cI cJ cZ (va_up (va_up (va_up (va_up (va_up (va_up v 10 (va_up (v 10) 6 ((v 15 0)))) 18 (g18_31)) 19 (g19_31)) 20 (g20_2)) 21 (g21_2)) 22 (g22_31)) c) H := hP
          have hD : va_D A (xW a cI cJ cZ (va_up (va_up (va_up (va_up (va_up (va_up v 10 (va_up (v 10) 6 ((v 15 0)))) 18 (g18_31)) 19 (g19_31)) 20 (g20_2)) 21 (g21_2)) 22 (g22_31)) c) := hD
          refine w_if_ne (x := 0) hx hb dX0_findPlan_34 (tgt := 39) (by decide) (by decide) (fun h => absurd h (by decide)) (fun _ => ?_)
          refine lv_iconst (v := nI (0)) hx hb dX0_findPlan_37 (by decide) ?_
          exact hret (nI (0)) (va_up (va_up (va_up (va_up (va_up (va_up v 10 (va_up (v 10) 6 ((v 15 0)))) 18 (g18_31)) 19 (g19_31)) 20 (g20_2)) 21 (g21_2)) 22 (g22_31), c) _ _ 38 _ dX0_findPlan_38 rfl (by exact Or.inr ⟨g18_31, g19_31, g20_2, g21_2, g22_31, k, rfl, rfl, hs_31, ⟨h1, by omega⟩, NFb_lp hg_2 (fun st t ht hq => hno_31 t (cp_even h1 ht) hq)⟩) hP hD hS
  exact L7 ((v 13 dd - 0) + 1) 0 (v 18) (v 19) (v 22) _ _ _ (Nat.lt_succ_self _) (by omega) (by omega) (by exact hsp) (by exact fun j _ hj => absurd hj (Nat.not_lt_zero _)) hP hD hS (lv_sub hl [0, 1, 2, 3] rfl)

set_option maxHeartbeats 4000000 in
set_option maxRecDepth 100000 in
theorem k_countRows_step (l : Launch) (D : va_G) (a : Nat → Nat) (cI cJ cZ : ClassId) (A : Nat → Prop) (v : Nat → Nat → Nat) (c : Nat → Nat → Int32) (f : Nat) (d : Nat) (mm : Nat) (ih : ∀ (v' : Nat → Nat → Nat) (c' : Nat → Nat → Int32), d < v 10 6 → (XI v') → (v' 10 6 ≤ 4) → (∀ e1, e1 < v' 10 6 → v' 21 e1 ≤ 1) → (∀ e1, e1 < v' 10 6 → v' 20 e1 ≤ 9) → (f < 2 ^ v' 11 0) → ((d + 1) ≤ v' 10 6) → ((d + 1) + (mm - 1) = 4) → mJ l yX0_countRows wsX0_countRows (3 + (mm - 1)) (75 + 30 * (mm - 1)) [.ref (a 10), .int (nI f), .int (nI (d + 1))] D (xT cI cJ cZ) A (xW a cI cJ cZ v' c') (fun u : ((Nat → Nat → Nat) × (Nat → Nat → Int32)) => xW a cI cJ cZ u.1 u.2) (fun (r : Int64) (u : ((Nat → Nat → Nat) × (Nat → Nat → Int32))) => ∃ g18 : Nat → Nat, ∃ g19 : Nat → Nat, r = lN (cr (v' 11 0) (v' 12) (v' 10 6) (v' 21) (v' 20) f (v' 10 6 - (d + 1)) (v' 18)) ∧ u = (va_up (va_up v' 18 (g18)) 19 (g19), c') ∧ agr 0 (d + 1) g18 (v' 18) ∧ (∀ q, q < 24 → g18 q < 8))) (hI : XI v) (hdn : v 10 6 ≤ 4) (hli : ∀ e1, e1 < v 10 6 → v 21 e1 ≤ 1) (hpl : ∀ e1, e1 < v 10 6 → v 20 e1 ≤ 9) (hf : f < 2 ^ v 11 0) (hd : d ≤ v 10 6) (hm : d + mm = 4) :
    mJ l yX0_countRows wsX0_countRows (3 + mm) (75 + 30 * mm) [.ref (a 10), .int (nI f), .int (nI d)] D (xT cI cJ cZ) A (xW a cI cJ cZ v c) (fun u : ((Nat → Nat → Nat) × (Nat → Nat → Int32)) => xW a cI cJ cZ u.1 u.2)
    (fun (r : Int64) (u : ((Nat → Nat → Nat) × (Nat → Nat → Int32))) => ∃ g18 : Nat → Nat, ∃ g19 : Nat → Nat, r = lN (cr (v 11 0) (v 12) (v 10 6) (v 21) (v 20) f (v 10 6 - d) (v 18)) ∧ u = (va_up (va_up v 18 (g18)) 19 (g19), c) ∧ agr 0 d g18 (v 18) ∧ (∀ q, q < 24 → g18 q < 8)) := by
  refine w_bJ cX0_countRows 6 (by decide) rfl (Nat.le_of_ble_eq_true rfl) ?_
  intro p e s m args below meth c0 ls Q hx hb hml hts hown hK hN hA hret hP hD hS hl
  have hl : lv_has ls 6 [(0, .ref (a 10)), (1, .int (nI (f))), (2, .int (nI (d)))] := hl
  have hinX0 : ∀ w ∈ wsX00, w ∈ wsX0_countRows := fun w h => List.mem_cons_of_mem _ (List.mem_append_left _ (List.mem_append_right _ h))
  have hinX2 : ∀ w ∈ wsX20, w ∈ wsX0_countRows := fun w h => List.mem_cons_of_mem _ (List.mem_append_right _ h)
  obtain ⟨hnb, hnd, hbt, hfg, hne, hnc, hdk, hnf, hkn, hln, hst, hdc, hsp⟩ := id hI
  have hf2 := pow_le_128 hnb
  refine lv_aload_n hx hb dX0_countRows_0 rfl (lv_at hl 0 rfl) ?_
  refine lv_iload_n hx hb dX0_countRows_1 rfl (lv_at hl 1 rfl) ?_
  refine lv_iconst (v := nI (0)) hx hb dX0_countRows_2 (by decide) ?_
  refine lv_iload_n hx hb dX0_countRows_3 rfl (lv_at hl 2 rfl) ?_
  refine w_cVi (rest := []) hx hb hml hown hts (k_isOpen l D a cI cJ cZ A v c f 0 d  (by first | assumption | omega | exact hsp) (by first | assumption | omega | exact hsp) (by first | assumption | omega | exact hsp) (by first | assumption | omega | exact hsp) (by first | assumption | omega | exact hsp) (by first | assumption | omega | exact hsp) (by first | assumption | omega | exact hsp) (by first | assumption | omega | exact hsp) (by first | assumption | omega | exact hsp)) 3 gX0_countRows_X0_isOpen rfl hdX0_isOpen ⟨by show 2 + 1 ≤ 3 + mm; omega, by show 8 + (8 + 11) + (48) ≤ 75 + 30 * mm; omega⟩ hK hN hP hD hS hA 10 0 rfl rfl rfl rfl hl.1 rfl (Nat.le_of_ble_eq_true rfl) dX0_countRows_4 ⟨Nat.le_of_ble_eq_true rfl, Nat.le_of_ble_eq_true rfl⟩ (fun r u H locs hq hP hD hS => ?_)
  rcases hq with ⟨g19_4, rfl, rfl, h_4⟩ | ⟨g19_4, rfl, rfl, h_4⟩
  · skip
    have hP : va_P D vwCl (xW a cI cJ cZ (va_up v 19 (g19_4)) c) H := hP
    have hD : va_D A (xW a cI cJ cZ (va_up v 19 (g19_4)) c) := hD
    refine w_if_ne (x := 1) hx hb dX0_countRows_7 (tgt := 12) (by decide) (by decide) (fun _ => ?_) (fun h => absurd h (by decide))
    refine lv_iload_n hx hb dX0_countRows_12 rfl (lv_at hl 2 rfl) ?_
    refine lv_aload_n hx hb dX0_countRows_13 rfl (lv_at hl 0 rfl) ?_
    refine va_get (D := D) (ci := 0) (v := .int (nI (v 10 6))) (C := RX0) (T := TX0) (N := 8) hx hb hts hinX0 hown hK hP 10 rfl rfl 6 (by decide) (hts (.fieldLink RX0 53 "DancedLock$Dance" "dancers" "I") (List.mem_of_getElem? (i := 1) rfl)) (fun _ h9 => h9) rfl dX0_countRows_14 ?_
    refine w_icmp_lt (x := d) (y := v 10 6) hx hb dX0_countRows_17 (tgt := 22) (by decide) (by omega) (by omega) (fun c17 => ?_) (fun c17 => ?_)
    · skip
      refine lv_lconst (v := lN 0) hx hb dX0_countRows_22 (by decide) ?_
      refine lv_lstore_n (lv' := [(3, .long (lN (0))), (0, .ref (a 10)), (1, .int (nI (f))), (2, .int (nI (d)))]) hx hb dX0_countRows_23 rfl hl (by decide) rfl (fun ls hl => ?_)
      refine lv_iconst (v := nI (0)) hx hb dX0_countRows_24 (by decide) ?_
      refine lv_istore (lv' := [(5, .int (nI (0))), (3, .long (lN (0))), (0, .ref (a 10)), (1, .int (nI (f))), (2, .int (nI (d)))]) hx hb dX0_countRows_25 hl (by decide) rfl (fun ls hl => ?_)
      have L27 : ∀ (n : Nat) (i : Nat) (q : Nat) (g18 : Nat → Nat) (g19 : Nat → Nat) (H : Heap) (locs : List Loc) (ls : Array Slot), v 11 0 - i < n → (i ≤ v 11 0) → (agr 0 d g18 (v 18)) → (∀ q, q < 24 → g18 q < 8) → (q = sm (fun b => cr (v 11 0) (v 12) (v 10 6) (v 21) (v 20) f (v 10 6 - (d + 1)) (va_up (v 18) (0 * 4 + d) b)) i) → va_P D vwCl (xW a cI cJ cZ (va_up (va_up v 18 (g18)) 19 (g19)) c) H → va_D A (xW a cI cJ cZ (va_up (va_up v 18 (g18)) 19 (g19)) c) → va_S A s.heap H locs → lv_has ls 6 [(3, .long (lN (q))), (5, .int (nI (i))), (0, .ref (a 10)), (1, .int (nI (f))), (2, .int (nI (d)))] → W p l e { frames := 3 + mm, cells := 0, slots := 0, locals := 75 + 30 * mm } s m args below meth c0 H locs 0 0 Q (F0 m 27 ls []) := by
        intro n
        induction n with
        | zero => intro i q g18 g19 H locs ls hm; exact absurd hm (Nat.not_lt_zero _)
        | succ n ih27 =>
          intro i q g18 g19 H locs ls hm27 hi ha hs hq hP hD hS hl
          refine lv_iload hx hb dX0_countRows_27 (lv_at hl 1 rfl) ?_
          refine lv_aload_n hx hb dX0_countRows_29 rfl (lv_at hl 2 rfl) ?_
          refine va_get (D := D) (ci := 0) (v := .ref (a 11)) (C := RX0) (T := TX0) (N := 8) hx hb hts hinX0 hown hK hP 10 rfl rfl 0 (by decide) (hts (.fieldLink RX0 12 "DancedLock$Dance" "floor" "LDancedLock$Floor;") (List.mem_of_getElem? (i := 2) rfl)) (fun _ h9 => h9) rfl dX0_countRows_30 ?_
          refine va_getN (D := D) (ci := 2) (v := .int (nI (v 11 0))) (C := RX2) (T := TX2) (N := 5) hx hb hts hinX2 hown hK hP 11 rfl rfl 0 (by decide) (va_Nw.use rfl (hN (.fieldLinkNest RX0 97 "DancedLock$Floor" "boards" "I" "DancedLock") (List.mem_of_getElem? (i := 0) rfl))) (fun _ h9 => h9) rfl dX0_countRows_33 ?_
          refine w_icmp_ge (x := i) (y := v 11 0) hx hb dX0_countRows_36 (tgt := 64) (by decide) (by omega) (by omega) (fun c36 => ?_) (fun c36 => ?_)
          · skip
            refine lv_lload_n hx hb dX0_countRows_64 rfl (lv_at hl 0 rfl) ?_
            exact hret (lN (q)) (va_up (va_up v 18 (g18)) 19 (g19), c) _ _ 65 _ dX0_countRows_65 (by have e : i = v 11 0 := (by omega); exact ⟨g18, g19, by rw [hq, e, cr_s c17], rfl, ha, hs⟩) hP hD hS
          · skip
            refine lv_aload_n hx hb dX0_countRows_39 rfl (lv_at hl 2 rfl) ?_
            refine lv_iconst (v := nI (0)) hx hb dX0_countRows_40 (by decide) ?_
            refine lv_iload_n hx hb dX0_countRows_41 rfl (lv_at hl 4 rfl) ?_
            refine lv_iload hx hb dX0_countRows_42 (lv_at hl 1 rfl) ?_
            refine w_cVv (rest := []) hx hb hml hown hts (k_step l D a cI cJ cZ A (va_up (va_up v 18 (g18)) 19 (g19)) c 0 d i  (by first | assumption | omega)) 3 gX0_countRows_X0_step rfl hdX0_step ⟨by show 0 + 1 ≤ 3 + mm; omega, by show 8 + (5 + 11) + (0) ≤ 75 + 30 * mm; omega⟩ hK hN hP hD hS hA 10 0 rfl rfl rfl rfl hl.1 rfl (Nat.le_of_ble_eq_true rfl) dX0_countRows_44 ⟨Nat.le_of_ble_eq_true rfl, Nat.le_of_ble_eq_true rfl⟩ (fun u H locs hq hP hD hS => ?_)
            obtain rfl := hq
            have hP : va_P D vwCl (xW a cI cJ cZ (va_up (va_up v 18 (va_up (g18) (0 * 4 + d) i)) 19 (g19)) c) H := hP
            have hD : va_D A (xW a cI cJ cZ (va_up (va_up v 18 (va_up (g18) (0 * 4 + d) i)) 19 (g19)) c) := hD
            refine lv_lload_n hx hb dX0_countRows_47 rfl (lv_at hl 0 rfl) ?_
            refine lv_aload_n hx hb dX0_countRows_48 rfl (lv_at hl 2 rfl) ?_
            refine lv_iload_n hx hb dX0_countRows_49 rfl (lv_at hl 3 rfl) ?_
            refine lv_iload_n hx hb dX0_countRows_50 rfl (lv_at hl 4 rfl) ?_
            refine lv_iconst (v := nI (1)) hx hb dX0_countRows_51 (by decide) ?_
            refine w_iadd (x := d) (y := 1) hx hb dX0_countRows_52  ?_
            refine w_cVl (rest := [.long (lN (q))]) hx hb hml hown hts (ih (va_up (va_up v 18 (va_up (g18) (0 * 4 + d) i)) 19 (g19)) c c17 (by show XI (va_up (va_up v 18 (va_up (g18) (0 * 4 + d) i)) 19 (g19)); have h9 := XI_18 (g := va_up g18 (0 * 4 + d) i) hI (up8 hs (by omega)); exact h9) (by show (v 10 6) ≤ 4; exact hdn) (by show ∀ e1, e1 < (v 10 6) → (v 21) e1 ≤ 1; exact hli) (by show ∀ e1, e1 < (v 10 6) → (v 20) e1 ≤ 9; exact hpl) (by show f < 2 ^ (v 11 0); exact hf) (by show (d + 1) ≤ (v 10 6); exact c17) (by omega)) 2 gX0_countRows_X0_countRows rfl hdX0_countRows ⟨by show 3 + (mm - 1) + 1 ≤ 3 + mm; omega, by show 8 + (6 + 11) + (75 + 30 * (mm - 1)) ≤ 75 + 30 * mm; omega⟩ hK hN hP hD hS hA 10 0 rfl rfl rfl rfl hl.1 rfl (Nat.le_of_ble_eq_true rfl) dX0_countRows_53 ⟨Nat.le_of_ble_eq_true rfl, Nat.le_of_ble_eq_true rfl⟩ (fun r u H locs hq hP hD hS => ?_)
            obtain ⟨g18_53, g19_53, hr_53, rfl, ha_53, hs_53⟩ := hq
            have ha_53 : agr 0 (d + 1) g18_53 ((va_up (g18) (0 * 4 + d) i)) := ha_53
            have hr_53 : r = lN (cr ((v 11 0)) ((v 12)) ((v 10 6)) ((v 21)) ((v 20)) f ((v 10 6) - (d + 1)) ((va_up (g18) (0 * 4 + d) i))) := hr_53
            subst hr_53
            have hP : va_P D vwCl (xW a cI cJ cZ (va_up (va_up v 18 (g18_53)) 19 (g19_53)) c) H := hP
            have hD : va_D A (xW a cI cJ cZ (va_up (va_up v 18 (g18_53)) 19 (g19_53)) c) := hD
            refine lv_ladd hx hb dX0_countRows_56 ?_
            rw [lN_add]
            refine lv_lstore_n (lv' := [(3, .long (lN (q + (cr ((v 11 0)) ((v 12)) ((v 10 6)) ((v 21)) ((v 20)) f ((v 10 6) - (d + 1)) ((va_up (g18) (0 * 4 + d) i)))))), (5, .int (nI (i))), (0, .ref (a 10)), (1, .int (nI (f))), (2, .int (nI (d)))]) hx hb dX0_countRows_57 rfl hl (by decide) rfl (fun ls hl => ?_)
            refine lv_iinc (v := nI (i + 1)) (lv' := [(5, .int (nI (i + 1))), (3, .long (lN (q + (cr ((v 11 0)) ((v 12)) ((v 10 6)) ((v 21)) ((v 20)) f ((v 10 6) - (d + 1)) ((va_up (g18) (0 * 4 + d) i)))))), (0, .ref (a 10)), (1, .int (nI (f))), (2, .int (nI (d)))]) hx hb dX0_countRows_58 hl (k := 1) rfl (nI_add i 1) (by decide) rfl (fun ls hl => ?_)
            refine lv_goto (tgt := 27) hx hb dX0_countRows_61 (by decide) ?_
            exact ih27 (i + 1) (q + (cr ((v 11 0)) ((v 12)) ((v 10 6)) ((v 21)) ((v 20)) f ((v 10 6) - (d + 1)) ((va_up (g18) (0 * 4 + d) i)))) g18_53 g19_53 _ _ _ (by omega) (by omega) (by exact agr_tr (agr_up ha_53) ha) (by exact hs_53) (by rw [hq, sm_s]; exact congrArg _ (cr_agr (fun e he => up_agr ha (by omega)))) hP hD hS (lv_sub hl [1, 0, 2, 3, 4] rfl)
      exact L27 ((v 11 0 - 0) + 1) 0 0 (v 18) g19_4 _ _ _ (Nat.lt_succ_self _) (by omega) (by exact agr_rf) (by exact hsp) (by rfl) hP hD hS (lv_sub hl [1, 0, 2, 3, 4] rfl)
    · skip
      refine lv_lconst (v := lN 1) hx hb dX0_countRows_20 (by decide) ?_
      exact hret (lN (1)) (va_up v 19 (g19_4), c) _ _ 21 _ dX0_countRows_21 (by have e : v 10 6 - d = 0 := (by omega); have e2 : d = v 10 6 := (by omega); exact ⟨v 18, g19_4, by rw [e2] at h_4; rw [e, cr_yes (opn_ok hf h_4)], by rw [up_self], agr_rf, hsp⟩) hP hD hS
  · skip
    have hP : va_P D vwCl (xW a cI cJ cZ (va_up v 19 (g19_4)) c) H := hP
    have hD : va_D A (xW a cI cJ cZ (va_up v 19 (g19_4)) c) := hD
    refine w_if_ne (x := 0) hx hb dX0_countRows_7 (tgt := 12) (by decide) (by decide) (fun h => absurd h (by decide)) (fun _ => ?_)
    refine lv_lconst (v := lN 0) hx hb dX0_countRows_10 (by decide) ?_
    exact hret (lN (0)) (va_up v 19 (g19_4), c) _ _ 11 _ dX0_countRows_11 (by exact ⟨v 18, g19_4, by rw [cr_no (by omega) h_4], by rw [up_self], agr_rf, hsp⟩) hP hD hS

set_option maxHeartbeats 4000000 in
theorem k_countRows (l : Launch) (D : va_G) (a : Nat → Nat) (cI cJ cZ : ClassId) (A : Nat → Prop) : ∀ (mm : Nat) (v : Nat → Nat → Nat) (c : Nat → Nat → Int32) (f d : Nat), (XI v) → (v 10 6 ≤ 4) → (∀ e1, e1 < v 10 6 → v 21 e1 ≤ 1) → (∀ e1, e1 < v 10 6 → v 20 e1 ≤ 9) → (f < 2 ^ v 11 0) → (d ≤ v 10 6) → (d + mm = 4) → mJ l yX0_countRows wsX0_countRows (3 + mm) (75 + 30 * mm) [.ref (a 10), .int (nI f), .int (nI d)] D (xT cI cJ cZ) A (xW a cI cJ cZ v c) (fun u : ((Nat → Nat → Nat) × (Nat → Nat → Int32)) => xW a cI cJ cZ u.1 u.2) (fun (r : Int64) (u : ((Nat → Nat → Nat) × (Nat → Nat → Int32))) => ∃ g18 : Nat → Nat, ∃ g19 : Nat → Nat, r = lN (cr (v 11 0) (v 12) (v 10 6) (v 21) (v 20) f (v 10 6 - d) (v 18)) ∧ u = (va_up (va_up v 18 (g18)) 19 (g19), c) ∧ agr 0 d g18 (v 18) ∧ (∀ q, q < 24 → g18 q < 8)) := by
  intro mm
  induction mm with
  | zero =>
    intro v c f d hI hdn hli hpl hf hd hm
    exact k_countRows_step l D a cI cJ cZ A v c f d 0 (fun v' c' h9 => absurd h9 (by omega)) hI hdn hli hpl hf hd hm
  | succ mm ih =>
    intro v c f d hI hdn hli hpl hf hd hm
    exact k_countRows_step l D a cI cJ cZ A v c f d (mm + 1) (fun v' c' _ hI' hdn' hli' hpl' hf' hd' hm' => ih v' c' f (d + 1) hI' hdn' hli' hpl' hf' hd' (by omega)) hI hdn hli hpl hf hd hm

set_option maxHeartbeats 4000000 in
set_option maxRecDepth 100000 in
theorem k_rowsFor (l : Launch) (D : va_G) (a : Nat → Nat) (cI cJ cZ : ClassId) (A : Nat → Prop) (v : Nat → Nat → Nat) (c : Nat → Nat → Int32) (f : Nat) (hI : XI v) (hf : f < 2 ^ v 11 0) :
    mJ l yX0_rowsFor wsX0_rowsFor 8 220 [.ref (a 10), .int (nI f)] D (xT cI cJ cZ) A (xW a cI cJ cZ v c) (fun u : ((Nat → Nat → Nat) × (Nat → Nat → Int32)) => xW a cI cJ cZ u.1 u.2)
    (fun (r : Int64) (u : ((Nat → Nat → Nat) × (Nat → Nat → Int32))) => ∃ g18 : Nat → Nat, ∃ g19 : Nat → Nat, ∃ g20 : Nat → Nat, ∃ g21 : Nat → Nat, r = lN (cr (v 11 0) (v 12) (v 15 0) (lA (v 16)) (pA (v 16) (v 17)) f (v 15 0) (v 18)) ∧ u = (va_up (va_up (va_up (va_up (va_up v 10 (va_up (v 10) 6 (v 15 0))) 18 (g18)) 19 (g19)) 20 (g20)) 21 (g21), c) ∧ (∀ q, q < 24 → g18 q < 8)) := by
  refine w_bJ cX0_rowsFor 2 (by decide) rfl (Nat.le_of_ble_eq_true rfl) ?_
  intro p e s m args below meth c0 ls Q hx hb hml hts hown hK hN hA hret hP hD hS hl
  have hl : lv_has ls 2 [(0, .ref (a 10)), (1, .int (nI (f)))] := hl
  obtain ⟨hnb, hnd, hbt, hfg, hne, hnc, hdk, hnf, hkn, hln, hst, hdc, hsp⟩ := id hI
  refine lv_aload_n hx hb dX0_rowsFor_0 rfl (lv_at hl 0 rfl) ?_
  refine lv_iconst (v := nI (0)) hx hb dX0_rowsFor_1 (by decide) ?_
  refine w_cVv (rest := []) hx hb hml hown hts (k_callUp0 l D a cI cJ cZ A v c   (by first | assumption | omega | exact hdk) (by first | assumption | omega | exact hdk)) 1 gX0_rowsFor_X0_callUp rfl hdX0_callUp ⟨Nat.le_of_ble_eq_true rfl, Nat.le_of_ble_eq_true rfl⟩ hK hN hP hD hS hA 10 0 rfl rfl rfl rfl hl.1 rfl (Nat.le_of_ble_eq_true rfl) dX0_rowsFor_2 ⟨Nat.le_of_ble_eq_true rfl, Nat.le_of_ble_eq_true rfl⟩ (fun u H locs hq hP hD hS => ?_)
  obtain ⟨g20_2, g21_2, rfl, hg_2⟩ := hq
  have hP : va_P D vwCl (xW a cI cJ cZ (va_up (va_up (va_up v 10 (va_up (v 10) 6 ((v 15 0)))) 20 (g20_2)) 21 (g21_2)) c) H := hP
  have hD : va_D A (xW a cI cJ cZ (va_up (va_up (va_up v 10 (va_up (v 10) 6 ((v 15 0)))) 20 (g20_2)) 21 (g21_2)) c) := hD
  have hpl : ∀ d, d < v 15 0 → g20_2 d ≤ 9 := fun d hd => by rw [(hg_2 d hd).1]; exact pA_le (hdk d hd).2.2
  have hli : ∀ d, d < v 15 0 → g21_2 d ≤ 1 := fun d hd => by rw [(hg_2 d hd).2]; exact lA_le
  refine lv_aload_n hx hb dX0_rowsFor_5 rfl (lv_at hl 0 rfl) ?_
  refine lv_iload_n hx hb dX0_rowsFor_6 rfl (lv_at hl 1 rfl) ?_
  refine lv_iconst (v := nI (0)) hx hb dX0_rowsFor_7 (by decide) ?_
  refine w_cVl (rest := []) hx hb hml hown hts (k_countRows l D a cI cJ cZ A 4 (va_up (va_up (va_up v 10 (va_up (v 10) 6 ((v 15 0)))) 20 (g20_2)) 21 (g21_2)) c f 0 (by show XI (va_up (va_up (va_up v 10 (va_up (v 10) 6 ((v 15 0)))) 20 (g20_2)) 21 (g21_2)); exact hI) (by show (v 15 0) ≤ 4; exact hnc) (by show ∀ e1, e1 < (v 15 0) → g21_2 e1 ≤ 1; exact hli) (by show ∀ e1, e1 < (v 15 0) → g20_2 e1 ≤ 9; exact hpl) (by show f < 2 ^ (v 11 0); exact hf) (by show 0 ≤ (v 15 0); omega) (by omega)) 2 gX0_rowsFor_X0_countRows rfl hdX0_countRows ⟨Nat.le_of_ble_eq_true rfl, Nat.le_of_ble_eq_true rfl⟩ hK hN hP hD hS hA 10 0 rfl rfl rfl rfl hl.1 rfl (Nat.le_of_ble_eq_true rfl) dX0_rowsFor_8 ⟨Nat.le_of_ble_eq_true rfl, Nat.le_of_ble_eq_true rfl⟩ (fun r u H locs hq hP hD hS => ?_)
  obtain ⟨g18_8, g19_8, hr_8, rfl, ha_8, hs_8⟩ := hq
  have ha_8 : agr 0 0 g18_8 ((v 18)) := ha_8
  have hr_8 : r = lN (cr ((v 11 0)) ((v 12)) ((v 15 0)) (g21_2) (g20_2) f ((v 15 0) - 0) ((v 18))) := hr_8
  subst hr_8
  have hP : va_P D vwCl (xW a cI cJ cZ (va_up (va_up (va_up (va_up (va_up v 10 (va_up (v 10) 6 ((v 15 0)))) 18 (g18_8)) 19 (g19_8)) 20 (g20_2)) 21 (g21_2)) c) H := hP
  have hD : va_D A (xW a cI cJ cZ (va_up (va_up (va_up (va_up (va_up v 10 (va_up (v 10) 6 ((v 15 0)))) 18 (g18_8)) 19 (g19_8)) 20 (g20_2)) 21 (g21_2)) c) := hD
  exact hret (lN (cr ((v 11 0)) ((v 12)) ((v 15 0)) (g21_2) (g20_2) f ((v 15 0) - 0) ((v 18)))) (va_up (va_up (va_up (va_up (va_up v 10 (va_up (v 10) 6 ((v 15 0)))) 18 (g18_8)) 19 (g19_8)) 20 (g20_2)) 21 (g21_2), c) _ _ 11 _ dX0_rowsFor_11 (by exact ⟨g18_8, g19_8, g20_2, g21_2, by rw [cr_lp hg_2]; rfl, rfl, hs_8⟩) hP hD hS
