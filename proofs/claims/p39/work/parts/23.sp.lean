/-! ===== what each call answers, in words that both sides share ===== -/
def nR (x : Int32) (n : Nat) : Prop := ¬ ∃ j, j < n ∧ x = nI j
theorem nR_of {x : Int32} {n : Nat} (hn : n < 2147483648) (h : x.toInt < 0 ∨ (n : Int) ≤ x.toInt) : nR x n := by
  rintro ⟨j, hj, rfl⟩
  rw [n_tI (by omega)] at h
  omega
theorem nR_one {x : Int32} {n j i : Nat} (hn : n < 2147483648) (h1 : j < n) (e1 : x = nI j) (h2 : i < n) (e2 : x = nI i) : j = i := (n_inj (by omega) (by omega)).mp (e1.symm.trans e2)
def BDb (nbt : Nat → Nat) (d : Nat) : Nat := (2 ^ nbt d - 1) * 2 ^ (d * 6)
def sp_board (nb : Nat) (need : Nat → Nat) (x r : Int32) : Prop := (∃ j, j < nb ∧ x = nI j ∧ r = nI (need j)) ∨ (nR x nb ∧ r = -1)
def sp_beat (nd : Nat) (nbt : Nat → Nat) (fig : Nat → Nat → Nat) (x k r : Int32) : Prop :=
  (∃ d, d < nd ∧ x = nI d ∧ ((k = -1 ∧ r = nI (nbt d)) ∨ (∃ j, j < nbt d ∧ k = nI j ∧ r = nI (fig d j)) ∨ (k ≠ -1 ∧ nR k (nbt d) ∧ r = -1))) ∨ (nR x nd ∧ r = -1)
def sp_ofDancer (nc : Nat) (kd wt : Nat → Nat) (x k r : Int32) : Prop :=
  (∃ d, d < nc ∧ x = nI d ∧ ((k = nI 0 ∧ r = nI (kd d)) ∨ (k = nI 1 ∧ r = nI (wt d)) ∨ (k = nI 2 ∧ r = nI (pA kd wt d)) ∨ (nR k 3 ∧ r = -2))) ∨ (nR x nc ∧ r = -1)
def sp_door (nd : Nat) (ans : Nat → Int32) (x r : Int32) : Prop := (∃ d, d < nd ∧ x = nI d ∧ r = ans d) ∨ (nR x nd ∧ r = -1)
def sp_gone (nd : Nat) (nbt : Nat → Nat) (nf : Nat) (kf : Nat → Nat) (x y r : Int32) : Prop :=
  (∃ d, d < nd ∧ x = nI d ∧ ((∃ z, z < 2 ^ nf ∧ y = nI z ∧ r = nI ((BDb nbt d - (BDb nbt d &&& kn kf (2 ^ nf - 1 - z) nf)) / 2 ^ (d * 6))) ∨ (nR y (2 ^ nf) ∧ r = -2))) ∨ (nR x nd ∧ r = -1)
def sp_apart (nd : Nat) (nbt : Nat → Nat) (fig : Nat → Nat → Nat) (x y r : Int32) : Prop :=
  (∃ d e, d < nd ∧ e < nd ∧ x = nI d ∧ y = nI e ∧ r = nI (ulN (nbt d) (nbt e) (fig d) (fig e) 6)) ∨ ((nR x nd ∨ nR y nd) ∧ r = -1)
def BGb (nbt : Nat → Nat) (fig : Nat → Nat → Nat) (a b : Nat) : Prop := nbt a ≤ nbt b ∧ ∀ k, k < nbt a → fig a k = fig b k
def sp_safe (nd : Nat) (nbt : Nat → Nat) (fig : Nat → Nat → Nat) (r : Int32) : Prop :=
  (nd = 0 ∧ r = -3) ∨ (0 < nd ∧ (∃ a b, a < nd ∧ b < nd ∧ a ≠ b ∧ BGb nbt fig a b) ∧ r = nI 0) ∨ (0 < nd ∧ (¬ ∃ a b, a < nd ∧ b < nd ∧ a ≠ b ∧ BGb nbt fig a b) ∧ r = nI 1)
def sp_many (nb nd nc nf : Nat) (x r : Int32) : Prop := (x = nI 0 ∧ r = nI nb) ∨ (x = nI 1 ∧ r = nI nd) ∨ (x = nI 2 ∧ r = nI nc) ∨ (x = nI 3 ∧ r = nI nf) ∨ (nR x 4 ∧ r = -2)
/-- which door is opened by laid steps -/
def opd (nb : Nat) (need : Nat → Nat) (nc : Nat) (li p st : Nat → Nat) (nbt : Nat → Nat) (fig : Nat → Nat → Nat) (bt d : Nat) : Prop := nbt d = bt ∧ ∀ j, j < nbt d → FE nb need nc li p st j = fig d j
def sp_opd (nb : Nat) (need : Nat → Nat) (nc : Nat) (li p st : Nat → Nat) (nd : Nat) (nbt : Nat → Nat) (fig : Nat → Nat → Nat) (bt : Nat) (r : Int32) : Prop :=
  (∃ d, d < nd ∧ r = nI d ∧ opd nb need nc li p st nbt fig bt d ∧ ∀ e, e < d → ¬ opd nb need nc li p st nbt fig bt e) ∨ (r = -9 ∧ ∀ e, e < nd → ¬ opd nb need nc li p st nbt fig bt e)
def sp_wrg (nb : Nat) (need : Nat → Nat) (nc : Nat) (li p st : Nat → Nat) (nbt : Nat → Nat) (fig : Nat → Nat → Nat) (d : Nat) (r : Int32) : Prop :=
  (∃ k, k < nbt d ∧ r = nI k ∧ FE nb need nc li p st k ≠ fig d k ∧ ∀ j, j < k → FE nb need nc li p st j = fig d j) ∨ (r = -9 ∧ ∀ j, j < nbt d → FE nb need nc li p st j = fig d j)
/-- the first plan of a door is laid; there is none -/
def planY (nb : Nat) (need : Nat → Nat) (nc : Nat) (li p : Nat → Nat) (nbt : Nat → Nat) (fig : Nat → Nat → Nat) (d : Nat) (st : Nat → Nat) : Prop := ∀ j, j % 2 = 0 → j < nbt d → FSTb nb need nc li p (fig d) (nbt d) st j
def planN (nb : Nat) (need : Nat → Nat) (nc : Nat) (li p : Nat → Nat) (nbt : Nat → Nat) (fig : Nat → Nat → Nat) (d : Nat) : Prop := ∃ j, (j % 2 = 0 ∧ j < nbt d) ∧ NFb nb need nc li p (fig d) (nbt d) j
def sp_can (nb : Nat) (need : Nat → Nat) (nc : Nat) (li p : Nat → Nat) (nd : Nat) (nbt : Nat → Nat) (fig : Nat → Nat → Nat) (x r : Int32) : Prop :=
  (∃ d, d < nd ∧ x = nI d ∧ (((∃ st, planY nb need nc li p nbt fig d st) ∧ r = nI 1) ∨ (planN nb need nc li p nbt fig d ∧ r = nI 0))) ∨ (nR x nd ∧ r = -1)
def sp_plan (nb : Nat) (need : Nat → Nat) (nc : Nat) (li p : Nat → Nat) (nd : Nat) (nbt : Nat → Nat) (fig : Nat → Nat → Nat) (x k y r : Int32) : Prop :=
  (∃ d j e, d < nd ∧ j < nbt d ∧ e < nc ∧ x = nI d ∧ k = nI j ∧ y = nI e ∧ ((∃ st, planY nb need nc li p nbt fig d st ∧ r = nI (st (j * 4 + e))) ∨ (planN nb need nc li p nbt fig d ∧ r = -9))) ∨
  ((¬ ∃ d j e, d < nd ∧ j < nbt d ∧ e < nc ∧ x = nI d ∧ k = nI j ∧ y = nI e) ∧ r = -1)
def sp_limped (nb : Nat) (need : Nat → Nat) (nc : Nat) (kd wt : Nat → Nat) (nd : Nat) (nbt : Nat → Nat) (fig : Nat → Nat → Nat) (x r : Int32) : Prop :=
  (∃ d, d < nd ∧ x = nI d ∧ ((∃ st, planY nb need nc (fun _ => 0) wt nbt fig d st ∧ sp_opd nb need nc (lA kd) (pA kd wt) st nd nbt fig (nbt d) r) ∨ (planN nb need nc (fun _ => 0) wt nbt fig d ∧ r = -3))) ∨ (nR x nd ∧ r = -1)
def sp_plans (nb : Nat) (need : Nat → Nat) (nc : Nat) (li p : Nat → Nat) (nd : Nat) (nbt : Nat → Nat) (fig : Nat → Nat → Nat) (x k : Int32) (r : Int64) : Prop :=
  (∃ d j, d < nd ∧ j < nbt d ∧ x = nI d ∧ k = nI j ∧ ∃ st, r = lN (cr nb need nc li p (fig d j) nc st)) ∨ ((¬ ∃ d j, d < nd ∧ j < nbt d ∧ x = nI d ∧ k = nI j) ∧ r = (-9223372036854775808))
/-- cells taken from a sheet: refused, or a fault; taken -/
def tkB (noS : Nat → Prop) (hasS : Nat → Nat → Prop) (len : Nat → Nat) (sh so : Int32) (o : Prop) (i q : Int32) (r : Int32) (F : Nat) : Prop :=
  (nR sh 4 ∧ r = -1 ∧ F = 0) ∨ (∃ k, k < 4 ∧ sh = nI k ∧ (nR so 3 ∨ o) ∧ r = -2 ∧ F = 0) ∨
  ∃ k s, k < 4 ∧ s < 3 ∧ sh = nI k ∧ so = nI s ∧ ¬ o ∧ ((noS k ∧ r = -11 ∧ F = 1) ∨ (¬ noS k ∧ ¬ hasS k s ∧ r = -12 ∧ F = 2) ∨ (hasS k s ∧ q.toInt < 0 ∧ r = -14 ∧ F = 4) ∨ (hasS k s ∧ 0 ≤ q.toInt ∧ (i.toInt < 0 ∨ (len k : Int) < i.toInt + q.toInt) ∧ r = -13 ∧ F = 3))
def tkY (hasS : Nat → Nat → Prop) (len : Nat → Nat) (sh so : Int32) (o : Prop) (i q : Int32) (k s j n : Nat) : Prop := k < 4 ∧ s < 3 ∧ sh = nI k ∧ so = nI s ∧ ¬ o ∧ hasS k s ∧ i = nI j ∧ q = nI n ∧ j + n ≤ len k
/-- a plan out of cells -/
def cellsP (cell : Nat → Nat → Int32) (k j nb nc bt : Nat) (st : Nat → Nat) : Prop := ∀ b e, b < bt → e < nc → cell k (j + (b * nc + e)) = nI (st (b * 4 + e)) ∧ st (b * 4 + e) < nb
def cellsN (cell : Nat → Nat → Int32) (k j nb n : Nat) : Prop := ∃ q, q < n ∧ nR (cell k (j + q)) nb
def sp_tp (noS : Nat → Prop) (hasS : Nat → Nat → Prop) (len : Nat → Nat) (cell : Nat → Nat → Int32) (nb nd nc bt : Nat) (sh so i : Int32) (fin : (Nat → Nat) → Int32 → Prop) (r : Int32) (F : Nat) : Prop :=
  tkB noS hasS len sh so False i (nI (bt * nc)) r F ∨
  ∃ k s j n, tkY hasS len sh so False i (nI (bt * nc)) k s j n ∧ F = 0 ∧ ((nd = 0 ∧ r = -3) ∨ (0 < nd ∧ cellsN cell k j nb (bt * nc) ∧ r = -1) ∨ (0 < nd ∧ ∃ st, cellsP cell k j nb nc bt st ∧ fin st r))
/-- a call with so many beats -/
def sp_bt (noS : Nat → Prop) (hasS : Nat → Nat → Prop) (len : Nat → Nat) (cell : Nat → Nat → Int32) (nb nd nc : Nat) (x : Int32) (ok : Nat → Prop) (sh so i : Int32) (fin : Nat → (Nat → Nat) → Int32 → Prop) (r : Int32) (F : Nat) : Prop :=
  (∃ bt, 1 ≤ bt ∧ bt ≤ 6 ∧ x = nI bt ∧ ok bt ∧ sp_tp noS hasS len cell nb nd nc bt sh so i (fin bt) r F) ∨
  ((¬ ∃ bt, 1 ≤ bt ∧ bt ≤ 6 ∧ x = nI bt ∧ ok bt) ∧ F = 0 ∧ ((nR sh 4 ∧ r = -1) ∨ ((∃ k, k < 4 ∧ sh = nI k) ∧ r = -2)))
def sp_wrong (noS : Nat → Prop) (hasS : Nat → Nat → Prop) (len : Nat → Nat) (cell : Nat → Nat → Int32) (nb nd nc : Nat) (nbt : Nat → Nat) (x sh so i : Int32) (fin : Nat → (Nat → Nat) → Int32 → Prop) (r : Int32) (F : Nat) : Prop :=
  (∃ d, d < nd ∧ x = nI d ∧ sp_tp noS hasS len cell nb nd nc (nbt d) sh so i (fin d) r F) ∨ (nR x nd ∧ r = -1 ∧ F = 0)
def sp_row (noS : Nat → Prop) (hasS : Nat → Nat → Prop) (len : Nat → Nat) (sh so : Int32) (o : Prop) (i q : Int32) (fin : Nat → Nat → Nat → Int32 → Prop) (r : Int32) (F : Nat) : Prop :=
  tkB noS hasS len sh so o i q r F ∨ ∃ k s j n, tkY hasS len sh so o i q k s j n ∧ F = 0 ∧ fin k j n r
def WIb (cell : Nat → Nat → Int32) (k j n z : Nat) : Prop := ∀ e, e < n → cell k (j + e) ||| nI z = nI z
def sp_seen (cell : Nat → Nat → Int32) (nd : Nat) (nbt : Nat → Nat) (fig : Nat → Nat → Nat) (z k j n : Nat) (r : Int32) : Prop :=
  (nd = 0 ∧ r = -3) ∨ (0 < nd ∧ ¬ WIb cell k j n z ∧ r = -2) ∨ (0 < nd ∧ WIb cell k j n z ∧ r = nI (dset (fun d => nbt d = n ∧ ∀ e, e < n → nI (fig d e &&& z) = cell k (j + e)) nd))
def sp_part (cell : Nat → Nat → Int32) (nb nd : Nat) (nbt : Nat → Nat) (fig : Nat → Nat → Nat) (k j n : Nat) (r : Int32) : Prop :=
  (nd = 0 ∧ r = -3) ∨ (0 < nd ∧ (n = 0 ∨ ¬ WIb cell k j n (2 ^ nb - 1)) ∧ r = -2) ∨
  (0 < nd ∧ n ≠ 0 ∧ WIb cell k j n (2 ^ nb - 1) ∧ r = nI (dset (fun d => ∃ fr, fr + n ≤ nbt d ∧ ∀ e, e < n → nI (fig d (fr + e) &&& (2 ^ nb - 1)) = cell k (j + e)) nd))
def sp_cell (noS : Nat → Prop) (hasS : Nat → Nat → Prop) (len : Nat → Nat) (cell : Nat → Nat → Int32) (sh i so : Int32) (r : Int64) (F : Nat) : Prop :=
  ((∃ r0, tkB noS hasS len sh so False i (nI 1) r0 F) ∧ r = (-9223372036854775808)) ∨ ∃ k s j n, tkY hasS len sh so False i (nI 1) k s j n ∧ F = 0 ∧ r = (cell k j).toInt64
def sp_as (nc : Nat) (kd : Nat → Nat) (x y : Int32) (r : Int32) (F : Nat) : Prop :=
  (∃ d, d < nc ∧ x = nI d ∧ ((nR y 3 ∧ r = -2 ∧ F = 0) ∨ ∃ k, k < 3 ∧ y = nI k ∧ ((k ≤ kd d ∧ r = nI 1 ∧ F = 0) ∨ (kd d < k ∧ r = -12 ∧ F = 2)))) ∨ (nR x nc ∧ r = -1 ∧ F = 0)
/-- the class's state but for scratch -/
def XS (v : Nat → Nat → Nat) (c : Nat → Nat → Int32) (u : (Nat → Nat → Nat) × (Nat → Nat → Int32)) (F : Nat) : Prop :=
  XI u.1 ∧ u.1 0 8 = F ∧ u.1 3 = v 3 ∧ u.1 11 = v 11 ∧ u.1 12 = v 12 ∧ u.1 13 = v 13 ∧ u.1 14 = v 14 ∧ u.1 15 = v 15 ∧ u.1 16 = v 16 ∧ u.1 17 = v 17 ∧ u.1 23 = v 23 ∧ u.1 24 = v 24 ∧ u.2 2 = c 2 ∧ u.2 4 = c 4 ∧ u.2 0 7 = c 0 7
theorem XS_of {v : Nat → Nat → Nat} {c : Nat → Nat → Int32} {u : (Nat → Nat → Nat) × (Nat → Nat → Int32)} {F : Nat} (h : XI v) (hs : ∀ q, q < 24 → u.1 18 q < 8) (h0 : u.1 0 8 = F) (e : u.1 3 = v 3 ∧ u.1 11 = v 11 ∧ u.1 12 = v 12 ∧ u.1 13 = v 13 ∧ u.1 14 = v 14 ∧ u.1 15 = v 15 ∧ u.1 16 = v 16 ∧ u.1 17 = v 17 ∧ u.1 23 = v 23 ∧ u.1 24 = v 24 ∧ u.2 2 = c 2 ∧ u.2 4 = c 4 ∧ u.2 0 7 = c 0 7) : XS v c u F := by
  refine ⟨?_, h0, e⟩
  obtain ⟨e3, e11, e12, e13, e14, e15, e16, e17, e23, e24, -⟩ := e
  obtain ⟨h1, h2, h3, h4, h5, h6, h7, h8, h9, h10, h11, h12, -⟩ := h
  unfold XI
  rw [e3, e11, e12, e13, e14, e15, e16, e17, e23, e24]
  exact ⟨h1, h2, h3, h4, h5, h6, h7, h8, h9, h10, h11, h12, hs⟩
abbrev xFig (v : Nat → Nat → Nat) : Nat → Nat → Nat := fun d k => v 14 (d * 6 + k)
abbrev xNo (c : Nat → Nat → Int32) : Nat → Prop := fun k => c 2 k = -1
abbrev xHas (c : Nat → Nat → Int32) : Nat → Nat → Prop := fun k s => c 2 k = nI s
abbrev xCell (c : Nat → Nat → Int32) : Nat → Nat → Int32 := fun k q => c 4 (k * 80 + q)
