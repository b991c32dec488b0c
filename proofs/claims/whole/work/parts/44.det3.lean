/-! ===== one answer, and alike behind it: the calls ===== -/
def rFl (a n b f a' n' b' f' : Nat → Nat) : Prop := a 0 = a' 0 ∧ a 1 = a' 1 ∧ (∀ i, i < a 0 → n i = n' i) ∧ (∀ d, d < a 1 → b d = b' d) ∧ ∀ d k, d < a 1 → k < b d → f (d * 6 + k) = f' (d * 6 + k)
def rTr (a k w a' k' w' : Nat → Nat) : Prop := a 0 = a' 0 ∧ ∀ d, d < a 0 → k d = k' d ∧ w d = w' d
def rFa (a k a' k' : Nat → Nat) : Prop := a 0 = a' 0 ∧ ∀ f, f < a 0 → k f = k' f
/-- alike where it counts -/
def ALK (v : Nat → Nat → Nat) (c : Nat → Nat → Int32) (w : Nat → Nat → Nat) (d : Nat → Nat → Int32) : Prop :=
  v 0 8 = w 0 8 ∧ rFl (v 11) (v 12) (v 13) (v 14) (w 11) (w 12) (w 13) (w 14) ∧ rTr (v 15) (v 16) (v 17) (w 15) (w 16) (w 17) ∧ rFa (v 23) (v 24) (w 23) (w 24) ∧ rSh (v 3) (c 2) (c 4) (w 3) (d 2) (d 4) ∧ c 0 7 = d 0 7
theorem RL_xs {v w : Nat → Nat → Nat} {c d : Nat → Nat → Int32} {u u' : (Nat → Nat → Nat) × (Nat → Nat → Int32)} {F F' : Nat} (hR : ALK v c w d) (h : XS v c u F) (h' : XS w d u' F') (e : F = F') : ALK u.1 u.2 u'.1 u'.2 := by
  obtain ⟨-, e8, e3, e11, e12, e13, e14, e15, e16, e17, e23, e24, ec2, ec4, e7⟩ := h
  obtain ⟨-, g8, g3, g11, g12, g13, g14, g15, g16, g17, g23, g24, gc2, gc4, g7⟩ := h'
  obtain ⟨h0, hFl, hTr, hFa, hs, h7⟩ := hR
  unfold ALK
  rw [e8, e3, e11, e12, e13, e14, e15, e16, e17, e23, e24, ec2, ec4, e7, g8, g3, g11, g12, g13, g14, g15, g16, g17, g23, g24, gc2, gc4, g7]
  exact ⟨e, hFl, hTr, hFa, hs, h7⟩
set_option maxHeartbeats 1000000 in
theorem pr_board {v w : Nat → Nat → Nat} {c d : Nat → Nat → Int32} {x : Int32} {r r' : Int32} (hI : XI v) (hJ : XI w) (hR : ALK v c w d) (h : sp_board (v 11 0) (v 12) x r) (h' : sp_board (w 11 0) (w 12) x r') : r = r' := by
  obtain ⟨h0, hFl, hTr, hFa, hs, h7⟩ := id hR
  obtain ⟨a0, a1, a2, a3, a4⟩ := id hFl
  obtain ⟨b0, b1⟩ := id hTr
  obtain ⟨c0, c1⟩ := id hFa
  obtain ⟨hnb, hnd, hbt, hfg, hne, hnc, hdk, hnf, hkn, hln, hst, hdc, hsp⟩ := id hI
  obtain ⟨knb, knd, kbt, kfg, kne, knc, kdk, knf, kkn, kln, kst, kdc, ksp⟩ := id hJ
  exact d_board (by omega) a0 a2 h h'
set_option maxHeartbeats 1000000 in
theorem pr_beat {v w : Nat → Nat → Nat} {c d : Nat → Nat → Int32} {x y : Int32} {r r' : Int32} (hI : XI v) (hJ : XI w) (hR : ALK v c w d) (h : sp_beat (v 11 1) (v 13) (xFig v) x y r) (h' : sp_beat (w 11 1) (w 13) (xFig w) x y r') : r = r' := by
  obtain ⟨h0, hFl, hTr, hFa, hs, h7⟩ := id hR
  obtain ⟨a0, a1, a2, a3, a4⟩ := id hFl
  obtain ⟨b0, b1⟩ := id hTr
  obtain ⟨c0, c1⟩ := id hFa
  obtain ⟨hnb, hnd, hbt, hfg, hne, hnc, hdk, hnf, hkn, hln, hst, hdc, hsp⟩ := id hI
  obtain ⟨knb, knd, kbt, kfg, kne, knc, kdk, knf, kkn, kln, kst, kdc, ksp⟩ := id hJ
  exact d_beat (by omega) a1 (fun b hb => ⟨a3 b hb, by have := (hbt b hb).2; omega⟩) (fun dx k hd hk => a4 dx k hd hk) h h'
set_option maxHeartbeats 1000000 in
theorem pr_ofDancer {v w : Nat → Nat → Nat} {c d : Nat → Nat → Int32} {x y : Int32} {r r' : Int32} (hI : XI v) (hJ : XI w) (hR : ALK v c w d) (h : sp_ofDancer (v 15 0) (v 16) (v 17) x y r) (h' : sp_ofDancer (w 15 0) (w 16) (w 17) x y r') : r = r' := by
  obtain ⟨h0, hFl, hTr, hFa, hs, h7⟩ := id hR
  obtain ⟨a0, a1, a2, a3, a4⟩ := id hFl
  obtain ⟨b0, b1⟩ := id hTr
  obtain ⟨c0, c1⟩ := id hFa
  obtain ⟨hnb, hnd, hbt, hfg, hne, hnc, hdk, hnf, hkn, hln, hst, hdc, hsp⟩ := id hI
  obtain ⟨knb, knd, kbt, kfg, kne, knc, kdk, knf, kkn, kln, kst, kdc, ksp⟩ := id hJ
  exact d_ofDancer (by omega) b0 b1 h h'
set_option maxHeartbeats 1000000 in
theorem pr_many {v w : Nat → Nat → Nat} {c d : Nat → Nat → Int32} {x : Int32} {r r' : Int32} (hI : XI v) (hJ : XI w) (hR : ALK v c w d) (h : sp_many (v 11 0) (v 11 1) (v 15 0) (v 23 0) x r) (h' : sp_many (w 11 0) (w 11 1) (w 15 0) (w 23 0) x r') : r = r' := by
  obtain ⟨h0, hFl, hTr, hFa, hs, h7⟩ := id hR
  obtain ⟨a0, a1, a2, a3, a4⟩ := id hFl
  obtain ⟨b0, b1⟩ := id hTr
  obtain ⟨c0, c1⟩ := id hFa
  obtain ⟨hnb, hnd, hbt, hfg, hne, hnc, hdk, hnf, hkn, hln, hst, hdc, hsp⟩ := id hI
  obtain ⟨knb, knd, kbt, kfg, kne, knc, kdk, knf, kkn, kln, kst, kdc, ksp⟩ := id hJ
  exact d_many ⟨a0, a1, b0, c0⟩ h h'
set_option maxHeartbeats 1000000 in
theorem pr_knows {v w : Nat → Nat → Nat} {c d : Nat → Nat → Int32} {x : Int32} {r r' : Int32} (hI : XI v) (hJ : XI w) (hR : ALK v c w d) (h : sp_board (v 23 0) (v 24) x r) (h' : sp_board (w 23 0) (w 24) x r') : r = r' := by
  obtain ⟨h0, hFl, hTr, hFa, hs, h7⟩ := id hR
  obtain ⟨a0, a1, a2, a3, a4⟩ := id hFl
  obtain ⟨b0, b1⟩ := id hTr
  obtain ⟨c0, c1⟩ := id hFa
  obtain ⟨hnb, hnd, hbt, hfg, hne, hnc, hdk, hnf, hkn, hln, hst, hdc, hsp⟩ := id hI
  obtain ⟨knb, knd, kbt, kfg, kne, knc, kdk, knf, kkn, kln, kst, kdc, ksp⟩ := id hJ
  exact d_board (by omega) c0 c1 h h'
set_option maxHeartbeats 1000000 in
theorem pr_fewest {v w : Nat → Nat → Nat} {c d : Nat → Nat → Int32} {x : Int32} {r r' : Int32} (hI : XI v) (hJ : XI w) (hR : ALK v c w d) (h : sp_door (v 11 1) (fun dx => fwr (fw (v 24) (v 23 0) ((2 ^ v 13 dx - 1) * 2 ^ (dx * 6)) (2 ^ v 23 0))) x r) (h' : sp_door (w 11 1) (fun dx => fwr (fw (w 24) (w 23 0) ((2 ^ w 13 dx - 1) * 2 ^ (dx * 6)) (2 ^ w 23 0))) x r') : r = r' := by
  obtain ⟨h0, hFl, hTr, hFa, hs, h7⟩ := id hR
  obtain ⟨a0, a1, a2, a3, a4⟩ := id hFl
  obtain ⟨b0, b1⟩ := id hTr
  obtain ⟨c0, c1⟩ := id hFa
  obtain ⟨hnb, hnd, hbt, hfg, hne, hnc, hdk, hnf, hkn, hln, hst, hdc, hsp⟩ := id hI
  obtain ⟨knb, knd, kbt, kfg, kne, knc, kdk, knf, kkn, kln, kst, kdc, ksp⟩ := id hJ
  exact d_door (by omega) a1 (fun b hb => by rw [a3 b hb, ← c0, fw_cg c1]) h h'
set_option maxHeartbeats 1000000 in
theorem pr_any {v w : Nat → Nat → Nat} {c d : Nat → Nat → Int32} {x : Int32} {r r' : Int32} (hI : XI v) (hJ : XI w) (hR : ALK v c w d) (h : sp_door (v 11 1) (fun dx => if mst (v 24) (v 23 0) ((2 ^ v 13 dx - 1) * 2 ^ (dx * 6)) 24 < v 23 0 then nI (mst (v 24) (v 23 0) ((2 ^ v 13 dx - 1) * 2 ^ (dx * 6)) 24 + 1) else -9) x r) (h' : sp_door (w 11 1) (fun dx => if mst (w 24) (w 23 0) ((2 ^ w 13 dx - 1) * 2 ^ (dx * 6)) 24 < w 23 0 then nI (mst (w 24) (w 23 0) ((2 ^ w 13 dx - 1) * 2 ^ (dx * 6)) 24 + 1) else -9) x r') : r = r' := by
  obtain ⟨h0, hFl, hTr, hFa, hs, h7⟩ := id hR
  obtain ⟨a0, a1, a2, a3, a4⟩ := id hFl
  obtain ⟨b0, b1⟩ := id hTr
  obtain ⟨c0, c1⟩ := id hFa
  obtain ⟨hnb, hnd, hbt, hfg, hne, hnc, hdk, hnf, hkn, hln, hst, hdc, hsp⟩ := id hI
  obtain ⟨knb, knd, kbt, kfg, kne, knc, kdk, knf, kkn, kln, kst, kdc, ksp⟩ := id hJ
  exact d_door (by omega) a1 (fun b hb => by rw [a3 b hb, ← c0, mst_cg c1]) h h'
set_option maxHeartbeats 1000000 in
theorem pr_evenings {v w : Nat → Nat → Nat} {c d : Nat → Nat → Int32} {x : Int32} {r r' : Int32} (hI : XI v) (hJ : XI w) (hR : ALK v c w d) (h : sp_door (v 11 1) (fun dx => nI (lrn (v 24) (kn (v 24) (2 ^ v 23 0 - 1) (v 23 0) &&& ((2 ^ v 13 dx - 1) * 2 ^ (dx * 6))) (v 23 0))) x r) (h' : sp_door (w 11 1) (fun dx => nI (lrn (w 24) (kn (w 24) (2 ^ w 23 0 - 1) (w 23 0) &&& ((2 ^ w 13 dx - 1) * 2 ^ (dx * 6))) (w 23 0))) x r') : r = r' := by
  obtain ⟨h0, hFl, hTr, hFa, hs, h7⟩ := id hR
  obtain ⟨a0, a1, a2, a3, a4⟩ := id hFl
  obtain ⟨b0, b1⟩ := id hTr
  obtain ⟨c0, c1⟩ := id hFa
  obtain ⟨hnb, hnd, hbt, hfg, hne, hnc, hdk, hnf, hkn, hln, hst, hdc, hsp⟩ := id hI
  obtain ⟨knb, knd, kbt, kfg, kne, knc, kdk, knf, kkn, kln, kst, kdc, ksp⟩ := id hJ
  exact d_door (by omega) a1 (fun b hb => by rw [a3 b hb, ← c0, kn_cg _ c1, lrn_cg _ c1]) h h'
set_option maxHeartbeats 1000000 in
theorem pr_nearest {v w : Nat → Nat → Nat} {c d : Nat → Nat → Int32} {x : Int32} {r r' : Int32} (hI : XI v) (hJ : XI w) (hR : ALK v c w d) (h : sp_door (v 11 1) (fun dx => fwr (lu (fun o => ulN (v 13 dx) (v 13 o) (fun k => v 14 (dx * 6 + k)) (fun k => v 14 (o * 6 + k)) 6) dx (v 11 1))) x r) (h' : sp_door (w 11 1) (fun dx => fwr (lu (fun o => ulN (w 13 dx) (w 13 o) (fun k => w 14 (dx * 6 + k)) (fun k => w 14 (o * 6 + k)) 6) dx (w 11 1))) x r') : r = r' := by
  obtain ⟨h0, hFl, hTr, hFa, hs, h7⟩ := id hR
  obtain ⟨a0, a1, a2, a3, a4⟩ := id hFl
  obtain ⟨b0, b1⟩ := id hTr
  obtain ⟨c0, c1⟩ := id hFa
  obtain ⟨hnb, hnd, hbt, hfg, hne, hnc, hdk, hnf, hkn, hln, hst, hdc, hsp⟩ := id hI
  obtain ⟨knb, knd, kbt, kfg, kne, knc, kdk, knf, kkn, kln, kst, kdc, ksp⟩ := id hJ
  exact d_door (by omega) a1 (fun b hb => by rw [← a1]; exact congrArg fwr (lu_congr _ (fun k hk => ul_cg (F := xFig v) (G := xFig w) a3 (fun dx k hd hk => a4 dx k hd hk) hb hk))) h h'
set_option maxHeartbeats 1000000 in
theorem pr_gone {v w : Nat → Nat → Nat} {c d : Nat → Nat → Int32} {x y : Int32} {r r' : Int32} (hI : XI v) (hJ : XI w) (hR : ALK v c w d) (h : sp_gone (v 11 1) (v 13) (v 23 0) (v 24) x y r) (h' : sp_gone (w 11 1) (w 13) (w 23 0) (w 24) x y r') : r = r' := by
  obtain ⟨h0, hFl, hTr, hFa, hs, h7⟩ := id hR
  obtain ⟨a0, a1, a2, a3, a4⟩ := id hFl
  obtain ⟨b0, b1⟩ := id hTr
  obtain ⟨c0, c1⟩ := id hFa
  obtain ⟨hnb, hnd, hbt, hfg, hne, hnc, hdk, hnf, hkn, hln, hst, hdc, hsp⟩ := id hI
  obtain ⟨knb, knd, kbt, kfg, kne, knc, kdk, knf, kkn, kln, kst, kdc, ksp⟩ := id hJ
  exact d_gone (by omega) a1 a3 (by omega) c0 c1 h h'
set_option maxHeartbeats 1000000 in
theorem pr_apart {v w : Nat → Nat → Nat} {c d : Nat → Nat → Int32} {x y : Int32} {r r' : Int32} (hI : XI v) (hJ : XI w) (hR : ALK v c w d) (h : sp_apart (v 11 1) (v 13) (xFig v) x y r) (h' : sp_apart (w 11 1) (w 13) (xFig w) x y r') : r = r' := by
  obtain ⟨h0, hFl, hTr, hFa, hs, h7⟩ := id hR
  obtain ⟨a0, a1, a2, a3, a4⟩ := id hFl
  obtain ⟨b0, b1⟩ := id hTr
  obtain ⟨c0, c1⟩ := id hFa
  obtain ⟨hnb, hnd, hbt, hfg, hne, hnc, hdk, hnf, hkn, hln, hst, hdc, hsp⟩ := id hI
  obtain ⟨knb, knd, kbt, kfg, kne, knc, kdk, knf, kkn, kln, kst, kdc, ksp⟩ := id hJ
  exact d_apart (by omega) a1 a3 (fun dx k hd hk => a4 dx k hd hk) h h'
set_option maxHeartbeats 1000000 in
theorem pr_safe {v w : Nat → Nat → Nat} {c d : Nat → Nat → Int32} {r r' : Int32} (hI : XI v) (hJ : XI w) (hR : ALK v c w d) (h : sp_safe (v 11 1) (v 13) (xFig v) r) (h' : sp_safe (w 11 1) (w 13) (xFig w) r') : r = r' := by
  obtain ⟨h0, hFl, hTr, hFa, hs, h7⟩ := id hR
  obtain ⟨a0, a1, a2, a3, a4⟩ := id hFl
  obtain ⟨b0, b1⟩ := id hTr
  obtain ⟨c0, c1⟩ := id hFa
  obtain ⟨hnb, hnd, hbt, hfg, hne, hnc, hdk, hnf, hkn, hln, hst, hdc, hsp⟩ := id hI
  obtain ⟨knb, knd, kbt, kfg, kne, knc, kdk, knf, kkn, kln, kst, kdc, ksp⟩ := id hJ
  exact d_safe a1 a3 (fun dx k hd hk => a4 dx k hd hk) h h'
set_option maxHeartbeats 1000000 in
theorem pr_trace {v w : Nat → Nat → Nat} {c d : Nat → Nat → Int32} {r r' : Int32} (hI : XI v) (hJ : XI w) (hR : ALK v c w d) (h : r = c 0 7) (h' : r' = d 0 7) : r = r' := by
  obtain ⟨h0, hFl, hTr, hFa, hs, h7⟩ := id hR
  obtain ⟨a0, a1, a2, a3, a4⟩ := id hFl
  obtain ⟨b0, b1⟩ := id hTr
  obtain ⟨c0, c1⟩ := id hFa
  obtain ⟨hnb, hnd, hbt, hfg, hne, hnc, hdk, hnf, hkn, hln, hst, hdc, hsp⟩ := id hI
  obtain ⟨knb, knd, kbt, kfg, kne, knc, kdk, knf, kkn, kln, kst, kdc, ksp⟩ := id hJ
  exact h.trans (h7.trans h'.symm)
set_option maxHeartbeats 1000000 in
theorem pr_fault {v w : Nat → Nat → Nat} {c d : Nat → Nat → Int32} {r r' : Int32} (hI : XI v) (hJ : XI w) (hR : ALK v c w d) (h : r = nI (v 0 8)) (h' : r' = nI (w 0 8)) : r = r' := by
  obtain ⟨h0, hFl, hTr, hFa, hs, h7⟩ := id hR
  obtain ⟨a0, a1, a2, a3, a4⟩ := id hFl
  obtain ⟨b0, b1⟩ := id hTr
  obtain ⟨c0, c1⟩ := id hFa
  obtain ⟨hnb, hnd, hbt, hfg, hne, hnc, hdk, hnf, hkn, hln, hst, hdc, hsp⟩ := id hI
  obtain ⟨knb, knd, kbt, kfg, kne, knc, kdk, knf, kkn, kln, kst, kdc, ksp⟩ := id hJ
  exact by rw [h, h', h0]
set_option maxHeartbeats 1000000 in
theorem pr_can {v w : Nat → Nat → Nat} {c d : Nat → Nat → Int32} {u u' : (Nat → Nat → Nat) × (Nat → Nat → Int32)} {x : Int32} {r r' : Int32} (hI : XI v) (hJ : XI w) (hR : ALK v c w d) (h : sp_can (v 11 0) (v 12) (v 15 0) (lA (v 16)) (pA (v 16) (v 17)) (v 11 1) (v 13) (xFig v) x r ∧ XS v c u (v 0 8)) (h' : sp_can (w 11 0) (w 12) (w 15 0) (lA (w 16)) (pA (w 16) (w 17)) (w 11 1) (w 13) (xFig w) x r' ∧ XS w d u' (w 0 8)) : r = r' ∧ ALK u.1 u.2 u'.1 u'.2 := by
  obtain ⟨h0, hFl, hTr, hFa, hs, h7⟩ := id hR
  obtain ⟨a0, a1, a2, a3, a4⟩ := id hFl
  obtain ⟨b0, b1⟩ := id hTr
  obtain ⟨c0, c1⟩ := id hFa
  obtain ⟨hnb, hnd, hbt, hfg, hne, hnc, hdk, hnf, hkn, hln, hst, hdc, hsp⟩ := id hI
  obtain ⟨knb, knd, kbt, kfg, kne, knc, kdk, knf, kkn, kln, kst, kdc, ksp⟩ := id hJ
  obtain ⟨q1, q2⟩ := h
  obtain ⟨k1, k2⟩ := h'
  exact ⟨d_can (by omega) a0 b0 a1 a3 (fun dx hd => ⟨a2, (fun e he => ⟨pA_cg (b1 e he).1 (b1 e he).2, lA_cg (b1 e he).1⟩), fun k hk => a4 dx k hd hk⟩) q1 k1, RL_xs hR q2 k2 h0⟩
set_option maxHeartbeats 1000000 in
theorem pr_plan {v w : Nat → Nat → Nat} {c d : Nat → Nat → Int32} {u u' : (Nat → Nat → Nat) × (Nat → Nat → Int32)} {x y z : Int32} {r r' : Int32} (hI : XI v) (hJ : XI w) (hR : ALK v c w d) (h : sp_plan (v 11 0) (v 12) (v 15 0) (lA (v 16)) (pA (v 16) (v 17)) (v 11 1) (v 13) (xFig v) x y z r ∧ XS v c u (v 0 8)) (h' : sp_plan (w 11 0) (w 12) (w 15 0) (lA (w 16)) (pA (w 16) (w 17)) (w 11 1) (w 13) (xFig w) x y z r' ∧ XS w d u' (w 0 8)) : r = r' ∧ ALK u.1 u.2 u'.1 u'.2 := by
  obtain ⟨h0, hFl, hTr, hFa, hs, h7⟩ := id hR
  obtain ⟨a0, a1, a2, a3, a4⟩ := id hFl
  obtain ⟨b0, b1⟩ := id hTr
  obtain ⟨c0, c1⟩ := id hFa
  obtain ⟨hnb, hnd, hbt, hfg, hne, hnc, hdk, hnf, hkn, hln, hst, hdc, hsp⟩ := id hI
  obtain ⟨knb, knd, kbt, kfg, kne, knc, kdk, knf, kkn, kln, kst, kdc, ksp⟩ := id hJ
  obtain ⟨q1, q2⟩ := h
  obtain ⟨k1, k2⟩ := h'
  exact ⟨d_plan (by omega) (by omega) a0 b0 a1 (fun dx hd => ⟨a3 dx hd, by have := (hbt dx hd).2; omega⟩) (fun dx hd => ⟨a2, (fun e he => ⟨pA_cg (b1 e he).1 (b1 e he).2, lA_cg (b1 e he).1⟩), fun k hk => a4 dx k hd hk⟩) q1 k1, RL_xs hR q2 k2 h0⟩
set_option maxHeartbeats 1000000 in
theorem pr_limped {v w : Nat → Nat → Nat} {c d : Nat → Nat → Int32} {u u' : (Nat → Nat → Nat) × (Nat → Nat → Int32)} {x : Int32} {r r' : Int32} (hI : XI v) (hJ : XI w) (hR : ALK v c w d) (h : sp_limped (v 11 0) (v 12) (v 15 0) (v 16) (v 17) (v 11 1) (v 13) (xFig v) x r ∧ XS v c u (v 0 8)) (h' : sp_limped (w 11 0) (w 12) (w 15 0) (w 16) (w 17) (w 11 1) (w 13) (xFig w) x r' ∧ XS w d u' (w 0 8)) : r = r' ∧ ALK u.1 u.2 u'.1 u'.2 := by
  obtain ⟨h0, hFl, hTr, hFa, hs, h7⟩ := id hR
  obtain ⟨a0, a1, a2, a3, a4⟩ := id hFl
  obtain ⟨b0, b1⟩ := id hTr
  obtain ⟨c0, c1⟩ := id hFa
  obtain ⟨hnb, hnd, hbt, hfg, hne, hnc, hdk, hnf, hkn, hln, hst, hdc, hsp⟩ := id hI
  obtain ⟨knb, knd, kbt, kfg, kne, knc, kdk, knf, kkn, kln, kst, kdc, ksp⟩ := id hJ
  obtain ⟨q1, q2⟩ := h
  obtain ⟨k1, k2⟩ := h'
  exact ⟨d_limped (by omega) a0 b0 a1 a2 b1 a3 (fun dx k hd hk => a4 dx k hd hk) q1 k1, RL_xs hR q2 k2 h0⟩
set_option maxHeartbeats 1000000 in
theorem pr_plans {v w : Nat → Nat → Nat} {c d : Nat → Nat → Int32} {u u' : (Nat → Nat → Nat) × (Nat → Nat → Int32)} {x y : Int32} {r r' : Int64} (hI : XI v) (hJ : XI w) (hR : ALK v c w d) (h : sp_plans (v 11 0) (v 12) (v 15 0) (lA (v 16)) (pA (v 16) (v 17)) (v 11 1) (v 13) (xFig v) x y r ∧ XS v c u (v 0 8)) (h' : sp_plans (w 11 0) (w 12) (w 15 0) (lA (w 16)) (pA (w 16) (w 17)) (w 11 1) (w 13) (xFig w) x y r' ∧ XS w d u' (w 0 8)) : r = r' ∧ ALK u.1 u.2 u'.1 u'.2 := by
  obtain ⟨h0, hFl, hTr, hFa, hs, h7⟩ := id hR
  obtain ⟨a0, a1, a2, a3, a4⟩ := id hFl
  obtain ⟨b0, b1⟩ := id hTr
  obtain ⟨c0, c1⟩ := id hFa
  obtain ⟨hnb, hnd, hbt, hfg, hne, hnc, hdk, hnf, hkn, hln, hst, hdc, hsp⟩ := id hI
  obtain ⟨knb, knd, kbt, kfg, kne, knc, kdk, knf, kkn, kln, kst, kdc, ksp⟩ := id hJ
  obtain ⟨q1, q2⟩ := h
  obtain ⟨k1, k2⟩ := h'
  exact ⟨d_plans (by omega) a0 b0 a1 a2 (fun e he => ⟨pA_cg (b1 e he).1 (b1 e he).2, lA_cg (b1 e he).1⟩) (fun dx hd => ⟨a3 dx hd, by have := (hbt dx hd).2; omega⟩) (fun dx k hd hk => a4 dx k hd hk) q1 k1, RL_xs hR q2 k2 h0⟩
set_option maxHeartbeats 1000000 in
theorem pr_opens {v w : Nat → Nat → Nat} {c d : Nat → Nat → Int32} {u u' : (Nat → Nat → Nat) × (Nat → Nat → Int32)} {x sh so ii : Int32} {r r' : Int32} (hI : XI v) (hJ : XI w) (hR : ALK v c w d) (h : ∃ F, sp_bt (xNo c) (xHas c) (v 3) (xCell c) (v 11 0) (v 11 1) (v 15 0) x (fun _ => True) sh so ii (fun bt st r => sp_opd (v 11 0) (v 12) (v 15 0) (lA (v 16)) (pA (v 16) (v 17)) st (v 11 1) (v 13) (xFig v) bt r) r F ∧ XS v c u F) (h' : ∃ F, sp_bt (xNo d) (xHas d) (w 3) (xCell d) (w 11 0) (w 11 1) (w 15 0) x (fun _ => True) sh so ii (fun bt st r' => sp_opd (w 11 0) (w 12) (w 15 0) (lA (w 16)) (pA (w 16) (w 17)) st (w 11 1) (w 13) (xFig w) bt r') r' F ∧ XS w d u' F) : r = r' ∧ ALK u.1 u.2 u'.1 u'.2 := by
  obtain ⟨h0, hFl, hTr, hFa, hs, h7⟩ := id hR
  obtain ⟨a0, a1, a2, a3, a4⟩ := id hFl
  obtain ⟨b0, b1⟩ := id hTr
  obtain ⟨c0, c1⟩ := id hFa
  obtain ⟨hnb, hnd, hbt, hfg, hne, hnc, hdk, hnf, hkn, hln, hst, hdc, hsp⟩ := id hI
  obtain ⟨knb, knd, kbt, kfg, kne, knc, kdk, knf, kkn, kln, kst, kdc, ksp⟩ := id hJ
  obtain ⟨F, q1, q2⟩ := h
  obtain ⟨F', k1, k2⟩ := h'
  obtain ⟨e1, e2⟩ := d_bt hln kln hs (by omega) hnc a0 a1 b0 (fun bt st st' r r' _ _ he f1 f2 _ => by rw [← a0, ← a1, ← b0] at f2; exact d_opd (by omega) a2 (fun e he => ⟨pA_cg (b1 e he).1 (b1 e he).2, lA_cg (b1 e he).1⟩) a3 (fun dx k hd hk => a4 dx k hd hk) he f1 f2) q1 k1
  exact ⟨e1, RL_xs hR q2 k2 e2⟩
set_option maxHeartbeats 1000000 in
theorem pr_felt {v w : Nat → Nat → Nat} {c d : Nat → Nat → Int32} {u u' : (Nat → Nat → Nat) × (Nat → Nat → Int32)} {x y sh so ii : Int32} {r r' : Int32} (hI : XI v) (hJ : XI w) (hR : ALK v c w d) (h : ∃ F, sp_bt (xNo c) (xHas c) (v 3) (xCell c) (v 11 0) (v 11 1) (v 15 0) x (fun bt => ∃ j, j < bt ∧ y = nI j) sh so ii (fun bt st r => ∃ j, j < bt ∧ y = nI j ∧ r = nI (FE (v 11 0) (v 12) (v 15 0) (lA (v 16)) (pA (v 16) (v 17)) st j)) r F ∧ XS v c u F) (h' : ∃ F, sp_bt (xNo d) (xHas d) (w 3) (xCell d) (w 11 0) (w 11 1) (w 15 0) x (fun bt => ∃ j, j < bt ∧ y = nI j) sh so ii (fun bt st r' => ∃ j, j < bt ∧ y = nI j ∧ r' = nI (FE (w 11 0) (w 12) (w 15 0) (lA (w 16)) (pA (w 16) (w 17)) st j)) r' F ∧ XS w d u' F) : r = r' ∧ ALK u.1 u.2 u'.1 u'.2 := by
  obtain ⟨h0, hFl, hTr, hFa, hs, h7⟩ := id hR
  obtain ⟨a0, a1, a2, a3, a4⟩ := id hFl
  obtain ⟨b0, b1⟩ := id hTr
  obtain ⟨c0, c1⟩ := id hFa
  obtain ⟨hnb, hnd, hbt, hfg, hne, hnc, hdk, hnf, hkn, hln, hst, hdc, hsp⟩ := id hI
  obtain ⟨knb, knd, kbt, kfg, kne, knc, kdk, knf, kkn, kln, kst, kdc, ksp⟩ := id hJ
  obtain ⟨F, q1, q2⟩ := h
  obtain ⟨F', k1, k2⟩ := h'
  obtain ⟨e1, e2⟩ := d_bt hln kln hs (by omega) hnc a0 a1 b0 (fun bt st st' r r' _ h6 he f1 f2 _ => by obtain ⟨j, z1, z2, z3⟩ := f1; obtain ⟨j', y1, y2, y3⟩ := f2; have e : j = j' := (n_inj (by omega) (by omega)).mp (z2.symm.trans y2); subst e; rw [z3, y3, ← a0, ← b0]; exact congrArg nI (FE_cg a2 (fun e he2 => ⟨by unfold tr; rw [lA_cg (b1 e he2).1, he j e z1 he2, he (j - 1) e (by omega) he2], pA_cg (b1 e he2).1 (b1 e he2).2⟩))) q1 k1
  exact ⟨e1, RL_xs hR q2 k2 e2⟩
set_option maxHeartbeats 1000000 in
theorem pr_wrong {v w : Nat → Nat → Nat} {c d : Nat → Nat → Int32} {u u' : (Nat → Nat → Nat) × (Nat → Nat → Int32)} {x sh so ii : Int32} {r r' : Int32} (hI : XI v) (hJ : XI w) (hR : ALK v c w d) (h : ∃ F, sp_wrong (xNo c) (xHas c) (v 3) (xCell c) (v 11 0) (v 11 1) (v 15 0) (v 13) x sh so ii (fun dx st r => sp_wrg (v 11 0) (v 12) (v 15 0) (lA (v 16)) (pA (v 16) (v 17)) st (v 13) (xFig v) dx r) r F ∧ XS v c u F) (h' : ∃ F, sp_wrong (xNo d) (xHas d) (w 3) (xCell d) (w 11 0) (w 11 1) (w 15 0) (w 13) x sh so ii (fun dx st r' => sp_wrg (w 11 0) (w 12) (w 15 0) (lA (w 16)) (pA (w 16) (w 17)) st (w 13) (xFig w) dx r') r' F ∧ XS w d u' F) : r = r' ∧ ALK u.1 u.2 u'.1 u'.2 := by
  obtain ⟨h0, hFl, hTr, hFa, hs, h7⟩ := id hR
  obtain ⟨a0, a1, a2, a3, a4⟩ := id hFl
  obtain ⟨b0, b1⟩ := id hTr
  obtain ⟨c0, c1⟩ := id hFa
  obtain ⟨hnb, hnd, hbt, hfg, hne, hnc, hdk, hnf, hkn, hln, hst, hdc, hsp⟩ := id hI
  obtain ⟨knb, knd, kbt, kfg, kne, knc, kdk, knf, kkn, kln, kst, kdc, ksp⟩ := id hJ
  obtain ⟨F, q1, q2⟩ := h
  obtain ⟨F', k1, k2⟩ := h'
  obtain ⟨e1, e2⟩ := d_wrong hln kln hs (by omega) (by omega) hnc a0 a1 b0 (fun dx hd => ⟨a3 dx hd, (hbt dx hd).2⟩) (fun dx st st' r r' hd he f1 f2 => by rw [← a0, ← b0] at f2; exact d_wrg (by have := (hbt dx hd).2; omega) a2 (fun e he => ⟨pA_cg (b1 e he).1 (b1 e he).2, lA_cg (b1 e he).1⟩) (a3 dx hd) (fun k hk => a4 dx k hd hk) he f1 f2) q1 k1
  exact ⟨e1, RL_xs hR q2 k2 e2⟩
set_option maxHeartbeats 1000000 in
theorem pr_seen {v w : Nat → Nat → Nat} {c d : Nat → Nat → Int32} {u u' : (Nat → Nat → Nat) × (Nat → Nat → Int32)} {z sh so ii qq : Int32} {r r' : Int32} (hI : XI v) (hJ : XI w) (hR : ALK v c w d) (h : ∃ F, sp_row (xNo c) (xHas c) (v 3) sh so (¬ ∃ zz, zz < 2 ^ v 11 0 ∧ z = nI zz) ii qq (fun k j n r => ∃ zz, zz < 2 ^ v 11 0 ∧ z = nI zz ∧ sp_seen (xCell c) (v 11 1) (v 13) (xFig v) zz k j n r) r F ∧ XS v c u F) (h' : ∃ F, sp_row (xNo d) (xHas d) (w 3) sh so (¬ ∃ zz, zz < 2 ^ w 11 0 ∧ z = nI zz) ii qq (fun k j n r' => ∃ zz, zz < 2 ^ w 11 0 ∧ z = nI zz ∧ sp_seen (xCell d) (w 11 1) (w 13) (xFig w) zz k j n r') r' F ∧ XS w d u' F) : r = r' ∧ ALK u.1 u.2 u'.1 u'.2 := by
  obtain ⟨h0, hFl, hTr, hFa, hs, h7⟩ := id hR
  obtain ⟨a0, a1, a2, a3, a4⟩ := id hFl
  obtain ⟨b0, b1⟩ := id hTr
  obtain ⟨c0, c1⟩ := id hFa
  obtain ⟨hnb, hnd, hbt, hfg, hne, hnc, hdk, hnf, hkn, hln, hst, hdc, hsp⟩ := id hI
  obtain ⟨knb, knd, kbt, kfg, kne, knc, kdk, knf, kkn, kln, kst, kdc, ksp⟩ := id hJ
  obtain ⟨F, q1, q2⟩ := h
  obtain ⟨F', k1, k2⟩ := h'
  obtain ⟨e1, e2⟩ := d_row hln kln hs (by rw [a0]) (fun k j n r r' he f1 f2 => by obtain ⟨zz, z1, z2, z3⟩ := f1; obtain ⟨zw, y1, y2, y3⟩ := f2; have e : zz = zw := x_one (n := 2 ^ v 11 0) (m := 2 ^ w 11 0) (by have := pow_le_128 hnb; omega) (by have := pow_le_128 knb; omega) z1 y1 z2 y2; subst e; exact d_seen a1 a3 (fun dx k hd hk => a4 dx k hd hk) he z3 y3) q1 k1
  exact ⟨e1, RL_xs hR q2 k2 e2⟩
set_option maxHeartbeats 1000000 in
theorem pr_part {v w : Nat → Nat → Nat} {c d : Nat → Nat → Int32} {u u' : (Nat → Nat → Nat) × (Nat → Nat → Int32)} {sh so ii qq : Int32} {r r' : Int32} (hI : XI v) (hJ : XI w) (hR : ALK v c w d) (h : ∃ F, sp_row (xNo c) (xHas c) (v 3) sh so False ii qq (fun k j n r => sp_part (xCell c) (v 11 0) (v 11 1) (v 13) (xFig v) k j n r) r F ∧ XS v c u F) (h' : ∃ F, sp_row (xNo d) (xHas d) (w 3) sh so False ii qq (fun k j n r' => sp_part (xCell d) (w 11 0) (w 11 1) (w 13) (xFig w) k j n r') r' F ∧ XS w d u' F) : r = r' ∧ ALK u.1 u.2 u'.1 u'.2 := by
  obtain ⟨h0, hFl, hTr, hFa, hs, h7⟩ := id hR
  obtain ⟨a0, a1, a2, a3, a4⟩ := id hFl
  obtain ⟨b0, b1⟩ := id hTr
  obtain ⟨c0, c1⟩ := id hFa
  obtain ⟨hnb, hnd, hbt, hfg, hne, hnc, hdk, hnf, hkn, hln, hst, hdc, hsp⟩ := id hI
  obtain ⟨knb, knd, kbt, kfg, kne, knc, kdk, knf, kkn, kln, kst, kdc, ksp⟩ := id hJ
  obtain ⟨F, q1, q2⟩ := h
  obtain ⟨F', k1, k2⟩ := h'
  obtain ⟨e1, e2⟩ := d_row hln kln hs Iff.rfl (fun k j n r r' he f1 f2 => by exact d_part a0 a1 a3 (fun dx k hd hk => a4 dx k hd hk) he f1 f2) q1 k1
  exact ⟨e1, RL_xs hR q2 k2 e2⟩
set_option maxHeartbeats 1000000 in
theorem pr_cell {v w : Nat → Nat → Nat} {c d : Nat → Nat → Int32} {u u' : (Nat → Nat → Nat) × (Nat → Nat → Int32)} {sh ii so : Int32} {r r' : Int64} (hI : XI v) (hJ : XI w) (hR : ALK v c w d) (h : ∃ F, sp_cell (xNo c) (xHas c) (v 3) (xCell c) sh ii so r F ∧ XS v c u F) (h' : ∃ F, sp_cell (xNo d) (xHas d) (w 3) (xCell d) sh ii so r' F ∧ XS w d u' F) : r = r' ∧ ALK u.1 u.2 u'.1 u'.2 := by
  obtain ⟨h0, hFl, hTr, hFa, hs, h7⟩ := id hR
  obtain ⟨a0, a1, a2, a3, a4⟩ := id hFl
  obtain ⟨b0, b1⟩ := id hTr
  obtain ⟨c0, c1⟩ := id hFa
  obtain ⟨hnb, hnd, hbt, hfg, hne, hnc, hdk, hnf, hkn, hln, hst, hdc, hsp⟩ := id hI
  obtain ⟨knb, knd, kbt, kfg, kne, knc, kdk, knf, kkn, kln, kst, kdc, ksp⟩ := id hJ
  obtain ⟨F, q1, q2⟩ := h
  obtain ⟨F', k1, k2⟩ := h'
  obtain ⟨e1, e2⟩ := d_cell hln kln hs q1 k1
  exact ⟨e1, RL_xs hR q2 k2 e2⟩
set_option maxHeartbeats 1000000 in
theorem pr_as {v w : Nat → Nat → Nat} {c d : Nat → Nat → Int32} {u u' : (Nat → Nat → Nat) × (Nat → Nat → Int32)} {x y : Int32} {r r' : Int32} (hI : XI v) (hJ : XI w) (hR : ALK v c w d) (h : ∃ F, sp_as (v 15 0) (v 16) x y r F ∧ XS v c u F) (h' : ∃ F, sp_as (w 15 0) (w 16) x y r' F ∧ XS w d u' F) : r = r' ∧ ALK u.1 u.2 u'.1 u'.2 := by
  obtain ⟨h0, hFl, hTr, hFa, hs, h7⟩ := id hR
  obtain ⟨a0, a1, a2, a3, a4⟩ := id hFl
  obtain ⟨b0, b1⟩ := id hTr
  obtain ⟨c0, c1⟩ := id hFa
  obtain ⟨hnb, hnd, hbt, hfg, hne, hnc, hdk, hnf, hkn, hln, hst, hdc, hsp⟩ := id hI
  obtain ⟨knb, knd, kbt, kfg, kne, knc, kdk, knf, kkn, kln, kst, kdc, ksp⟩ := id hJ
  obtain ⟨F, q1, q2⟩ := h
  obtain ⟨F', k1, k2⟩ := h'
  obtain ⟨e1, e2⟩ := d_as (by omega) b0 (fun b hb => (b1 b hb).1) q1 k1
  exact ⟨e1, RL_xs hR q2 k2 e2⟩
