/-! PURE: the reference's commit, run through. -/
set_option maxRecDepth 100000 in
set_option maxHeartbeats 1000000 in
theorem lim_if {L : Int32} {P N : Nat} (hL : Lim L P N) (hN : N < 2 ^ 31) (K : Int32 → Option (sR Int32)) : (s_jn K fun k90 => s_jn (k90 1) fun k85 => if L < 0 then k85 else if L < nI N then k90 0 else k85) = K (if P < N then 0 else 1) := by
  rw [jn_, jn_]
  rcases hL with ⟨rfl, rfl⟩ | ⟨l, hl, rfl, rfl⟩
  · rw [if_pos (by decide), if_neg (Nat.lt_irrefl _)]
  · rw [if_neg (nI_pos hl)]
    by_cases q : l < N
    · rw [if_pos ((nI_ltI hl hN).mpr q), if_pos (by omega)]
    · rw [if_neg (fun w => q ((nI_ltI hl hN).mp w)), if_neg (by omega)]
set_option maxRecDepth 100000 in
set_option maxHeartbeats 1000000 in
theorem lim_p {L : Int32} {P N : Nat} (hL : Lim L P N) (K : Int32 → Option (sR Int32)) : (s_jn K fun k101 => if (if P < N then (0 : Int32) else 1) = 0 then k101 L else k101 (nI N)) = K (nI P) := by
  rw [jn_]
  rcases hL with ⟨rfl, rfl⟩ | ⟨l, hl, rfl, rfl⟩
  · rw [if_neg (Nat.lt_irrefl _), if_neg (by decide)]
  · by_cases q : l < N
    · rw [if_pos (show min l N < N by omega), if_pos rfl, Nat.min_eq_left (Nat.le_of_lt q)]
    · rw [if_neg (show ¬ min l N < N by omega), if_neg (by decide), Nat.min_eq_right (by omega)]
set_option maxRecDepth 100000 in
set_option maxHeartbeats 1000000 in
theorem lim_c (f : Prop) [Decidable f] (x : Int32) (K : Int32 → Option (sR Int32)) : (s_jn K fun k => if (if f then (0 : Int32) else 1) = 0 then k (-1) else k x) = K (if f then -1 else x) := by
  rw [jn_]
  by_cases q : f
  · rw [if_pos q, if_pos rfl, if_pos q]
  · rw [if_neg q, if_neg (by decide), if_neg q]
set_option maxRecDepth 100000 in
set_option maxHeartbeats 1000000 in
theorem q_cmRun {mm y1 y u u3 u6 w : sM} {L x : Int32} {P N F c r t n : Nat} {o : Nat → Nat} (o2 : mm.1 110 2 = 1) (h19 : ¬ mm.1 110 19 = 0) (hp1 : f_X10_pagesToWrite mm = some (.inl (nI N), y1)) (hf : f_X10_freeBlocks y1 = some (.inl (nI F), y1)) (hN : N ≤ 8) (hF : N < F) (hF2 : F ≤ 64)
    (h112 : y1.1 112 0 = nI c) (hc : c < 999999) (hp2 : f_X10_pagesToWrite (s_up y1 110 0 0) = some (.inl (nI N), y)) (y112 : y.1 112 0 = nI c) (hL : Lim L P (N + 2)) (hL1 : (-1) ≤ L)
    (e2 : ∀ e, f_X10_commit_L126 L (nI (N + 2)) (if P < N + 2 then 0 else 1) (nI (c + 1)) e 5000 2 0 (s_z139 (s_up y 110 37 (nI P))) = e x u) (e3 : ∀ e, f_X10_commit_L303 L (nI (N + 2)) (if P < N + 2 then 0 else 1) (nI (c + 1)) e 5000 x u = e (nI t) u)
    (e4 : f_X10_write (nI t) (s_cp (y_cd 2 (nI (c + 1)) u) 139 138 0 4 8) = some (.inl (), u3)) (hr : r = (c + 1) % 2) (e5 : f_X10_write (nI r) (s_up (y_cd 1 (nI (c + 1)) u3) 138 2 (nI t)) = some (.inl (), u6))
    (hlog : f_X10_logCommit (if P < N + 2 then -1 else nI (c + 1)) (nI P) u6 = some (.inl (), w)) (hw : ∀ i, i < 64 → w.1 136 i = 0 ∨ w.1 136 i = 1) (n3 : n ≤ 3) (w19 : w.1 110 19 = nI n) (ho : ∀ i, i < n → o i < 3 ∧ w.1 126 i = nI (o i)) :
    f_X10_commit L mm = if P < N + 2 then some (.inl (-1), s_up (y_rst w) 110 2 0) else some (.inl (nI (c + 1)), s_up (eiM o (y_cm (nI r) (nI (c + 1)) (nI t) w) n) 110 19 0) := by
  have a1 : nI N + 1 = nI (N + 1) := nI_add N 1
  have a2 : nI N + 2 = nI (N + 2) := nI_add N 2
  have a3 : nI c + 1 = nI (c + 1) := nI_add c 1
  have a4 : nI (c + 1) - nI (c + 1) / 2 * 2 = nI r := by rw [hr]; exact pk_rem (d := 2) (by omega) (by decide) (by decide)
  have n0 : (0 : Int32).toNatClampNeg = 0 := by decide
  have n4 : (4 : Int32).toNatClampNeg = 4 := by decide
  have n8 : (8 : Int32).toNatClampNeg = 8 := by decide
  have n64 : (64 : Int32).toNatClampNeg = 64 := by decide
  have i1 : ¬ nI F < nI (N + 1) := fun q => by have := (nI_ltI (by omega) (by omega)).mp q; omega
  have i2 : ¬ nI c = 999999 := fun q => by have := (nI_eq (b := 999999) (by omega) (by decide)).mp q; omega
  have m112 : (s_up y 110 37 (nI P)).1 112 0 = nI c := by rw [up1, if_neg (by omega)]; exact y112
  unfold f_X10_commit
  rw [jn_, if_pos hL1, jn_, if_neg (by rw [o2]; decide), if_neg h19, hp1, bd_, hf, bd_, jn_]
  dsimp only
  rw [a1, if_neg i1, ixl _ (by decide) (by decide), h112, if_neg i2, md_, upS, if_pos (Int32.le_refl 0), hp2, bd_, a2]
  rw [lim_if hL (by omega)]
  rw [lim_p hL, md_, ixl _ (by decide) (by decide), md_, m112, a3, a4, jn_, e2]
  rw [jn_, e3, q_cd', bd_, gd_ ⟨by decide, by decide, by decide, by decide, by decide, fun _ _ => rfl⟩, md_, n0, n4, n8, e4, bd_, q_cd', bd_, ixl _ (by decide) (by decide), md_, e5, bd_]
  rw [lim_c, lim_p hL, hlog, bd_]
  by_cases q : P < N + 2
  · rw [if_pos q, if_pos rfl, if_pos q, q_rst, bd_, md_]
  · have b1 : ∀ i, i < 64 → (s_cp (s_up (s_up (s_up w 110 3 (nI r)) 112 0 (nI (c + 1))) 113 0 (nI t)) 139 114 0 0 8).1 136 (0 + i) = w.1 136 i := fun i hi => by
      rw [Nat.zero_add, cp1, if_neg (by omega), up1, if_neg (by omega), up1, if_neg (by omega), up1, if_neg (by omega)]
    have ca := cm_ag (P := fun a j => (a = 110 ∧ j = 19) ∨ a = 126) (r := nI r) (c := nI (c + 1)) (b := nI t) (ag_rf w) (by intro a j q; omega)
    rw [if_neg q, if_neg (by decide), if_neg q, md_, ixl _ (by decide) (by decide), md_, ixl _ (by decide) (by decide), md_, gd_ ⟨by decide, by decide, by decide, by decide, by decide, fun _ _ => rfl⟩, md_, n64, gd_ ⟨by decide, by decide, by decide, by decide, by decide, fun i hi => fitsB (by rw [b1 i hi]; exact hw i hi)⟩, md_, gd_ ⟨by decide, by decide, by decide, by decide, by decide, fun _ _ => rfl⟩, md_, jn_]
    rw [show s_cp (s_cp (s_cp (s_up (s_up (s_up w 110 3 (nI r)) 112 0 (nI (c + 1))) 113 0 (nI t)) 139 114 0 0 8) 136 115 0 0 64) 137 116 0 0 64 = y_cm (nI r) (nI (c + 1)) (nI t) w from rfl]
    rw [q_eid (m := y_cm (nI r) (nI (c + 1)) (nI t) w) n3 (((ca 110 19 (by omega)).1).trans w19) (fun i hi => ⟨(ho i hi).1, ((ca 126 i (by omega)).1).trans (ho i hi).2⟩), md_]
