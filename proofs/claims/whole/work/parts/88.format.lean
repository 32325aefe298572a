/-! PURE: all slots idle and no pins; rows; format. -/
def enC (m : sM) : Nat → sM
  | 0 => m
  | i + 1 => x_rst (54 + 10 * i) 0 (enC m i)
def reM (m : sM) : Nat → sM
  | 0 => m
  | i + 1 => y_idl i (reM m i)
def x_end (m : sM) : sM := x_fil 49 0 2 0 (s_up (enC m 3) 0 7 0)
def y_rst (m : sM) : sM := x_fil 117 0 2 0 (s_up (reM m 3) 110 19 0)
set_option maxRecDepth 100000 in
set_option maxHeartbeats 1000000 in
theorem enC_ag {P : Nat → Nat → Prop} {m m1 : sM} (h : ag P m m1) : ∀ i, i ≤ 3 → (∀ s, s < 3 → ¬ P (54 + 10 * s) 3 ∧ ¬ P (54 + 10 * s) 2 ∧ ¬ P (54 + 10 * s + 1) 1 ∧ ¬ P (54 + 10 * s + 1) 2) → ag P m (enC m1 i)
  | 0, _, _ => h
  | i + 1, hi, hp => by
    rw [enC]
    obtain ⟨a, b, c, d⟩ := hp i (by omega)
    exact rst_ag (enC_ag h i (by omega) hp) a b c d
set_option maxRecDepth 100000 in
set_option maxHeartbeats 1000000 in
theorem reM_ag {P : Nat → Nat → Prop} {m m1 : sM} (h : ag P m m1) : ∀ i, i ≤ 3 → (∀ s, s < 3 → ¬ P 118 s ∧ ¬ P 122 s ∧ ∀ j, 64 * s ≤ j → j < 64 * s + 64 → ¬ P 119 j) → ag P m (reM m1 i)
  | 0, _, _ => h
  | i + 1, hi, hp => by
    rw [reM]
    obtain ⟨a, b, c⟩ := hp i (by omega)
    exact idl_ag (reM_ag h i (by omega) hp) a b c
set_option maxRecDepth 100000 in
set_option maxHeartbeats 1000000 in
theorem end_ag {P : Nat → Nat → Prop} {m m1 : sM} (h : ag P m m1) (hp : ∀ a j, ((a = 54 ∨ a = 64 ∨ a = 74) ∧ (j = 2 ∨ j = 3)) ∨ ((a = 55 ∨ a = 65 ∨ a = 75) ∧ (j = 1 ∨ j = 2)) ∨ (a = 0 ∧ j = 7) ∨ (a = 49 ∧ j < 2) → ¬ P a j) : ag P m (x_end m1) :=
  fil_ag (ag_up (enC_ag h 3 (Nat.le_refl _) (fun s hs => ⟨hp _ _ (by omega), hp _ _ (by omega), hp _ _ (by omega), hp _ _ (by omega)⟩)) (hp _ _ (by omega))) (fun j _ _ => hp _ _ (by omega))
set_option maxRecDepth 100000 in
set_option maxHeartbeats 1000000 in
theorem rstM_ag {P : Nat → Nat → Prop} {m m1 : sM} (h : ag P m m1) (hp : ∀ a j, ((a = 118 ∨ a = 122) ∧ j < 3) ∨ (a = 119 ∧ j < 192) ∨ (a = 110 ∧ j = 19) ∨ (a = 117 ∧ j < 2) → ¬ P a j) : ag P m (y_rst m1) :=
  fil_ag (ag_up (reM_ag h 3 (Nat.le_refl _) (fun s hs => ⟨hp _ _ (by omega), hp _ _ (by omega), fun j _ _ => hp _ _ (by omega)⟩)) (hp _ _ (by omega))) (fun j _ _ => hp _ _ (by omega))
set_option maxRecDepth 100000 in
set_option maxHeartbeats 1000000 in
theorem enC_at (m : sM) : ∀ i s, s < i → (enC m i).1 (54 + 10 * s) 3 = 0 ∧ (enC m i).1 (54 + 10 * s) 2 = 0 ∧ (enC m i).2 (54 + 10 * s + 1) 1 = 0 ∧ (enC m i).2 (54 + 10 * s + 1) 2 = 0
  | 0, s, h => absurd h (Nat.not_lt_zero s)
  | i + 1, s, h => by
    rw [enC]
    by_cases e : s = i
    · subst e
      exact ⟨by rw [rst1, if_neg (by omega), if_pos ⟨rfl, rfl⟩], by rw [rst1, if_pos ⟨rfl, rfl⟩], (rstT _ _ _).1, (rstT _ _ _).2⟩
    · have ih := enC_at m i s (by omega)
      have ha := rst_ag (P := fun a _ => a = 54 + 10 * s ∨ a = 54 + 10 * s + 1) (a := 54 + 10 * i) (p := 0) (ag_rf (enC m i)) (by omega) (by omega) (by omega) (by omega)
      exact ⟨((ha _ 3 (Or.inl rfl)).1).trans ih.1, ((ha _ 2 (Or.inl rfl)).1).trans ih.2.1, ((ha _ 1 (Or.inr rfl)).2).trans ih.2.2.1, ((ha _ 2 (Or.inr rfl)).2).trans ih.2.2.2⟩
set_option maxRecDepth 100000 in
set_option maxHeartbeats 1000000 in
theorem reM_at (m : sM) : ∀ i s, s < i → (reM m i).1 118 s = 0 ∧ (reM m i).1 122 s = 0 ∧ ∀ k, k < 64 → (reM m i).1 119 (64 * s + k) = 0
  | 0, s, h => absurd h (Nat.not_lt_zero s)
  | i + 1, s, h => by
    rw [reM]
    by_cases e : s = i
    · subst e
      exact ⟨by rw [idl1, if_neg (by omega), if_neg (by omega), if_pos ⟨rfl, rfl⟩], by rw [idl1, if_neg (by omega), if_pos ⟨rfl, rfl⟩], fun k hk => by rw [idl1, if_pos (by omega)]⟩
    · have ih := reM_at m i s (by omega)
      exact ⟨by rw [idl1, if_neg (by omega), if_neg (by omega), if_neg (by omega)]; exact ih.1, by rw [idl1, if_neg (by omega), if_neg (by omega), if_neg (by omega)]; exact ih.2.1, fun k hk => by rw [idl1, if_neg (by omega), if_neg (by omega), if_neg (by omega)]; exact ih.2.2 k hk⟩
set_option maxRecDepth 100000 in
set_option maxHeartbeats 1000000 in
theorem p_endL (m : sM) (e : sM → Option (sR Unit)) : f_X9_endSlotsAndPins_L2 e 5000 0 m = e (enC m 3) := by
  refine lpE (fun g i (z : sM) => f_X9_endSlotsAndPins_L2 e g (nI i) z) (fun i z => z = enC m i) _ 3 ?_ ?_ 3 0 _ 5000 rfl (by decide) rfl
  · intro i z g hi hz ih
    have := ih _ rfl
    subst hz
    rw [enC] at this
    simp (disch := omega) only [md_, jn_, bd_, bdE_, ixl, ix_, llN, lNl, tlN, tNl, eNl, lNN, tNN, eNN, aNl, alN, mlN, nI_add, pk_mul, neg_lt0, if_true, if_false, if_pos, if_neg, up2, uL1, cp2, gdT, gdb_, or_true, true_or, false_or, or_false, and_true, true_and, and_false, false_and, ifb0, ifb1, eq_self, t0, t1, t2, t3, t4, o10, o01, z139a, f_X9_endSlotsAndPins_L2, p_rst]
    exact this
  · intro z g hz
    subst hz
    simp (disch := omega) only [md_, jn_, bd_, bdE_, ixl, ix_, llN, lNl, tlN, tNl, eNl, lNN, tNN, eNN, aNl, alN, mlN, nI_add, pk_mul, neg_lt0, if_true, if_false, if_pos, if_neg, up2, uL1, cp2, gdT, gdb_, or_true, true_or, false_or, or_false, and_true, true_and, and_false, false_and, ifb0, ifb1, eq_self, t0, t1, t2, t3, t4, o10, o01, z139a, f_X9_endSlotsAndPins_L2]
set_option maxRecDepth 100000 in
set_option maxHeartbeats 1000000 in
theorem p_endP (m : sM) (e : sM → Option (sR Unit)) : f_X9_endSlotsAndPins_L30 e 5000 0 m = e (x_fil 49 0 2 0 m) := by
  refine lpE (fun g i (z : sM) => f_X9_endSlotsAndPins_L30 e g (nI i) z) (fun i z => z = x_fil 49 0 i 0 m) _ 2 ?_ ?_ 2 0 _ 5000 rfl (by decide) (fil_0 _ _ _ _).symm
  · intro i z g hi hz ih
    have := ih _ rfl
    subst hz
    rw [← fil_s, Nat.zero_add] at this
    simp (disch := omega) only [md_, jn_, bd_, bdE_, ixl, ix_, llN, lNl, tlN, tNl, eNl, lNN, tNN, eNN, aNl, alN, mlN, nI_add, pk_mul, neg_lt0, if_true, if_false, if_pos, if_neg, up2, uL1, cp2, gdT, gdb_, or_true, true_or, false_or, or_false, and_true, true_and, and_false, false_and, ifb0, ifb1, eq_self, t0, t1, t2, t3, t4, o10, o01, z139a, f_X9_endSlotsAndPins_L30, nar0]
    exact this
  · intro z g hz
    subst hz
    simp (disch := omega) only [md_, jn_, bd_, bdE_, ixl, ix_, llN, lNl, tlN, tNl, eNl, lNN, tNN, eNN, aNl, alN, mlN, nI_add, pk_mul, neg_lt0, if_true, if_false, if_pos, if_neg, up2, uL1, cp2, gdT, gdb_, or_true, true_or, false_or, or_false, and_true, true_and, and_false, false_and, ifb0, ifb1, eq_self, t0, t1, t2, t3, t4, o10, o01, z139a, f_X9_endSlotsAndPins_L30]
set_option maxRecDepth 100000 in
set_option maxHeartbeats 1000000 in
theorem p_end (m : sM) : f_X9_endSlotsAndPins m = some (.inl (), x_end m) := by
  unfold f_X9_endSlotsAndPins
  rw [jn_, p_endL, md_, jn_, p_endP]
  rfl
set_option maxRecDepth 100000 in
set_option maxHeartbeats 1000000 in
theorem q_resL (m : sM) (e : sM → Option (sR Unit)) : f_X10_restart_L2 e 5000 0 m = e (reM m 3) := by
  refine lpE (fun g i (z : sM) => f_X10_restart_L2 e g (nI i) z) (fun i z => z = reM m i) _ 3 ?_ ?_ 3 0 _ 5000 rfl (by decide) rfl
  · intro i z g hi hz ih
    have := ih _ rfl
    subst hz
    rw [reM] at this
    simp (disch := omega) only [md_, jn_, bd_, bdE_, ixl, ix_, llN, lNl, tlN, tNl, eNl, lNN, tNN, eNN, aNl, alN, mlN, nI_add, pk_mul, neg_lt0, if_true, if_false, if_pos, if_neg, up2, uL1, cp2, gdT, gdb_, or_true, true_or, false_or, or_false, and_true, true_and, and_false, false_and, ifb0, ifb1, eq_self, t0, t1, t2, t3, t4, o10, o01, z139a, f_X10_restart_L2, q_idle hi]
    exact this
  · intro z g hz
    subst hz
    simp (disch := omega) only [md_, jn_, bd_, bdE_, ixl, ix_, llN, lNl, tlN, tNl, eNl, lNN, tNN, eNN, aNl, alN, mlN, nI_add, pk_mul, neg_lt0, if_true, if_false, if_pos, if_neg, up2, uL1, cp2, gdT, gdb_, or_true, true_or, false_or, or_false, and_true, true_and, and_false, false_and, ifb0, ifb1, eq_self, t0, t1, t2, t3, t4, o10, o01, z139a, f_X10_restart_L2]
set_option maxRecDepth 100000 in
set_option maxHeartbeats 1000000 in
theorem q_resP (m : sM) (e : sM → Option (sR Unit)) : f_X10_restart_L25 e 5000 0 m = e (x_fil 117 0 2 0 m) := by
  refine lpE (fun g i (z : sM) => f_X10_restart_L25 e g (nI i) z) (fun i z => z = x_fil 117 0 i 0 m) _ 2 ?_ ?_ 2 0 _ 5000 rfl (by decide) (fil_0 _ _ _ _).symm
  · intro i z g hi hz ih
    have := ih _ rfl
    subst hz
    rw [← fil_s, Nat.zero_add] at this
    simp (disch := omega) only [md_, jn_, bd_, bdE_, ixl, ix_, llN, lNl, tlN, tNl, eNl, lNN, tNN, eNN, aNl, alN, mlN, nI_add, pk_mul, neg_lt0, if_true, if_false, if_pos, if_neg, up2, uL1, cp2, gdT, gdb_, or_true, true_or, false_or, or_false, and_true, true_and, and_false, false_and, ifb0, ifb1, eq_self, t0, t1, t2, t3, t4, o10, o01, z139a, f_X10_restart_L25, nar0]
    exact this
  · intro z g hz
    subst hz
    simp (disch := omega) only [md_, jn_, bd_, bdE_, ixl, ix_, llN, lNl, tlN, tNl, eNl, lNN, tNN, eNN, aNl, alN, mlN, nI_add, pk_mul, neg_lt0, if_true, if_false, if_pos, if_neg, up2, uL1, cp2, gdT, gdb_, or_true, true_or, false_or, or_false, and_true, true_and, and_false, false_and, ifb0, ifb1, eq_self, t0, t1, t2, t3, t4, o10, o01, z139a, f_X10_restart_L25]
set_option maxRecDepth 100000 in
set_option maxHeartbeats 1000000 in
theorem q_rst (m : sM) : f_X10_restart m = some (.inl (), y_rst m) := by
  unfold f_X10_restart
  rw [jn_, q_resL, md_, jn_, q_resP]
  rfl
set_option maxRecDepth 100000 in
set_option maxHeartbeats 1000000 in
theorem end_slot {mc mm : sM} {s : Nat} (hs : s < 3) (h8 : ∀ k, k < 64 → mm.1 120 (64 * s + k) = 0 ∨ mm.1 120 (64 * s + k) = 1) : rSlot (x_end mc) (y_rst mm) s := by
  obtain ⟨e1, e2, e3, e4⟩ := enC_at mc 3 s hs
  obtain ⟨d1, d2, d3⟩ := reM_at mm 3 s hs
  have hm := rstM_ag (P := fun a _ => a = 120) (ag_rf mm) (by intro a j q; omega)
  refine rSlot_mt (st := 0) (by decide) ?_ ?_ ?_ ?_ e3 e4 (fun k hk => ?_) (fun k hk => ?_)
  · rw [x_end, fil1, if_neg (by omega), up1, if_neg (by omega)]; exact e1
  · rw [y_rst, fil1, if_neg (by omega), up1, if_neg (by omega)]; exact d1
  · rw [x_end, fil1, if_neg (by omega), up1, if_neg (by omega)]; exact e2
  · rw [y_rst, fil1, if_neg (by omega), up1, if_neg (by omega)]; exact d2
  · rw [y_rst, fil1, if_neg (by omega), up1, if_neg (by omega)]; exact d3 k hk
  · rw [(hm 120 _ rfl).1]; exact h8 k hk
set_option maxRecDepth 100000 in
set_option maxHeartbeats 1000000 in
theorem end_ord (mc mm : sM) : rOrd (x_end mc) (y_rst mm) := by
  refine ⟨0, fun _ => 0, by decide, ?_, ?_, fun i hi => absurd hi (Nat.not_lt_zero i), fun i j hi => absurd hi (Nat.not_lt_zero i), fun s hs h2 => ?_⟩
  · rw [x_end, fil1, if_neg (by omega)]; exact upS _ _ _ _
  · rw [y_rst, fil1, if_neg (by omega)]; exact upS _ _ _ _
  · have e1 := (enC_at mc 3 s hs).1
    rw [x_end, fil1, if_neg (by omega), up1, if_neg (by omega), e1] at h2
    exact absurd h2 (by decide)
set_option maxRecDepth 100000 in
set_option maxHeartbeats 1000000 in
theorem end_pins (mc mm : sM) : rPins (x_end mc) (y_rst mm) := fun p hp => by
  refine ⟨false, ?_, ?_, fun q => absurd q (by decide)⟩
  · rw [x_end, fil1, if_pos (by omega)]; rfl
  · rw [y_rst, fil1, if_pos (by omega)]; rfl
set_option maxRecDepth 100000 in
set_option maxHeartbeats 1000000 in
theorem R_120 {mc mm : sM} (h : R mc mm) {s : Nat} (hs : s < 3) : ∀ k, k < 64 → mm.1 120 (64 * s + k) = 0 ∨ mm.1 120 (64 * s + k) = 1 := fun k hk => (rSlot_c (R_sl h hs) k hk).2.1
set_option maxRecDepth 100000 in
set_option maxHeartbeats 1000000 in
theorem R_end {mc mm : sM} (h : R mc mm) : R (x_end mc) (y_rst mm) := by
  have hs := fun s (hs : s < 3) => end_slot (mc := mc) hs (R_120 h hs)
  obtain ⟨h1, h2, h3, h4, h5, h6, h7, h8, h9, h10, h11⟩ := h
  refine ⟨rDisk_ag (end_ag (ag_rf _) ?_) (rstM_ag (ag_rf _) ?_) h1, rOpen_ag (end_ag (ag_rf _) ?_) (rstM_ag (ag_rf _) ?_) h2, rPres_ag (end_ag (ag_rf _) ?_) (rstM_ag (ag_rf _) ?_) h3, end_pins _ _, hs, end_ord _ _, rIn_ag (end_ag (ag_rf _) ?_) (rstM_ag (ag_rf _) ?_) h7, rOut_ag (end_ag (ag_rf _) ?_) (rstM_ag (ag_rf _) ?_) h8, rLog_ag (end_ag (ag_rf _) ?_) (rstM_ag (ag_rf _) ?_) h9, rStat_ag (end_ag (ag_rf _) ?_) (rstM_ag (ag_rf _) ?_) h10, rSalv_ag (end_ag (ag_rf _) ?_) (rstM_ag (ag_rf _) ?_) h11⟩
  all_goals (intro a j q; omega)
/-! rows -/
set_option maxRecDepth 100000 in
set_option maxHeartbeats 1000000 in
theorem eqU {x y : sM} (h : x = y) : (some (.inl (), x) : Option (sR Unit)) = some (.inl (), y) := by rw [h]
def x_row (a N : Nat) (d : Nat → Int32) (m : sM) : sM := (fun b j => if b = a ∧ j < N then d j else m.1 b j, m.2)
set_option maxRecDepth 100000 in
set_option maxHeartbeats 1000000 in
theorem row1 (a N : Nat) (d : Nat → Int32) (m : sM) (b j : Nat) : (x_row a N d m).1 b j = if b = a ∧ j < N then d j else m.1 b j := rfl
set_option maxRecDepth 100000 in
set_option maxHeartbeats 1000000 in
theorem row2 (a N : Nat) (d : Nat → Int32) (m : sM) : (x_row a N d m).2 = m.2 := rfl
set_option maxRecDepth 100000 in
set_option maxHeartbeats 1000000 in
theorem row_ag {P : Nat → Nat → Prop} {a N : Nat} {d : Nat → Int32} {m m1 : sM} (h : ag P m m1) (hp : ∀ j, j < N → ¬ P a j) : ag P m (x_row a N d m1) := fun b j p => by
  refine ⟨?_, (h b j p).2⟩
  rw [row1, if_neg]
  · exact (h b j p).1
  · rintro ⟨rfl, h2⟩; exact hp j h2 p
set_option maxRecDepth 100000 in
set_option maxHeartbeats 1000000 in
theorem p_fill {a N : Nat} (hN : N ≤ 64) (v : Int32) (m : sM) : f_J7_fill_53178 a N v m = some (.inl (), x_fil a 0 N v m) := by
  unfold f_J7_fill_53178
  rw [jn_, show Int32.ofNat N = nI N from rfl]
  refine lpE (fun g i (z : sM) => f_J7_fill_53178_L5 a v (nI N) N _ g (nI i) z) (fun i z => z = x_fil a 0 i v m) _ N ?_ ?_ N 0 _ 5000 (by omega) (by omega) (fil_0 _ _ _ _).symm
  · intro i z g hi hz ih
    have := ih _ rfl
    subst hz
    rw [← fil_s, Nat.zero_add] at this
    simp (disch := omega) only [md_, jn_, bd_, bdE_, ixl, ix_, llN, lNl, tlN, tNl, eNl, lNN, tNN, eNN, aNl, alN, mlN, nI_add, pk_mul, neg_lt0, if_true, if_false, if_pos, if_neg, up2, uL1, cp2, gdT, gdb_, or_true, true_or, false_or, or_false, and_true, true_and, and_false, false_and, ifb0, ifb1, eq_self, t0, t1, t2, t3, t4, o10, o01, z139a, f_J7_fill_53178_L5]
    exact this
  · intro z g hz
    subst hz
    simp (disch := omega) only [md_, jn_, bd_, bdE_, ixl, ix_, llN, lNl, tlN, tNl, eNl, lNN, tNN, eNN, aNl, alN, mlN, nI_add, pk_mul, neg_lt0, if_true, if_false, if_pos, if_neg, up2, uL1, cp2, gdT, gdb_, or_true, true_or, false_or, or_false, and_true, true_and, and_false, false_and, ifb0, ifb1, eq_self, t0, t1, t2, t3, t4, o10, o01, z139a, f_J7_fill_53178_L5, Nat.le_refl]
def wiC (m : sM) : Nat → sM
  | 0 => m
  | i + 1 => x_fil (4 + i) 0 13 0 (wiC m i)
set_option maxRecDepth 100000 in
set_option maxHeartbeats 1000000 in
theorem p_wipe (m : sM) : f_X1_wipe m = some (.inl (), wiC m 32) := by
  unfold f_X1_wipe
  rw [jn_]
  refine lpE (fun g i (z : sM) => f_X1_wipe_L2 _ g (nI i) z) (fun i z => z = wiC m i) _ 32 ?_ ?_ 32 0 _ 5000 rfl (by decide) rfl
  · intro i z g hi hz ih
    have := ih _ rfl
    subst hz
    rw [wiC] at this
    simp (disch := omega) only [md_, jn_, bd_, bdE_, ixl, ix_, llN, lNl, tlN, tNl, eNl, lNN, tNN, eNN, aNl, alN, mlN, nI_add, pk_mul, neg_lt0, if_true, if_false, if_pos, if_neg, up2, uL1, cp2, gdT, gdb_, or_true, true_or, false_or, or_false, and_true, true_and, and_false, false_and, ifb0, ifb1, eq_self, t0, t1, t2, t3, t4, o10, o01, z139a, f_X1_wipe_L2, p_fill, Nat.one_mul]
    exact this
  · intro z g hz
    subst hz
    simp (disch := omega) only [md_, jn_, bd_, bdE_, ixl, ix_, llN, lNl, tlN, tNl, eNl, lNN, tNN, eNN, aNl, alN, mlN, nI_add, pk_mul, neg_lt0, if_true, if_false, if_pos, if_neg, up2, uL1, cp2, gdT, gdb_, or_true, true_or, false_or, or_false, and_true, true_and, and_false, false_and, ifb0, ifb1, eq_self, t0, t1, t2, t3, t4, o10, o01, z139a, f_X1_wipe_L2]
set_option maxRecDepth 100000 in
set_option maxHeartbeats 1000000 in
theorem wi1 (m : sM) (a j : Nat) : ∀ i, (wiC m i).1 a j = if 4 ≤ a ∧ a < 4 + i ∧ j < 13 then 0 else m.1 a j
  | 0 => by rw [wiC, if_neg (by omega)]
  | i + 1 => by
    rw [wiC, fil1, wi1 m a j i]
    by_cases c1 : a = 4 + i ∧ 0 ≤ j ∧ j < 0 + 13
    · rw [if_pos c1, if_pos (by omega)]
    · rw [if_neg c1]
      by_cases c2 : 4 ≤ a ∧ a < 4 + i ∧ j < 13
      · rw [if_pos c2, if_pos (by omega)]
      · rw [if_neg c2, if_neg (by omega)]
set_option maxRecDepth 100000 in
set_option maxHeartbeats 1000000 in
theorem wiC_ag {P : Nat → Nat → Prop} {m m1 : sM} (h : ag P m m1) (hp : ∀ a j, 4 ≤ a → a < 36 → ¬ P a j) : ∀ i, i ≤ 32 → ag P m (wiC m1 i)
  | 0, _ => h
  | i + 1, hi => by
    rw [wiC]
    exact fil_ag (wiC_ag h hp i (by omega)) (fun j _ _ => hp _ j (by omega) (by omega))
def x_mke (m : sM) : sM := s_up (s_up (s_up (s_uL (x_fil 37 0 8 (-1) m) 36 2 0) 36 3 0) 36 4 0) 36 5 2
set_option maxRecDepth 100000 in
set_option maxHeartbeats 1000000 in
theorem p_mke (m : sM) : f_X8_makeEmpty 36 m = some (.inl (), x_mke m) := by
  unfold f_X8_makeEmpty
  rw [p_fill (by decide), bd_]
  rfl
set_option maxRecDepth 100000 in
set_option maxHeartbeats 1000000 in
theorem mke1 (m : sM) (b j : Nat) : (x_mke m).1 b j = if b = 36 ∧ j = 5 then 2 else if b = 36 ∧ j = 4 then 0 else if b = 36 ∧ j = 3 then 0 else if b = 37 ∧ 0 ≤ j ∧ j < 0 + 8 then -1 else m.1 b j := by
  rw [x_mke, up1, up1, up1, uL1, fil1]
set_option maxRecDepth 100000 in
set_option maxHeartbeats 1000000 in
theorem mke_ag {P : Nat → Nat → Prop} {m m1 : sM} (h : ag P m m1) (hp : ∀ a j, a = 36 ∨ a = 37 → ¬ P a j) : ag P m (x_mke m1) := ag_up (ag_up (ag_up (ag_uL (fil_ag h (fun j _ _ => hp _ _ (Or.inr rfl))) (hp _ _ (Or.inl rfl))) (hp _ _ (Or.inl rfl))) (hp _ _ (Or.inl rfl))) (hp _ _ (Or.inl rfl))
def dTab (n : Int32) (f : Nat → Int32) : Nat → Int32 := fun j => if j = 0 then 2 else if j = 1 then n else if 4 ≤ j ∧ j < 12 then f (j - 4) else 0
def dRoot (n t : Int32) : Nat → Int32 := fun j => if j = 0 then 1 else if j = 1 then n else if j = 2 then t else 0
set_option maxRecDepth 100000 in
set_option maxHeartbeats 1000000 in
theorem p_dt {a : Nat} (h : a + 1 < 3 ∨ 3 < a) (m : sM) : f_X8_describeTable a 3 m = some (.inl (), x_row 3 13 (dTab (m.1 a 3) (m.1 (a + 1))) m) := by
  unfold f_X8_describeTable
  rw [p_fill (by decide), bd_, ixl _ (by decide) (by decide), md_, ixl _ (by decide) (by decide), md_, gd_ ⟨by decide, by decide, by decide, by decide, by decide, fun _ _ => rfl⟩, md_]
  have e0 : (0 : Int32).toNatClampNeg = 0 := by decide
  have e4 : (4 : Int32).toNatClampNeg = 4 := by decide
  have e8 : (8 : Int32).toNatClampNeg = 8 := by decide
  rw [e0, e4, e8]
  refine eqU (sM_ext (fun b j => ?_) rfl)
  simp only [row1, cp1, up1, fil1, dTab]
  (repeat' split) <;> first | rfl | (exfalso; omega) | (simp only [Nat.zero_add, Nat.sub_zero]; done) | (simp only [Nat.zero_add, Nat.sub_zero]; omega) | (congr 1; omega)
set_option maxRecDepth 100000 in
set_option maxHeartbeats 1000000 in
theorem p_dr {a : Nat} (h : a ≠ 3) (m : sM) : f_X8_describeRoot a 3 m = some (.inl (), x_row 3 13 (dRoot (m.1 a 3) (m.1 a 5)) m) := by
  unfold f_X8_describeRoot
  rw [p_fill (by decide), bd_, ixl _ (by decide) (by decide), md_, ixl _ (by decide) (by decide), md_, ixl _ (by decide) (by decide), md_]
  refine eqU (sM_ext (fun b j => ?_) rfl)
  simp only [row1, up1, fil1, dRoot]
  (repeat' split) <;> first | rfl | (exfalso; omega) | (simp only [Nat.zero_add, Nat.sub_zero]; done) | (simp only [Nat.zero_add, Nat.sub_zero]; omega) | (congr 1; omega)
def x_ww (b : Nat) (m : sM) : sM := x_row (4 + b) 13 (fun j => if j = 12 then ck (m.1 3) (nI (b + 17)) 12 else m.1 3 j) m
set_option maxRecDepth 100000 in
set_option maxHeartbeats 1000000 in
theorem p_ww {b : Nat} (hb : b < 32) (m : sM) : f_X1_writeWhole (nI b) m = some (.inl (), x_ww b m) := by
  unfold f_X1_writeWhole
  rw [ix_ _ hb (by decide), gd_ ⟨by decide, by decide, by decide, by decide, by decide, fun _ _ => rfl⟩, md_, ix_ _ hb (by decide), p_ck hb, bd_, ixl _ (by decide) (by decide), md_]
  have e0 : (0 : Int32).toNatClampNeg = 0 := by decide
  have e12 : (12 : Int32).toNatClampNeg = 12 := by decide
  rw [e0, e12, Nat.one_mul]
  have ec : ck ((s_cp m 3 (4 + b) 0 0 12).1 (4 + b)) (nI (b + 17)) 12 = ck (m.1 3) (nI (b + 17)) 12 := ck_cong fun c hc => by
    rw [cp1, if_pos (by omega), show 0 + (c - 0) = c by omega]
  rw [ec]
  refine eqU (sM_ext (fun c j => ?_) rfl)
  simp only [x_ww, row1, up1, cp1]
  (repeat' split) <;> first | rfl | (exfalso; omega) | (simp only [Nat.zero_add, Nat.sub_zero]; done) | (simp only [Nat.zero_add, Nat.sub_zero]; omega) | (congr 1; omega)
set_option maxRecDepth 100000 in
set_option maxHeartbeats 1000000 in
theorem p_wp {b : Nat} (hb : b < 32) (m : sM) : f_X1_writePart (nI b) m = some (.inl (), x_row (4 + b) 6 (m.1 3) m) := by
  unfold f_X1_writePart
  rw [ix_ _ hb (by decide), gd_ ⟨by decide, by decide, by decide, by decide, by decide, fun _ _ => rfl⟩, md_]
  have e0 : (0 : Int32).toNatClampNeg = 0 := by decide
  have e6 : (6 : Int32).toNatClampNeg = 6 := by decide
  rw [e0, e6, Nat.one_mul]
  refine eqU (sM_ext (fun c j => ?_) rfl)
  simp only [row1, cp1]
  (repeat' split) <;> first | rfl | (exfalso; omega) | (simp only [Nat.zero_add, Nat.sub_zero]; done) | (simp only [Nat.zero_add, Nat.sub_zero]; omega) | (congr 1; omega)
set_option maxRecDepth 100000 in
set_option maxHeartbeats 1000000 in
theorem q_ss {b : Nat} (hb : b < 32) (m : sM) : f_X10_setSum (nI b) m = some (.inl (), s_up m 111 (13 * b + 12) (ck (fun c => m.1 111 (13 * b + c)) (nI (b + 17)) 12)) := by
  unfold f_X10_setSum
  rw [q_ck hb, bd_]
  simp (disch := omega) only [md_, jn_, bd_, bdE_, ixl, ix_, llN, lNl, tlN, tNl, eNl, lNN, tNN, eNN, aNl, alN, mlN, nI_add, pk_mul, neg_lt0, if_true, if_false, if_pos, if_neg, up2, uL1, cp2, gdT, gdb_, or_true, true_or, false_or, or_false, and_true, true_and, and_false, false_and, ifb0, ifb1, eq_self, t0, t1, t2, t3, t4, o10, o01, z139a]
/-! format -/
set_option maxRecDepth 100000 in
set_option maxHeartbeats 1000000 in
theorem q_fmt1 (m : sM) (y : Int32) (e : sM → Option (sR Int32)) : f_X10_format_L25 y e 5000 0 m = e (x_fil 111 0 416 0 m) := by
  refine lpE (fun g i (z : sM) => f_X10_format_L25 y e g (nI i) z) (fun i z => z = x_fil 111 0 i 0 m) _ 416 ?_ ?_ 416 0 _ 5000 rfl (by decide) (fil_0 _ _ _ _).symm
  · intro i z g hi hz ih
    have := ih _ rfl
    subst hz
    rw [← fil_s, Nat.zero_add] at this
    simp (disch := omega) only [md_, jn_, bd_, bdE_, ixl, ix_, llN, lNl, tlN, tNl, eNl, lNN, tNN, eNN, aNl, alN, mlN, nI_add, pk_mul, neg_lt0, if_true, if_false, if_pos, if_neg, up2, uL1, cp2, gdT, gdb_, or_true, true_or, false_or, or_false, and_true, true_and, and_false, false_and, ifb0, ifb1, eq_self, t0, t1, t2, t3, t4, o10, o01, z139a, f_X10_format_L25]
    exact this
  · intro z g hz
    subst hz
    simp (disch := omega) only [md_, jn_, bd_, bdE_, ixl, ix_, llN, lNl, tlN, tNl, eNl, lNN, tNN, eNN, aNl, alN, mlN, nI_add, pk_mul, neg_lt0, if_true, if_false, if_pos, if_neg, up2, uL1, cp2, gdT, gdb_, or_true, true_or, false_or, or_false, and_true, true_and, and_false, false_and, ifb0, ifb1, eq_self, t0, t1, t2, t3, t4, o10, o01, z139a, f_X10_format_L25]
set_option maxRecDepth 100000 in
set_option maxHeartbeats 1000000 in
theorem q_fmt2 (m : sM) (y : Int32) (e : sM → Option (sR Int32)) : f_X10_format_L74 y e 5000 0 m = e (x_fil 111 30 8 (-1) m) := by
  refine lpE (fun g i (z : sM) => f_X10_format_L74 y e g (nI i) z) (fun i z => z = x_fil 111 30 i (-1) m) _ 8 ?_ ?_ 8 0 _ 5000 rfl (by decide) (fil_0 _ _ _ _).symm
  · intro i z g hi hz ih
    have := ih _ rfl
    subst hz
    rw [← fil_s] at this
    simp (disch := omega) only [md_, jn_, bd_, bdE_, ixl, ix_, llN, lNl, tlN, tNl, eNl, lNN, tNN, eNN, aNl, alN, mlN, nI_add, pk_mul, neg_lt0, if_true, if_false, if_pos, if_neg, up2, uL1, cp2, gdT, gdb_, or_true, true_or, false_or, or_false, and_true, true_and, and_false, false_and, ifb0, ifb1, eq_self, t0, t1, t2, t3, t4, o10, o01, z139a, f_X10_format_L74]
    exact this
  · intro z g hz
    subst hz
    simp (disch := omega) only [md_, jn_, bd_, bdE_, ixl, ix_, llN, lNl, tlN, tNl, eNl, lNN, tNN, eNN, aNl, alN, mlN, nI_add, pk_mul, neg_lt0, if_true, if_false, if_pos, if_neg, up2, uL1, cp2, gdT, gdb_, or_true, true_or, false_or, or_false, and_true, true_and, and_false, false_and, ifb0, ifb1, eq_self, t0, t1, t2, t3, t4, o10, o01, z139a, f_X10_format_L74]
set_option maxRecDepth 100000 in
set_option maxHeartbeats 1000000 in
theorem q_fmt3 (m : sM) (y : Int32) (e : sM → Option (sR Int32)) : f_X10_format_L121 y e 5000 0 m = e (x_fil 114 0 8 (-1) m) := by
  refine lpE (fun g i (z : sM) => f_X10_format_L121 y e g (nI i) z) (fun i z => z = x_fil 114 0 i (-1) m) _ 8 ?_ ?_ 8 0 _ 5000 rfl (by decide) (fil_0 _ _ _ _).symm
  · intro i z g hi hz ih
    have := ih _ rfl
    subst hz
    rw [← fil_s, Nat.zero_add] at this
    simp (disch := omega) only [md_, jn_, bd_, bdE_, ixl, ix_, llN, lNl, tlN, tNl, eNl, lNN, tNN, eNN, aNl, alN, mlN, nI_add, pk_mul, neg_lt0, if_true, if_false, if_pos, if_neg, up2, uL1, cp2, gdT, gdb_, or_true, true_or, false_or, or_false, and_true, true_and, and_false, false_and, ifb0, ifb1, eq_self, t0, t1, t2, t3, t4, o10, o01, z139a, f_X10_format_L121]
    exact this
  · intro z g hz
    subst hz
    simp (disch := omega) only [md_, jn_, bd_, bdE_, ixl, ix_, llN, lNl, tlN, tNl, eNl, lNN, tNN, eNN, aNl, alN, mlN, nI_add, pk_mul, neg_lt0, if_true, if_false, if_pos, if_neg, up2, uL1, cp2, gdT, gdb_, or_true, true_or, false_or, or_false, and_true, true_and, and_false, false_and, ifb0, ifb1, eq_self, t0, t1, t2, t3, t4, o10, o01, z139a, f_X10_format_L121]
set_option maxRecDepth 100000 in
set_option maxHeartbeats 1000000 in
theorem q_fmt4 (m : sM) (y : Int32) (e : sM → Option (sR Int32)) : f_X10_format_L142 y e 5000 0 m = e (x_fil 115 0 64 0 m) := by
  refine lpE (fun g i (z : sM) => f_X10_format_L142 y e g (nI i) z) (fun i z => z = x_fil 115 0 i 0 m) _ 64 ?_ ?_ 64 0 _ 5000 rfl (by decide) (fil_0 _ _ _ _).symm
  · intro i z g hi hz ih
    have := ih _ rfl
    subst hz
    rw [← fil_s, Nat.zero_add] at this
    simp (disch := omega) only [md_, jn_, bd_, bdE_, ixl, ix_, llN, lNl, tlN, tNl, eNl, lNN, tNN, eNN, aNl, alN, mlN, nI_add, pk_mul, neg_lt0, if_true, if_false, if_pos, if_neg, up2, uL1, cp2, gdT, gdb_, or_true, true_or, false_or, or_false, and_true, true_and, and_false, false_and, ifb0, ifb1, eq_self, t0, t1, t2, t3, t4, o10, o01, z139a, f_X10_format_L142, nar0]
    exact this
  · intro z g hz
    subst hz
    simp (disch := omega) only [md_, jn_, bd_, bdE_, ixl, ix_, llN, lNl, tlN, tNl, eNl, lNN, tNN, eNN, aNl, alN, mlN, nI_add, pk_mul, neg_lt0, if_true, if_false, if_pos, if_neg, up2, uL1, cp2, gdT, gdb_, or_true, true_or, false_or, or_false, and_true, true_and, and_false, false_and, ifb0, ifb1, eq_self, t0, t1, t2, t3, t4, o10, o01, z139a, f_X10_format_L142]
