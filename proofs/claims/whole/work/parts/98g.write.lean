/-! PURE: a commit's writing. -/
set_option maxRecDepth 100000 in
set_option maxHeartbeats 1000000 in
theorem ckL {y : sM} {b : Nat} (e : Int32 → Option (sR Unit)) : f_X10_write_L7 (nI b) y e 5000 (nI (b + 17)) 0 = e (ck (y.1 138) (nI (b + 17)) 12) := by
  refine lpE (fun g i (x : Int32) => f_X10_write_L7 (nI b) y e g x (nI i)) (fun i x => x = ck (y.1 138) (nI (b + 17)) i) _ 12 ?_ ?_ 12 0 _ 5000 rfl (by decide) rfl
  · intro i x g hi hx ih
    have := ih _ rfl
    subst hx
    rw [ck] at this
    simp (disch := omega) only [md_, jn_, bd_, bdE_, ixl, ix_, llN, lNl, tlN, tNl, eNl, lNN, tNN, eNN, aNl, alN, mlN, nI_add, pk_mul, neg_lt0, if_true, if_false, if_pos, if_neg, up2, uL1, cp2, gdT, gdb_, or_true, true_or, false_or, or_false, and_true, true_and, and_false, false_and, ifb0, ifb1, eq_self, t0, t1, t2, t3, t4, o10, o01, z139a, Bool.false_eq_true, f_X10_write_L7]
    exact this
  · intro x g hx
    subst hx
    simp (disch := omega) only [md_, jn_, bd_, bdE_, ixl, ix_, llN, lNl, tlN, tNl, eNl, lNN, tNN, eNN, aNl, alN, mlN, nI_add, pk_mul, neg_lt0, if_true, if_false, if_pos, if_neg, up2, uL1, cp2, gdT, gdb_, or_true, true_or, false_or, or_false, and_true, true_and, and_false, false_and, ifb0, ifb1, eq_self, t0, t1, t2, t3, t4, o10, o01, z139a, Bool.false_eq_true, f_X10_write_L7]
-- remark: the power: how many blocks it lasts for, and how many have been written
def Lim (L : Int32) (P N : Nat) : Prop := (L = -1 ∧ P = N) ∨ ∃ l, l < 2 ^ 31 ∧ L = nI l ∧ P = min l N
def Pw (L : Int32) (P j : Nat) (s y : sM) : Prop := s.1 52 0 = L ∧ s.1 52 1 = nI (min j P) ∧ s.1 52 2 = nI (if j ≤ P then 0 else 1) ∧ y.1 110 37 = nI P - nI j
-- remark: how many cells are written
def cel (P j : Nat) : Nat := if j < P then 13 else if j = P then 6 else 0
def y_wr (b N : Nat) (y : sM) : sM := s_up (s_cp (s_up y 138 12 (ck (y.1 138) (nI (b + 17)) 12)) 138 111 0 (13 * b) N) 110 37 (y.1 110 37 - 1)
set_option maxRecDepth 100000 in
set_option maxHeartbeats 1000000 in
theorem q_write {b P j : Nat} {y : sM} (hb : b < 32) (hP : P < 2 ^ 30) (hj : j < 2 ^ 30) (h : y.1 110 37 = nI P - nI j) : f_X10_write (nI b) y = some (.inl (), y_wr b (cel P j) y) := by
  have e17 : nI b + 17 = nI (b + 17) := nI_add b 17
  have e13 : (13 : Int32) * nI b = nI (13 * b) := pk_mul 13 b
  have h37 : (s_up y 138 12 (ck (y.1 138) (nI (b + 17)) 12)).1 110 37 = nI P - nI j := by rw [up1, if_neg (by omega)]; exact h
  have e0 : (0 : Int32).toNatClampNeg = 0 := by decide
  have eb : (nI (13 * b)).toNatClampNeg = 13 * b := nI_clamp (by omega)
  have fin : ∀ N : Nat, N ≤ 13 → ∀ K : sM → Option (sR Unit), s_gd (¬ (0 : Int32) < 0 ∧ ¬ (nI (13 * b)) < 0 ∧ ¬ nI N < 0 ∧ (0 : Int32).toNatClampNeg + (nI N).toNatClampNeg ≤ 13 ∧ (nI (13 * b)).toNatClampNeg + (nI N).toNatClampNeg ≤ 416 ∧ ∀ i, i < (nI N).toNatClampNeg → fits .int (.int ((s_up y 138 12 (ck (y.1 138) (nI (b + 17)) 12)).1 138 ((0 : Int32).toNatClampNeg + i))) = true) (s_md (s_cp (s_up y 138 12 (ck (y.1 138) (nI (b + 17)) 12)) 138 111 (0 : Int32).toNatClampNeg (nI (13 * b)).toNatClampNeg (nI N).toNatClampNeg) K) = K (s_cp (s_up y 138 12 (ck (y.1 138) (nI (b + 17)) 12)) 138 111 0 (13 * b) N) := fun N hN K => by
    refine (gcI3 (dp := 13 * b) (n := N) (N := 13) (M := 416) hN (by omega) (by decide) (by decide)).trans ?_
    rw [md_, e0, eb, nI_clamp (by omega)]
  have fin2 : ∀ N : Nat, (s_cp (s_up y 138 12 (ck (y.1 138) (nI (b + 17)) 12)) 138 111 0 (13 * b) N).1 110 37 = y.1 110 37 := fun N => by rw [cp1, if_neg (by omega), up1, if_neg (by omega)]
  unfold f_X10_write
  rw [jn_, e17, ckL, ixl _ (by decide) (by decide), md_, jn_, e13, h37]
  rcases Nat.lt_trichotomy j P with q | q | q
  · have s1 : nI P - nI j = nI (P - j) := pk_sub (by omega)
    have hc : cel P j = 13 := by unfold cel; rw [if_pos q]
    have n0 : ¬ nI (P - j) ≤ 0 := nI_ge (a := 0) (b := P - j) (by omega) (by omega)
    rw [s1, if_neg n0, hc]
    dsimp only
    refine (fin 13 (by decide) _).trans ?_
    rw [md_, fin2]
    rfl
  · subst q
    have s1 : nI j - nI j = 0 := Int32.sub_self _
    have hc : cel j j = 6 := by unfold cel; rw [if_neg (by omega), if_pos rfl]
    rw [s1, if_pos (by decide), if_pos rfl, hc]
    dsimp only
    refine (fin 6 (by decide) _).trans ?_
    rw [md_, fin2]
    rfl
  · have s1 : nI P - nI j < 0 := pk_sneg hj q
    have s2 : nI P - nI j ≤ 0 := Int32.le_of_lt s1
    have s3 : ¬ nI P - nI j = 0 := fun w => by rw [w] at s1; exact absurd s1 (by decide)
    have hc : cel P j = 0 := by unfold cel; rw [if_neg (by omega), if_neg (by omega)]
    rw [if_pos s2, if_neg s3, hc]
    dsimp only
    refine (fin 0 (by decide) _).trans ?_
    rw [md_, fin2]
    rfl
set_option maxRecDepth 100000 in
set_option maxHeartbeats 1000000 in
theorem wr1 (b N : Nat) (y : sM) (a j : Nat) : (y_wr b N y).1 a j = if a = 110 ∧ j = 37 then y.1 110 37 - 1 else if a = 111 ∧ 13 * b ≤ j ∧ j < 13 * b + N then (if j = 13 * b + 12 then ck (y.1 138) (nI (b + 17)) 12 else y.1 138 (j - 13 * b)) else if a = 138 ∧ j = 12 then ck (y.1 138) (nI (b + 17)) 12 else y.1 a j := by
  rw [y_wr, up1, cp1, up1, up1]
  by_cases q1 : a = 110 ∧ j = 37
  · rw [if_pos q1, if_pos q1]
  · rw [if_neg q1, if_neg q1]
    by_cases q2 : a = 111 ∧ 13 * b ≤ j ∧ j < 13 * b + N
    · rw [if_pos q2, if_pos q2]
      by_cases q3 : j = 13 * b + 12
      · rw [if_pos q3, if_pos ⟨rfl, by omega⟩]
      · rw [if_neg q3, if_neg (by omega), Nat.zero_add]
    · rw [if_neg q2, if_neg q2]
set_option maxRecDepth 100000 in
set_option maxHeartbeats 1000000 in
theorem wr_ag {P : Nat → Nat → Prop} {b N : Nat} {m y : sM} (h : ag P m y) (h1 : ∀ j, ¬ P 111 j) (h2 : ¬ P 138 12) (h3 : ¬ P 110 37) : ag P m (y_wr b N y) := ag_up (ag_cp (ag_up h h2) (fun j _ _ => h1 j)) h3
-- remark: one block on both sides
set_option maxRecDepth 100000 in
set_option maxHeartbeats 1000000 in
theorem wr_one {L : Int32} {P N j b : Nat} {s y : sM} (hL : Lim L P N) (hN : N ≤ 10) (hj : j < N) (hb : b < 32) (hp : Pw L P j s y) (hd : rDisk s y) (hdr : ∀ c, c < 12 → s.1 3 c = y.1 138 c) :
    ∃ s' y', f_X5_write (nI b) s = some (.inl (), s') ∧ f_X10_write (nI b) y = some (.inl (), y') ∧ Pw L P (j + 1) s' y' ∧ rDisk s' y' ∧ ag (fun a _ => ¬ (4 ≤ a ∧ a < 36) ∧ a ≠ 52) s s' ∧ ag (fun a k => a ≠ 111 ∧ ¬ (a = 138 ∧ k = 12) ∧ ¬ (a = 110 ∧ k = 37)) y y' := by
  obtain ⟨h0, h1, h2, h3⟩ := hp
  have hPN : P ≤ N := by
    rcases hL with ⟨-, w⟩ | ⟨l, -, -, w⟩
    · omega
    · rw [w]; exact Nat.min_le_right _ _
  have hw := q_write hb (by omega) (by omega) h3
  have hck : ck (s.1 3) (nI (b + 17)) 12 = ck (y.1 138) (nI (b + 17)) 12 := ck_cong hdr
  have y37 : (y_wr b (cel P j) y).1 110 37 = nI P - nI (j + 1) := by
    rw [wr1, if_pos ⟨rfl, rfl⟩, h3, ← sub_m1, Int32.sub_eq_add_neg _ 1]
  have yag : ag (fun a k => a ≠ 111 ∧ ¬ (a = 138 ∧ k = 12) ∧ ¬ (a = 110 ∧ k = 37)) y (y_wr b (cel P j) y) := wr_ag (ag_rf y) (by intro k; omega) (by omega) (by omega)
  have ydk : ∀ b' c, b' < 32 → c < 13 → (y_wr b (cel P j) y).1 111 (13 * b' + c) = if b' = b ∧ c < cel P j then (if c = 12 then ck (y.1 138) (nI (b + 17)) 12 else y.1 138 c) else y.1 111 (13 * b' + c) := fun b' c hb' hc => by
    have hcel : cel P j ≤ 13 := by unfold cel; split <;> (try split) <;> omega
    rw [wr1, if_neg (by omega)]
    by_cases q : b' = b ∧ c < cel P j
    · obtain ⟨rfl, q2⟩ := q
      have hin : (111 = 111) ∧ 13 * b' ≤ 13 * b' + c ∧ 13 * b' + c < 13 * b' + cel P j := ⟨rfl, by omega, by omega⟩
      have hin2 : b' = b' ∧ c < cel P j := ⟨rfl, q2⟩
      rw [if_pos hin, if_pos hin2, Nat.add_sub_cancel_left]
      by_cases q3 : c = 12
      · rw [if_pos (by omega), if_pos q3]
      · rw [if_neg (by omega), if_neg q3]
    · rw [if_neg (by omega), if_neg q, if_neg (by omega)]
  rcases Nat.lt_trichotomy j P with q | q | q
  · -- whole
    have hc : cel P j = 13 := by unfold cel; rw [if_pos q]
    have hmin : min j P = j := Nat.min_eq_left (by omega)
    have hmin1 : min (j + 1) P = j + 1 := Nat.min_eq_left (by omega)
    rw [hmin] at h1
    rw [hc] at ydk
    have x52 : (x_ww b s).1 52 1 = nI j := by rw [ww1, if_neg (by omega)]; exact h1
    refine ⟨s_up (x_ww b s) 52 1 (nI (j + 1)), _, ?_, hw, ⟨?_, ?_, ?_, y37⟩, fun b' c hb' hc' => ?_, ag_up (row_ag (ag_rf s) (fun k _ => by omega)) (by omega), yag⟩
    · have j1 : nI j + 1 = nI (j + 1) := nI_add j 1
      have hx : s_bd (f_X1_writeWhole (nI b) s) (fun r1 m2 => s_md (s_up m2 52 1 ((m2.1 52 1) + 1)) fun m3 => (some (.inl (), m3) : Option (sR Unit))) = some (.inl (), s_up (x_ww b s) 52 1 (nI (j + 1))) := by
        rw [p_ww hb, bd_, md_, x52, j1]
      unfold f_X5_write
      rw [jn_, jn_, h0, h1]
      rcases hL with ⟨w, -⟩ | ⟨l, hl31, w, hPl⟩
      · rw [if_pos w]; exact hx
      · have hlj : ¬ nI l ≤ nI j := nI_ge (by omega) hl31
        rw [if_neg (by rw [w]; exact nIm1 hl31), w, if_neg hlj]; exact hx
    · rw [up1, if_neg (by omega), ww1, if_neg (by omega)]; exact h0
    · rw [hmin1]; exact upS _ _ _ _
    · rw [up1, if_neg (by omega), ww1, if_neg (by omega), h2, if_pos (by omega), if_pos (by omega)]
    · rw [hc, ydk b' c hb' hc', up1, if_neg (by omega), ww1]
      by_cases e : b' = b
      · have in1 : 4 + b' = 4 + b ∧ c < 13 := ⟨by omega, hc'⟩
        have in2 : b' = b ∧ c < 13 := ⟨e, hc'⟩
        rw [if_pos in1, if_pos in2]
        by_cases e2 : c = 12
        · rw [if_pos e2, if_pos e2]; exact hck
        · rw [if_neg e2, if_neg e2]; exact hdr c (by omega)
      · rw [if_neg (by omega), if_neg (fun w => e w.1)]; exact hd b' c hb' hc'
  · -- in part
    subst q
    have hc : cel j j = 6 := by unfold cel; rw [if_neg (by omega), if_pos rfl]
    rw [hc] at ydk
    rw [Nat.min_self] at h1
    rw [if_pos (Nat.le_refl _)] at h2
    refine ⟨s_up (x_row (4 + b) 6 (s.1 3) s) 52 2 1, _, ?_, hw, ⟨?_, ?_, ?_, y37⟩, fun b' c hb' hc' => ?_, ag_up (row_ag (ag_rf s) (fun k _ => by omega)) (by omega), yag⟩
    · rcases hL with ⟨-, w⟩ | ⟨l, hl31, w, hPl⟩
      · omega
      · have hlj : nI l ≤ nI j := nI_le (by omega) (by omega)
        have e2 : (x_row (4 + b) 6 (s.1 3) s).1 52 2 = 0 := by rw [row1, if_neg (by omega)]; exact h2
        have z1 : (0 : Int32) + 1 = 1 := by decide
        have h2' : s.1 52 2 = 0 := h2
        unfold f_X5_write
        rw [jn_, jn_, h0, h1, if_neg (by rw [w]; exact nIm1 hl31), w, if_pos hlj, if_pos h2', p_wp hb, bd_, md_, e2, z1]
    · rw [up1, if_neg (by omega), row1, if_neg (by omega)]; exact h0
    · rw [up1, if_neg (by omega), row1, if_neg (by omega), h1, Nat.min_eq_right (by omega)]
    · rw [if_neg (by omega)]; exact upS _ _ _ _
    · rw [hc, ydk b' c hb' hc', up1, if_neg (by omega), row1]
      by_cases e : b' = b ∧ c < 6
      · rw [if_pos ⟨by omega, e.2⟩, if_pos e, if_neg (by omega)]; exact hdr c (by omega)
      · rw [if_neg (by omega), if_neg e]; exact hd b' c hb' hc'
  · -- not at all
    have hc : cel P j = 0 := by unfold cel; rw [if_neg (by omega), if_neg (by omega)]
    rw [hc] at ydk
    rw [Nat.min_eq_right (by omega)] at h1
    rw [if_neg (by omega)] at h2
    refine ⟨s, _, ?_, hw, ⟨h0, ?_, ?_, y37⟩, fun b' c hb' hc' => ?_, ag_rf s, yag⟩
    · rcases hL with ⟨-, w⟩ | ⟨l, hl31, w, hPl⟩
      · omega
      · have hlj : nI l ≤ nI P := nI_le (by omega) (by omega)
        unfold f_X5_write
        rw [jn_, jn_, h0, h1, if_neg (by rw [w]; exact nIm1 hl31), w, if_pos hlj, if_neg (by rw [h2]; decide)]
    · rw [h1, Nat.min_eq_right (by omega)]
    · rw [h2, if_neg (by omega)]
    · rw [hc, ydk b' c hb' hc', if_neg (by omega)]; exact hd b' c hb' hc'
/-! the drafts -/
def dPage (n : Int32) (p : Nat) (f : Nat → Bool) (v : Nat → Int32) : Nat → Int32 := fun j => if j = 0 then 3 else if j = 1 then n else if j = 2 then nI p else if j = 3 then bts f 8 else if 4 ≤ j ∧ j < 12 then (if f (j - 4) = true then v (j - 4) else 0) else 0
set_option maxRecDepth 100000 in
set_option maxHeartbeats 1000000 in
theorem p_dpL {p : Nat} (hp : p < 8) (m : sM) : ∃ s, (∀ e, f_X8_describePage_L30 39 (nI p) 3 e 5000 0 m = e s) ∧ ag (fun a j => ¬ (a = 3 ∧ 4 ≤ j ∧ j < 12)) m s ∧ ∀ i, i < 8 → s.1 3 (4 + i) = if lb (m.2 39 2) (p + 8 * i) = true then m.1 41 (p + 8 * i) else m.1 3 (4 + i) := by
  refine Exists.elim (lq1 (fun e g i (s : sM) => f_X8_describePage_L30 39 (nI p) 3 e g (nI i) s) (fun n s => ag (fun a j => ¬ (a = 3 ∧ 4 ≤ j ∧ j < 12)) m s ∧ (∀ i, i < n → s.1 3 (4 + i) = if lb (m.2 39 2) (p + 8 * i) = true then m.1 41 (p + 8 * i) else m.1 3 (4 + i)) ∧ ∀ i, n ≤ i → i < 8 → s.1 3 (4 + i) = m.1 3 (4 + i)) 8 ?_ ?_ 8 0 m 5000 rfl (by decide) ⟨ag_rf m, fun i hi => absurd hi (Nat.not_lt_zero i), fun i _ _ => rfl⟩) ?_
  rotate_right
  · rintro s ⟨⟨h1, h2, -⟩, he⟩
    exact ⟨s, he, h1, h2⟩
  · rintro i s hi ⟨j1, j2, j3⟩
    have hk64 : p + 8 * i < 64 := by omega
    have eK : s.2 39 2 = m.2 39 2 := (j1 39 2 (by omega)).2
    have eV : s.1 41 (p + 8 * i) = m.1 41 (p + 8 * i) := (j1 41 _ (by omega)).1
    cases hl : lb (m.2 39 2) (p + 8 * i)
    · refine ⟨s, ⟨j1, fun k hk => ?_, fun k k1 k2 => j3 k (by omega) k2⟩, fun e g => ?_⟩
      · by_cases e : k = i
        · rw [e, hl, if_neg (by decide)]; exact j3 i (Nat.le_refl _) hi
        · exact j2 k (by omega)
      · simp (disch := omega) only [md_, jn_, bd_, bdE_, ixl, ix_, llN, lNl, tlN, tNl, eNl, lNN, tNN, eNN, aNl, alN, mlN, nI_add, pk_mul, neg_lt0, if_true, if_false, if_pos, if_neg, up2, uL1, cp2, gdT, gdb_, or_true, true_or, false_or, or_false, and_true, true_and, and_false, false_and, ifb0, ifb1, eq_self, t0, t1, t2, t3, t4, o10, o01, z139a, Bool.false_eq_true, f_X8_describePage_L30, p_keyOf, p_isIn, eK, hl, bi_f]
    · refine ⟨s_up s 3 (4 + i) (m.1 41 (p + 8 * i)), ⟨ag_up j1 (by omega), fun k hk => ?_, fun k k1 k2 => ?_⟩, fun e g => ?_⟩
      · rw [up1]
        by_cases e : k = i
        · rw [if_pos ⟨rfl, by omega⟩, e, hl, if_pos rfl]
        · rw [if_neg (by omega)]; exact j2 k (by omega)
      · rw [up1, if_neg (by omega)]; exact j3 k (by omega) k2
      · simp (disch := omega) only [md_, jn_, bd_, bdE_, ixl, ix_, llN, lNl, tlN, tNl, eNl, lNN, tNN, eNN, aNl, alN, mlN, nI_add, pk_mul, neg_lt0, if_true, if_false, if_pos, if_neg, up2, uL1, cp2, gdT, gdb_, or_true, true_or, false_or, or_false, and_true, true_and, and_false, false_and, ifb0, ifb1, eq_self, t0, t1, t2, t3, t4, o10, o01, z139a, Bool.false_eq_true, f_X8_describePage_L30, p_keyOf, p_isIn, eK, eV, hl, bi_t]
  · rintro e g s -
    simp (disch := omega) only [md_, jn_, bd_, bdE_, ixl, ix_, llN, lNl, tlN, tNl, eNl, lNN, tNN, eNN, aNl, alN, mlN, nI_add, pk_mul, neg_lt0, if_true, if_false, if_pos, if_neg, up2, uL1, cp2, gdT, gdb_, or_true, true_or, false_or, or_false, and_true, true_and, and_false, false_and, ifb0, ifb1, eq_self, t0, t1, t2, t3, t4, o10, o01, z139a, Bool.false_eq_true, f_X8_describePage_L30]
set_option maxRecDepth 100000 in
set_option maxHeartbeats 1000000 in
theorem p_dp {p : Nat} (hp : p < 8) (m : sM) : ∃ s, f_X8_describePage 39 (nI p) 3 m = some (.inl (), s) ∧ ag (fun a _ => a ≠ 3) m s ∧ ∀ c, c < 12 → s.1 3 c = dPage (m.1 39 3) p (fun i => lb (m.2 39 2) (p + 8 * i)) (fun i => m.1 41 (p + 8 * i)) c := by
  obtain ⟨X, hX⟩ : ∃ X, X = s_up (s_up (s_up (s_up (x_fil 3 0 13 0 m) 3 0 3) 3 1 (m.1 39 3)) 3 2 (nI p)) 3 3 (bts (fun i => lb (m.2 39 2) (p + 8 * i)) 8) := ⟨_, rfl⟩
  have hag : ag (fun a _ => a ≠ 3) m X := by rw [hX]; exact ag_up (ag_up (ag_up (ag_up (fil_ag (ag_rf m) (by intro j h1 h2; omega)) (by omega)) (by omega)) (by omega)) (by omega)
  have hX3 : ∀ c, c < 13 → X.1 3 c = if c = 3 then bts (fun i => lb (m.2 39 2) (p + 8 * i)) 8 else if c = 2 then nI p else if c = 1 then m.1 39 3 else if c = 0 then 3 else 0 := fun c hc => by
    rw [hX, up1, up1, up1, up1, fil1]
    (repeat' split) <;> first | rfl | (exfalso; omega) | (simp only [Nat.zero_add, Nat.sub_zero]; done) | (simp only [Nat.zero_add, Nat.sub_zero]; omega) | (congr 1; omega)
  obtain ⟨s, he, h1, h2⟩ := p_dpL hp X
  refine ⟨s, ?_, fun a j q => ⟨((h1 a j (by omega)).1).trans (hag a j q).1, ((h1 a j (by omega)).2).trans (hag a j q).2⟩, fun c hc => ?_⟩
  · have e3 : (s_up (x_fil 3 0 13 0 m) 3 0 3).1 39 3 = m.1 39 3 := by rw [up1, if_neg (by omega), fil1, if_neg (by omega)]
    have eb := p_bitsOf (a := 39) hp (s_up (s_up (s_up (x_fil 3 0 13 0 m) 3 0 3) 3 1 (m.1 39 3)) 3 2 (nI p))
    unfold f_X8_describePage
    rw [p_fill (by decide), bd_, ixl _ (by decide) (by decide), md_, ixl _ (by decide) (by decide), e3, md_, ixl _ (by decide) (by decide), md_, eb, bd_, ixl _ (by decide) (by decide), md_, jn_]
    have hX' : s_up (s_up (s_up (s_up (x_fil 3 0 13 0 m) 3 0 3) 3 1 (m.1 39 3)) 3 2 (nI p)) 3 3 (bts (fun i => lb ((s_up (s_up (s_up (x_fil 3 0 13 0 m) 3 0 3) 3 1 (m.1 39 3)) 3 2 (nI p)).2 39 2) (p + 8 * i)) 8) = X := by rw [hX]; rfl
    rw [hX']
    exact he _
  · unfold dPage
    by_cases q : 4 ≤ c
    · have e1 := h2 (c - 4) (by omega)
      have x0 : X.1 3 c = 0 := by rw [hX3 c (by omega), if_neg (by omega), if_neg (by omega), if_neg (by omega), if_neg (by omega)]
      rw [show 4 + (c - 4) = c by omega, (hag 39 2 (by omega)).2, (hag 41 _ (by omega)).1, x0] at e1
      rw [if_neg (show ¬ c = 0 by omega), if_neg (show ¬ c = 1 by omega), if_neg (show ¬ c = 2 by omega), if_neg (show ¬ c = 3 by omega), if_pos (show 4 ≤ c ∧ c < 12 from ⟨q, hc⟩)]
      exact e1
    · rw [(h1 3 c (by omega)).1, hX3 c (by omega)]
      (repeat' split) <;> first | rfl | (exfalso; omega) | (simp only [Nat.zero_add, Nat.sub_zero]; done) | (simp only [Nat.zero_add, Nat.sub_zero]; omega) | (congr 1; omega)
set_option maxRecDepth 100000 in
set_option maxHeartbeats 1000000 in
theorem q_cd (k c : Int32) (y : sM) : f_X10_clearDraft k c y = some (.inl (), s_up (s_up (x_fil 138 0 13 0 y) 138 0 k) 138 1 c) := by
  have c0 : ∀ e, f_X10_clearDraft_L2 k c e 5000 0 y = e (x_fil 138 0 13 0 y) := fun e => by
    refine lpE (fun g i (z : sM) => f_X10_clearDraft_L2 k c e g (nI i) z) (fun i z => z = x_fil 138 0 i 0 y) _ 13 ?_ ?_ 13 0 _ 5000 rfl (by decide) (fil_0 _ _ _ _).symm
    · intro i z g hi hz ih
      have := ih _ rfl
      subst hz
      rw [← fil_s, Nat.zero_add] at this
      simp (disch := omega) only [md_, jn_, bd_, bdE_, ixl, ix_, llN, lNl, tlN, tNl, eNl, lNN, tNN, eNN, aNl, alN, mlN, nI_add, pk_mul, neg_lt0, if_true, if_false, if_pos, if_neg, up2, uL1, cp2, gdT, gdb_, or_true, true_or, false_or, or_false, and_true, true_and, and_false, false_and, ifb0, ifb1, eq_self, t0, t1, t2, t3, t4, o10, o01, z139a, Bool.false_eq_true, f_X10_clearDraft_L2]
      exact this
    · intro z g hz
      subst hz
      simp (disch := omega) only [md_, jn_, bd_, bdE_, ixl, ix_, llN, lNl, tlN, tNl, eNl, lNN, tNN, eNN, aNl, alN, mlN, nI_add, pk_mul, neg_lt0, if_true, if_false, if_pos, if_neg, up2, uL1, cp2, gdT, gdb_, or_true, true_or, false_or, or_false, and_true, true_and, and_false, false_and, ifb0, ifb1, eq_self, t0, t1, t2, t3, t4, o10, o01, z139a, Bool.false_eq_true, f_X10_clearDraft_L2]
  unfold f_X10_clearDraft
  rw [jn_, c0, ixl _ (by decide) (by decide), md_, ixl _ (by decide) (by decide), md_]
set_option maxRecDepth 100000 in
set_option maxHeartbeats 1000000 in
theorem cd1 (k c : Int32) (y : sM) (j : Nat) (hj : j < 13) : (s_up (s_up (x_fil 138 0 13 0 y) 138 0 k) 138 1 c).1 138 j = if j = 1 then c else if j = 0 then k else 0 := by
  rw [up1, up1, fil1]
  (repeat' split) <;> first | rfl | (exfalso; omega) | (simp only [Nat.zero_add, Nat.sub_zero]; done) | (simp only [Nat.zero_add, Nat.sub_zero]; omega) | (congr 1; omega)
set_option maxRecDepth 100000 in
set_option maxHeartbeats 1000000 in
theorem cd_ag {P : Nat → Nat → Prop} {k c : Int32} {m y : sM} (h : ag P m y) (hp : ∀ j, ¬ P 138 j) : ag P m (s_up (s_up (x_fil 138 0 13 0 y) 138 0 k) 138 1 c) := ag_up (ag_up (fil_ag h (fun j _ _ => hp j)) (hp _)) (hp _)
set_option maxRecDepth 100000 in
set_option maxHeartbeats 1000000 in
theorem q_dp {z y : sM} (h : Nxt z y) {p : Nat} (hp : p < 8) (c y1 y2 y3 y4 y5 : Int32) (h0 : y.1 138 0 = 3) (h1 : y.1 138 1 = c) (h2 : y.1 138 2 = nI p) (h3 : y.1 138 3 = 0) : ∃ y', (∀ e, f_X10_commit_L208 y1 y2 y3 y4 y5 (nI p) e 5000 0 y = e y') ∧ ag (fun a _ => a ≠ 138) y y' ∧ ∀ j, j < 12 → y'.1 138 j = dPage c p (fun i => lb (z.2 39 2) (p + 8 * i)) (fun i => z.1 41 (p + 8 * i)) j := by
  refine Exists.elim (lq1 (fun e g i (s : sM) => f_X10_commit_L208 y1 y2 y3 y4 y5 (nI p) e g (nI i) s) (fun n s => ag (fun a j => ¬ (a = 138 ∧ 3 ≤ j)) y s ∧ s.1 138 3 = bts (fun i => lb (z.2 39 2) (p + 8 * i)) n ∧ ∀ i, i < n → s.1 138 (4 + i) = if lb (z.2 39 2) (p + 8 * i) = true then z.1 41 (p + 8 * i) else 0) 8 ?_ ?_ 8 0 y 5000 rfl (by decide) ⟨ag_rf y, h3, fun i hi => absurd hi (Nat.not_lt_zero i)⟩) ?_
  rotate_right
  · rintro s ⟨⟨j1, j2, j3⟩, he⟩
    refine ⟨s, he, ag_mo j1 (by intro a j q; omega), fun j hj => ?_⟩
    unfold dPage
    by_cases q0 : j = 0
    · rw [if_pos q0, q0, (j1 138 0 (by omega)).1, h0]
    · by_cases q1 : j = 1
      · rw [if_neg q0, if_pos q1, q1, (j1 138 1 (by omega)).1, h1]
      · by_cases q2 : j = 2
        · rw [if_neg q0, if_neg q1, if_pos q2, q2, (j1 138 2 (by omega)).1, h2]
        · by_cases q3 : j = 3
          · rw [if_neg q0, if_neg q1, if_neg q2, if_pos q3, q3, j2]
          · rw [if_neg q0, if_neg q1, if_neg q2, if_neg q3, if_pos ⟨by omega, hj⟩]
            have := j3 (j - 4) (by omega)
            rw [show 4 + (j - 4) = j by omega] at this
            exact this
  · rintro i s hi ⟨j1, j2, j3⟩
    obtain ⟨w1, w2⟩ := h.1 (p + 8 * i) (by omega)
    have e136 : s.1 136 (p + 8 * i) = bi (lb (z.2 39 2) (p + 8 * i)) := ((j1 136 _ (by omega)).1).trans w1
    have e136' : ∀ x, (s_up s 138 3 x).1 136 (p + 8 * i) = bi (lb (z.2 39 2) (p + 8 * i)) := fun x => by rw [up1, if_neg (by omega)]; exact e136
    have e137 : ∀ x, (s_up s 138 3 x).1 137 (p + 8 * i) = y.1 137 (p + 8 * i) := fun x => by rw [up1, if_neg (by omega)]; exact (j1 137 _ (by omega)).1
    have st : ∀ x v, x = bts (fun i => lb (z.2 39 2) (p + 8 * i)) (i + 1) → v = (if lb (z.2 39 2) (p + 8 * i) = true then z.1 41 (p + 8 * i) else 0) → ag (fun a j => ¬ (a = 138 ∧ 3 ≤ j)) y (s_up (s_up s 138 3 x) 138 (4 + i) v) ∧ (s_up (s_up s 138 3 x) 138 (4 + i) v).1 138 3 = bts (fun i => lb (z.2 39 2) (p + 8 * i)) (i + 1) ∧ ∀ k, k < i + 1 → (s_up (s_up s 138 3 x) 138 (4 + i) v).1 138 (4 + k) = if lb (z.2 39 2) (p + 8 * k) = true then z.1 41 (p + 8 * k) else 0 := fun x v hx hv => by
      refine ⟨ag_up (ag_up j1 (by omega)) (by omega), ?_, fun k hk => ?_⟩
      · rw [up1, if_neg (by omega), upS]; exact hx
      · rw [up1]
        by_cases e : k = i
        · rw [if_pos ⟨rfl, by omega⟩, e]; exact hv
        · rw [if_neg (by omega), up1, if_neg (by omega)]; exact j3 k (by omega)
    cases hl : lb (z.2 39 2) (p + 8 * i)
    · rw [hl] at e136 e136'
      refine ⟨_, st (bts (fun i => lb (z.2 39 2) (p + 8 * i)) i) 0 (by rw [bts, hl]; rfl) (by rw [hl]; rfl), fun e g => ?_⟩
      simp (disch := omega) only [md_, jn_, bd_, bdE_, ixl, ix_, llN, lNl, tlN, tNl, eNl, lNN, tNN, eNN, aNl, alN, mlN, nI_add, pk_mul, neg_lt0, if_true, if_false, if_pos, if_neg, up2, uL1, cp2, gdT, gdb_, or_true, true_or, false_or, or_false, and_true, true_and, and_false, false_and, ifb0, ifb1, eq_self, t0, t1, t2, t3, t4, o10, o01, z139a, Bool.false_eq_true, f_X10_commit_L208, e136, e136', j2, bi_f, Int32.or_zero]
    · have w2 := w2 hl
      rw [← w2] at e137
      rw [hl] at e136 e136'
      refine ⟨_, st (bts (fun i => lb (z.2 39 2) (p + 8 * i)) i ||| (1 <<< (nI i &&& 31))) (z.1 41 (p + 8 * i)) (by rw [bts, hl]; rfl) (by rw [hl]; rfl), fun e g => ?_⟩
      simp (disch := omega) only [md_, jn_, bd_, bdE_, ixl, ix_, llN, lNl, tlN, tNl, eNl, lNN, tNN, eNN, aNl, alN, mlN, nI_add, pk_mul, neg_lt0, if_true, if_false, if_pos, if_neg, up2, uL1, cp2, gdT, gdb_, or_true, true_or, false_or, or_false, and_true, true_and, and_false, false_and, ifb0, ifb1, eq_self, t0, t1, t2, t3, t4, o10, o01, z139a, Bool.false_eq_true, f_X10_commit_L208, e136, e136', e137, j2, bi_t]
  · rintro e g s -
    simp (disch := omega) only [md_, jn_, bd_, bdE_, ixl, ix_, llN, lNl, tlN, tNl, eNl, lNN, tNN, eNN, aNl, alN, mlN, nI_add, pk_mul, neg_lt0, if_true, if_false, if_pos, if_neg, up2, uL1, cp2, gdT, gdb_, or_true, true_or, false_or, or_false, and_true, true_and, and_false, false_and, ifb0, ifb1, eq_self, t0, t1, t2, t3, t4, o10, o01, z139a, Bool.false_eq_true, f_X10_commit_L208]
