/-! PURE: a commit's preparation, the class. -/
set_option maxRecDepth 100000 in
set_option maxHeartbeats 1000000 in
theorem dcd_lt {k i : Nat} (h : k ≠ i) : decide (k < i + 1) = decide (k < i) := decide_eq_decide.mpr (by omega)
set_option maxRecDepth 100000 in
set_option maxHeartbeats 1000000 in
theorem p_add {s : Nat} (hs : s < 3) {z : sM} (hRT : ∀ k, k < 64 → lb (z.2 (54 + 10 * s + 1) 2) k = true → lb (z.2 (54 + 10 * s + 1) 1) k = true) : ∃ y, f_X0_add 50 (54 + 10 * s + 1) z = some (.inl (), y) ∧ ag (fun a _ => a ≠ 50 ∧ a ≠ 51) z y ∧
    (∀ k, k < 64 → lb (y.2 50 1) k = (lb (z.2 50 1) k || lb (z.2 (54 + 10 * s + 1) 1) k)) ∧ (∀ k, k < 64 → lb (y.2 50 2) k = (lb (z.2 (54 + 10 * s + 1) 2) k || (lb (z.2 50 2) k && !lb (z.2 (54 + 10 * s + 1) 1) k))) ∧
    (∀ k, k < 64 → y.1 51 k = if (lb (z.2 (54 + 10 * s + 1) 1) k && !lb (z.2 (54 + 10 * s + 1) 2) k) = true then z.1 (54 + 10 * s + 1 + 1) k else z.1 51 k) := by
  refine Exists.elim (lq1 (fun e g i (y : sM) => f_X0_add_L2 50 (54 + 10 * s + 1) e g (nI i) y) (fun i y => ag (fun a _ => a ≠ 50 ∧ a ≠ 51) z y ∧
    (∀ k, k < 64 → lb (y.2 50 1) k = (lb (z.2 50 1) k || (decide (k < i) && lb (z.2 (54 + 10 * s + 1) 1) k))) ∧ (∀ k, k < 64 → lb (y.2 50 2) k = ((decide (k < i) && lb (z.2 (54 + 10 * s + 1) 2) k) || (lb (z.2 50 2) k && !(decide (k < i) && lb (z.2 (54 + 10 * s + 1) 1) k)))) ∧
    (∀ k, k < 64 → y.1 51 k = if (decide (k < i) && (lb (z.2 (54 + 10 * s + 1) 1) k && !lb (z.2 (54 + 10 * s + 1) 2) k)) = true then z.1 (54 + 10 * s + 1 + 1) k else z.1 51 k)) 64 ?_ ?_ 64 0 z 5000 rfl (by decide)
    ⟨ag_rf z, fun k _ => by rw [decide_eq_false (by omega), Bool.false_and, Bool.or_false], fun k _ => by rw [decide_eq_false (by omega), Bool.false_and, Bool.false_and, Bool.false_or, Bool.not_false, Bool.and_true], fun k _ => by rw [decide_eq_false (by omega), Bool.false_and]; exact (if_neg (by decide)).symm⟩) ?_
  rotate_right
  · rintro y ⟨⟨h1, h2, h3, h4⟩, he⟩
    refine ⟨y, ?_, h1, fun k hk => ?_, fun k hk => ?_, fun k hk => ?_⟩
    · unfold f_X0_add
      rw [jn_]
      exact he _
    · rw [h2 k hk, decide_eq_true hk, Bool.true_and]
    · rw [h3 k hk, decide_eq_true hk, Bool.true_and, Bool.true_and]
    · rw [h4 k hk, decide_eq_true hk, Bool.true_and]
  · rintro i y hi ⟨j1, j2, j3, j4⟩
    have zT : y.2 (54 + 10 * s + 1) 1 = z.2 (54 + 10 * s + 1) 1 := (j1 _ 1 (by omega)).2
    have zR : y.2 (54 + 10 * s + 1) 2 = z.2 (54 + 10 * s + 1) 2 := (j1 _ 2 (by omega)).2
    have zV : y.1 (54 + 10 * s + 1 + 1) i = z.1 (54 + 10 * s + 1 + 1) i := (j1 _ i (by omega)).1
    have di : decide (i < i) = false := decide_eq_false (by omega)
    have di1 : decide (i < i + 1) = true := decide_eq_true (by omega)
    cases hT : lb (z.2 (54 + 10 * s + 1) 1) i
    · have hR : lb (z.2 (54 + 10 * s + 1) 2) i = false := by
        cases q : lb (z.2 (54 + 10 * s + 1) 2) i
        · rfl
        · rw [hRT i hi q] at hT; exact absurd hT (by decide)
      refine ⟨y, ⟨j1, fun k hk => ?_, fun k hk => ?_, fun k hk => ?_⟩, fun e g => ?_⟩
      · rw [j2 k hk]
        by_cases e : k = i
        · rw [e, hT, Bool.and_false, Bool.and_false]
        · rw [dcd_lt e]
      · rw [j3 k hk]
        by_cases e : k = i
        · rw [e, hT, hR, Bool.and_false, Bool.and_false]
        · rw [dcd_lt e]
      · rw [j4 k hk]
        by_cases e : k = i
        · rw [e, hT, Bool.false_and, Bool.and_false, Bool.and_false]
        · rw [dcd_lt e]
      · simp (disch := omega) only [md_, jn_, bd_, bdE_, ixl, ix_, llN, lNl, tlN, tNl, eNl, lNN, tNN, eNN, aNl, alN, mlN, nI_add, pk_mul, neg_lt0, if_true, if_false, if_pos, if_neg, up2, uL1, cp2, gdT, gdb_, or_true, true_or, false_or, or_false, and_true, true_and, and_false, false_and, ifb0, ifb1, eq_self, t0, t1, t2, t3, t4, o10, o01, z139a, Bool.false_eq_true, f_X0_add_L2, zT, zR, p_isIn, hT, hR, bi_f]
    · cases hR : lb (z.2 (54 + 10 * s + 1) 2) i
      · refine ⟨x_ren 50 i (z.1 (54 + 10 * s + 1 + 1) i) y, ⟨ren_ag j1 (by omega) (by omega) (by omega), fun k hk => ?_, fun k hk => ?_, fun k hk => ?_⟩, fun e g => ?_⟩
        · rw [renT hi hk, j2 k hk]
          by_cases e : k = i
          · rw [e, hT, di1, decide_eq_true rfl, Bool.or_true, Bool.and_true, Bool.or_true]
          · rw [dcd_lt e, decide_eq_false e, Bool.or_false]
        · rw [renR hi hk, j3 k hk]
          by_cases e : k = i
          · rw [e, hT, hR, di1, decide_eq_true rfl, Bool.not_true, Bool.and_false, Bool.and_false, Bool.and_true, Bool.not_true, Bool.and_false]
            rfl
          · rw [dcd_lt e, decide_eq_false e, Bool.not_false, Bool.and_true]
        · rw [ren1, j4 k hk]
          by_cases e : k = i
          · rw [if_pos ⟨rfl, e⟩, e, hT, hR, di1]
            exact (if_pos (by decide)).symm
          · rw [if_neg (fun w => e w.2), dcd_lt e]
        · simp (disch := omega) only [md_, jn_, bd_, bdE_, ixl, ix_, llN, lNl, tlN, tNl, eNl, lNN, tNN, eNN, aNl, alN, mlN, nI_add, pk_mul, neg_lt0, if_true, if_false, if_pos, if_neg, up2, uL1, cp2, gdT, gdb_, or_true, true_or, false_or, or_false, and_true, true_and, and_false, false_and, ifb0, ifb1, eq_self, t0, t1, t2, t3, t4, o10, o01, z139a, Bool.false_eq_true, f_X0_add_L2, zT, zR, zV, p_isIn, hT, hR, bi_f, bi_t, p_ren]
      · refine ⟨x_drp 50 i y, ⟨drp_ag j1 (by omega) (by omega), fun k hk => ?_, fun k hk => ?_, fun k hk => ?_⟩, fun e g => ?_⟩
        · rw [drpT hi hk, j2 k hk]
          by_cases e : k = i
          · rw [e, hT, di1, decide_eq_true rfl, Bool.or_true, Bool.and_true, Bool.or_true]
          · rw [dcd_lt e, decide_eq_false e, Bool.or_false]
        · rw [drpR hi hk, j3 k hk]
          by_cases e : k = i
          · rw [e, hR, di1, decide_eq_true rfl, Bool.or_true, Bool.true_and, Bool.true_or]
          · rw [dcd_lt e, decide_eq_false e, Bool.or_false]
        · rw [drp1, j4 k hk]
          by_cases e : k = i
          · rw [e, hT, hR, di, di1]
            rfl
          · rw [dcd_lt e]
        · simp (disch := omega) only [md_, jn_, bd_, bdE_, ixl, ix_, llN, lNl, tlN, tNl, eNl, lNN, tNN, eNN, aNl, alN, mlN, nI_add, pk_mul, neg_lt0, if_true, if_false, if_pos, if_neg, up2, uL1, cp2, gdT, gdb_, or_true, true_or, false_or, or_false, and_true, true_and, and_false, false_and, ifb0, ifb1, eq_self, t0, t1, t2, t3, t4, o10, o01, z139a, Bool.false_eq_true, f_X0_add_L2, zT, zR, p_isIn, hT, hR, bi_f, bi_t, p_drp]
  · rintro e g y -
    simp (disch := omega) only [md_, jn_, bd_, bdE_, ixl, ix_, llN, lNl, tlN, tNl, eNl, lNN, tNN, eNN, aNl, alN, mlN, nI_add, pk_mul, neg_lt0, if_true, if_false, if_pos, if_neg, up2, uL1, cp2, gdT, gdb_, or_true, true_or, false_or, or_false, and_true, true_and, and_false, false_and, ifb0, ifb1, eq_self, t0, t1, t2, t3, t4, o10, o01, z139a, Bool.false_eq_true, f_X0_add_L2]
-- remark: the changes of the ready slots, one over the other
def cT (m : sM) (o : Nat → Nat) : Nat → Nat → Bool
  | 0, _ => false
  | i + 1, k => cT m o i k || lb (m.2 (54 + 10 * o i + 1) 1) k
def cR (m : sM) (o : Nat → Nat) : Nat → Nat → Bool
  | 0, _ => false
  | i + 1, k => lb (m.2 (54 + 10 * o i + 1) 2) k || (cR m o i k && !lb (m.2 (54 + 10 * o i + 1) 1) k)
def cV (m : sM) (o : Nat → Nat) : Nat → Nat → Int32
  | 0, k => m.1 51 k
  | i + 1, k => if (lb (m.2 (54 + 10 * o i + 1) 1) k && !lb (m.2 (54 + 10 * o i + 1) 2) k) = true then m.1 (54 + 10 * o i + 1 + 1) k else cV m o i k
set_option maxRecDepth 100000 in
set_option maxHeartbeats 1000000 in
theorem p_addL {mc : sM} {n : Nat} {o : Nat → Nat} (n3 : n ≤ 3) (h7 : mc.1 0 7 = nI n) (ho : ∀ i, i < n → o i < 3 ∧ mc.1 84 i = nI (o i)) (hRT : ∀ i, i < n → ∀ k, k < 64 → lb (mc.2 (54 + 10 * o i + 1) 2) k = true → lb (mc.2 (54 + 10 * o i + 1) 1) k = true) :
    ∃ y, (∀ e, f_X9_prepareNext_L9 e 5000 0 (s_uL (s_uL mc 50 1 0) 50 2 0) = e y) ∧ ag (fun a _ => a ≠ 50 ∧ a ≠ 51) mc y ∧ (∀ k, k < 64 → lb (y.2 50 1) k = cT mc o n k) ∧ (∀ k, k < 64 → lb (y.2 50 2) k = cR mc o n k) ∧ (∀ k, k < 64 → y.1 51 k = cV mc o n k) := by
  refine Exists.elim (lq1 (fun e g i (y : sM) => f_X9_prepareNext_L9 e g (nI i) y) (fun i y => ag (fun a _ => a ≠ 50 ∧ a ≠ 51) mc y ∧ (∀ k, k < 64 → lb (y.2 50 1) k = cT mc o i k) ∧ (∀ k, k < 64 → lb (y.2 50 2) k = cR mc o i k) ∧ (∀ k, k < 64 → y.1 51 k = cV mc o i k)) n ?_ ?_ n 0 (s_uL (s_uL mc 50 1 0) 50 2 0) 5000 (by omega) (by omega)
    ⟨ag_uL (ag_uL (ag_rf mc) (by omega)) (by omega), fun k _ => by rw [uL2, if_neg (by omega), uL2, if_pos ⟨rfl, rfl⟩, lb_0]; rfl, fun k _ => by rw [uL2, if_pos ⟨rfl, rfl⟩, lb_0]; rfl, fun k _ => rfl⟩) ?_
  rotate_right
  · rintro y ⟨⟨h1, h2, h3, h4⟩, he⟩
    exact ⟨y, he, h1, h2, h3, h4⟩
  · rintro i y hi ⟨j1, j2, j3, j4⟩
    obtain ⟨o3, o4⟩ := ho i hi
    have zT : ∀ b, y.2 (54 + 10 * o i + 1) b = mc.2 (54 + 10 * o i + 1) b := fun b => (j1 _ b (by omega)).2
    have zV : ∀ k, y.1 (54 + 10 * o i + 1 + 1) k = mc.1 (54 + 10 * o i + 1 + 1) k := fun k => (j1 _ k (by omega)).1
    have y7 : y.1 0 7 = nI n := ((j1 0 7 (by omega)).1).trans h7
    have y84 : y.1 84 i = nI (o i) := ((j1 84 i (by omega)).1).trans o4
    obtain ⟨y', a1, a2, a3, a4, a5⟩ := p_add o3 (z := y) (fun k hk => by rw [zT, zT]; exact hRT i hi k hk)
    refine ⟨y', ⟨ag_tr j1 a2, fun k hk => ?_, fun k hk => ?_, fun k hk => ?_⟩, fun e g => ?_⟩
    · rw [a3 k hk, j2 k hk, zT]; rfl
    · rw [a4 k hk, j3 k hk, zT, zT]; rfl
    · rw [a5 k hk, j4 k hk, zT, zT, zV]; rfl
    · simp (disch := omega) only [md_, jn_, bd_, bdE_, ixl, ix_, llN, lNl, tlN, tNl, eNl, lNN, tNN, eNN, aNl, alN, mlN, nI_add, pk_mul, neg_lt0, if_true, if_false, if_pos, if_neg, up2, uL1, cp2, gdT, gdb_, or_true, true_or, false_or, or_false, and_true, true_and, and_false, false_and, ifb0, ifb1, eq_self, t0, t1, t2, t3, t4, o10, o01, z139a, Bool.false_eq_true, f_X9_prepareNext_L9, y7, y84, a1]
  · rintro e g y ⟨j1, -⟩
    have y7 : y.1 0 7 = nI n := ((j1 0 7 (by omega)).1).trans h7
    simp (disch := omega) only [md_, jn_, bd_, bdE_, ixl, ix_, llN, lNl, tlN, tNl, eNl, lNN, tNN, eNN, aNl, alN, mlN, nI_add, pk_mul, neg_lt0, if_true, if_false, if_pos, if_neg, up2, uL1, cp2, gdT, gdb_, or_true, true_or, false_or, or_false, and_true, true_and, and_false, false_and, ifb0, ifb1, eq_self, t0, t1, t2, t3, t4, o10, o01, z139a, Bool.false_eq_true, f_X9_prepareNext_L9, y7, Nat.le_refl]
set_option maxRecDepth 100000 in
set_option maxHeartbeats 1000000 in
theorem p_apply {z : sM} (hRT : ∀ k, k < 64 → lb (z.2 50 2) k = true → lb (z.2 50 1) k = true) : ∃ y, f_X8_apply 39 50 z = some (.inl (), y) ∧ ag (fun a j => a ≠ 41 ∧ ¬ (a = 39 ∧ j = 2)) z y ∧
    (∀ k, k < 64 → lb (y.2 39 2) k = if lb (z.2 50 2) k = true then false else (lb (z.2 50 1) k || lb (z.2 39 2) k)) ∧
    (∀ k, k < 64 → y.1 41 k = if (lb (z.2 50 1) k && !lb (z.2 50 2) k) = true then z.1 51 k else z.1 41 k) := by
  refine Exists.elim (lq1 (fun e g i (y : sM) => f_X8_apply_L2 39 50 e g (nI i) y) (fun i y => ag (fun a j => a ≠ 41 ∧ ¬ (a = 39 ∧ j = 2)) z y ∧
    (∀ k, k < 64 → lb (y.2 39 2) k = if k < i then (if lb (z.2 50 2) k = true then false else (lb (z.2 50 1) k || lb (z.2 39 2) k)) else lb (z.2 39 2) k) ∧
    (∀ k, k < 64 → y.1 41 k = if (decide (k < i) && (lb (z.2 50 1) k && !lb (z.2 50 2) k)) = true then z.1 51 k else z.1 41 k)) 64 ?_ ?_ 64 0 z 5000 rfl (by decide)
    ⟨ag_rf z, fun k _ => by rw [if_neg (by omega)], fun k _ => by rw [decide_eq_false (by omega), Bool.false_and]; exact (if_neg (by decide)).symm⟩) ?_
  rotate_right
  · rintro y ⟨⟨h1, h2, h3⟩, he⟩
    refine ⟨y, ?_, h1, fun k hk => ?_, fun k hk => ?_⟩
    · unfold f_X8_apply
      rw [jn_]
      exact he _
    · rw [h2 k hk, if_pos hk]
    · rw [h3 k hk, decide_eq_true hk, Bool.true_and]
  · rintro i y hi ⟨j1, j2, j3⟩
    have zT : y.2 50 1 = z.2 50 1 := (j1 50 1 (by omega)).2
    have zR : y.2 50 2 = z.2 50 2 := (j1 50 2 (by omega)).2
    have zV : y.1 51 i = z.1 51 i := (j1 51 i (by omega)).1
    have di1 : decide (i < i + 1) = true := decide_eq_true (by omega)
    cases hR : lb (z.2 50 2) i
    · cases hT : lb (z.2 50 1) i
      · refine ⟨y, ⟨j1, fun k hk => ?_, fun k hk => ?_⟩, fun e g => ?_⟩
        · rw [j2 k hk]
          by_cases e : k = i
          · rw [if_neg (by omega), if_pos (by omega), e, hR, hT]
            rfl
          · by_cases q : k < i
            · rw [if_pos q, if_pos (show k < i + 1 by omega)]
            · rw [if_neg q, if_neg (show ¬ k < i + 1 by omega)]
        · rw [j3 k hk]
          by_cases e : k = i
          · rw [e, hT, Bool.false_and, Bool.and_false, Bool.and_false]
          · rw [dcd_lt e]
        · simp (disch := omega) only [md_, jn_, bd_, bdE_, ixl, ix_, llN, lNl, tlN, tNl, eNl, lNN, tNN, eNN, aNl, alN, mlN, nI_add, pk_mul, neg_lt0, if_true, if_false, if_pos, if_neg, up2, uL1, cp2, gdT, gdb_, or_true, true_or, false_or, or_false, and_true, true_and, and_false, false_and, ifb0, ifb1, eq_self, t0, t1, t2, t3, t4, o10, o01, z139a, Bool.false_eq_true, f_X8_apply_L2, zT, zR, p_isIn, hT, hR, bi_f]
      · refine ⟨s_up (s_uL y 39 2 (y.2 39 2 ||| s_lshl 1 (nI i))) 41 i (z.1 51 i), ⟨ag_up (ag_uL j1 (by omega)) (by omega), fun k hk => ?_, fun k hk => ?_⟩, fun e g => ?_⟩
        · rw [up2, uL2, if_pos ⟨rfl, rfl⟩, lb_or, lb_set i hi k hk, j2 k hk]
          by_cases e : k = i
          · rw [if_neg (by omega), if_pos (by omega), e, hR, hT, decide_eq_true rfl, Bool.or_true]
            rfl
          · rw [decide_eq_false e, Bool.or_false]
            by_cases q : k < i
            · rw [if_pos q, if_pos (show k < i + 1 by omega)]
            · rw [if_neg q, if_neg (show ¬ k < i + 1 by omega)]
        · rw [up1, uL1, j3 k hk]
          by_cases e : k = i
          · rw [if_pos ⟨rfl, e⟩, e, hT, hR, di1]
            exact (if_pos (by decide)).symm
          · rw [if_neg (fun w => e w.2), dcd_lt e]
        · simp (disch := omega) only [md_, jn_, bd_, bdE_, ixl, ix_, llN, lNl, tlN, tNl, eNl, lNN, tNN, eNN, aNl, alN, mlN, nI_add, pk_mul, neg_lt0, if_true, if_false, if_pos, if_neg, up2, uL1, cp2, gdT, gdb_, or_true, true_or, false_or, or_false, and_true, true_and, and_false, false_and, ifb0, ifb1, eq_self, t0, t1, t2, t3, t4, o10, o01, z139a, Bool.false_eq_true, f_X8_apply_L2, zT, zR, zV, p_isIn, hT, hR, bi_f, bi_t, p_setOf]
    · have hT := hRT i hi hR
      refine ⟨s_uL y 39 2 (y.2 39 2 &&& (s_lshl 1 (nI i) ^^^ (-1))), ⟨ag_uL j1 (by omega), fun k hk => ?_, fun k hk => ?_⟩, fun e g => ?_⟩
      · rw [uL2, if_pos ⟨rfl, rfl⟩, lb_and, lb_not _ hk, lb_set i hi k hk, j2 k hk]
        by_cases e : k = i
        · rw [if_neg (by omega), if_pos (by omega), e, hR, decide_eq_true rfl, Bool.not_true, Bool.and_false]
          rfl
        · rw [decide_eq_false e, Bool.not_false, Bool.and_true]
          by_cases q : k < i
          · rw [if_pos q, if_pos (show k < i + 1 by omega)]
          · rw [if_neg q, if_neg (show ¬ k < i + 1 by omega)]
      · rw [uL1, j3 k hk]
        by_cases e : k = i
        · rw [e, hT, hR, Bool.not_true, Bool.and_false, Bool.and_false, Bool.and_false]
        · rw [dcd_lt e]
      · simp (disch := omega) only [md_, jn_, bd_, bdE_, ixl, ix_, llN, lNl, tlN, tNl, eNl, lNN, tNN, eNN, aNl, alN, mlN, nI_add, pk_mul, neg_lt0, if_true, if_false, if_pos, if_neg, up2, uL1, cp2, gdT, gdb_, or_true, true_or, false_or, or_false, and_true, true_and, and_false, false_and, ifb0, ifb1, eq_self, t0, t1, t2, t3, t4, o10, o01, z139a, Bool.false_eq_true, f_X8_apply_L2, zT, zR, p_isIn, hT, hR, bi_t, p_setOf]
  · rintro e g y -
    simp (disch := omega) only [md_, jn_, bd_, bdE_, ixl, ix_, llN, lNl, tlN, tNl, eNl, lNN, tNN, eNN, aNl, alN, mlN, nI_add, pk_mul, neg_lt0, if_true, if_false, if_pos, if_neg, up2, uL1, cp2, gdT, gdb_, or_true, true_or, false_or, or_false, and_true, true_and, and_false, false_and, ifb0, ifb1, eq_self, t0, t1, t2, t3, t4, o10, o01, z139a, Bool.false_eq_true, f_X8_apply_L2]
set_option maxRecDepth 100000 in
set_option maxHeartbeats 1000000 in
theorem cR_cT {m : sM} {o : Nat → Nat} {k : Nat} : ∀ n, (∀ i, i < n → lb (m.2 (54 + 10 * o i + 1) 2) k = true → lb (m.2 (54 + 10 * o i + 1) 1) k = true) → cR m o n k = true → cT m o n k = true
  | 0, _, h => h
  | n + 1, hRT, h => by
    rw [cR, Bool.or_eq_true_iff, Bool.and_eq_true_iff] at h
    rw [cT, Bool.or_eq_true_iff]
    rcases h with h | ⟨h, -⟩
    · exact Or.inr (hRT n (by omega) h)
    · exact Or.inl (cR_cT n (fun i hi => hRT i (by omega)) h)
-- remark: the keys and values of the next version
def nH (m : sM) (o : Nat → Nat) (n k : Nat) : Bool := if cR m o n k = true then false else (cT m o n k || lb (m.2 36 2) k)
def nV (m : sM) (o : Nat → Nat) (n k : Nat) : Int32 := if (cT m o n k && !cR m o n k) = true then cV m o n k else m.1 38 k
set_option maxRecDepth 100000 in
set_option maxHeartbeats 1000000 in
theorem p_prep {mc : sM} {n : Nat} {o : Nat → Nat} (n3 : n ≤ 3) (h7 : mc.1 0 7 = nI n) (ho : ∀ i, i < n → o i < 3 ∧ mc.1 84 i = nI (o i)) (hRT : ∀ i, i < n → ∀ k, k < 64 → lb (mc.2 (54 + 10 * o i + 1) 2) k = true → lb (mc.2 (54 + 10 * o i + 1) 1) k = true) {c : Nat} (h3 : mc.1 36 3 = nI c) (hc : c < 2 ^ 30) :
    ∃ y, f_X9_prepareNext mc = some (.inl (), y) ∧ ag (fun a _ => a ≠ 39 ∧ a ≠ 40 ∧ a ≠ 41 ∧ a ≠ 50 ∧ a ≠ 51) mc y ∧ (∀ k, k < 64 → lb (y.2 50 1) k = cT mc o n k) ∧ (∀ k, k < 64 → lb (y.2 39 2) k = nH mc o n k) ∧ (∀ k, k < 64 → y.1 41 k = nV mc o n k) ∧ (∀ p, p < 8 → y.1 40 p = mc.1 37 p) ∧ y.1 39 3 = nI (c + 1) ∧ y.1 39 4 = nI ((c + 1) % 2) ∧ y.1 39 5 = mc.1 36 5 := by
  obtain ⟨y1, e1, a1, a2, a3, a4⟩ := p_addL n3 h7 ho hRT
  have q1 : ∀ b j, (x_cpV 39 36 y1).1 b j = if b = 39 ∧ (j = 3 ∨ j = 4 ∨ j = 5) then y1.1 36 j else if b = 39 + 2 ∧ j < 64 then y1.1 (36 + 2) j else if b = 39 + 1 ∧ j < 8 then y1.1 (36 + 1) j else y1.1 b j := fun b j => cpV1 (by omega) y1 b j
  have t1 : ag (fun a _ => a ≠ 39 ∧ a ≠ 40 ∧ a ≠ 41 ∧ a ≠ 50 ∧ a ≠ 51) mc (x_cpV 39 36 y1) := cpV_ag (ag_mo a1 (by intro a j q; omega)) (by intro b j h1 h2; omega)
  have t50 : (x_cpV 39 36 y1).2 50 = y1.2 50 := by
    funext j
    exact (cpV_ag (P := fun a _ => a = 50) (ag_rf y1) (by intro b j h1 h2; omega) 50 j rfl).2
  have hRT2 : ∀ k, k < 64 → lb ((x_cpV 39 36 y1).2 50 2) k = true → lb ((x_cpV 39 36 y1).2 50 1) k = true := fun k hk w => by
    rw [t50] at w ⊢
    rw [a3 k hk] at w
    rw [a2 k hk]
    exact cR_cT n (fun i hi => hRT i hi k hk) w
  obtain ⟨y2, e2, b1, b2, b3⟩ := p_apply hRT2
  have c363 : y2.1 36 3 = nI c := by rw [(b1 36 3 (by omega)).1, q1, if_neg (by omega), if_neg (by omega), if_neg (by omega), (a1 36 3 (by omega)).1]; exact h3
  have c1 : nI c + 1 = nI (c + 1) := nI_add c 1
  have cr : nI (c + 1) - nI (c + 1) / 2 * 2 = nI ((c + 1) % 2) := pk_rem (d := 2) (by omega) (by decide) (by decide)
  refine ⟨s_up (s_up y2 39 3 (nI (c + 1))) 39 4 (nI ((c + 1) % 2)), ?_, ag_up (ag_up (ag_tr t1 (ag_mo b1 (by intro a j q; omega))) (by omega)) (by omega), fun k hk => ?_, fun k hk => ?_, fun k hk => ?_, fun p hp => ?_, ?_, upS _ _ _ _, ?_⟩
  · unfold f_X9_prepareNext
    have hcl : f_X0_clear 50 mc = some (.inl (), s_uL (s_uL mc 50 1 0) 50 2 0) := rfl
    have hcp : f_X8_copyFrom 39 36 y1 = some (.inl (), x_cpV 39 36 y1) := p_cpV (by omega) y1
    rw [hcl, bd_, jn_, e1, hcp, bd_, e2, bd_, c363, c1, md_, upS, cr, md_]
  · rw [up2, up2, (b1 50 1 (by omega)).2, t50, a2 k hk]
  · rw [up2, up2, b2 k hk, t50, a3 k hk, a2 k hk, cpV2, (a1 36 2 (by omega)).2]
    rfl
  · have v51 : (x_cpV 39 36 y1).1 51 k = cV mc o n k := by rw [q1, if_neg (by omega), if_neg (by omega), if_neg (by omega), a4 k hk]
    have v41 : (x_cpV 39 36 y1).1 41 k = mc.1 38 k := by rw [q1, if_neg (by omega), if_pos ⟨rfl, hk⟩, (a1 38 k (by omega)).1]
    rw [up1, if_neg (by omega), up1, if_neg (by omega), b3 k hk, t50, a2 k hk, a3 k hk, v51, v41]
    rfl
  · rw [up1, if_neg (by omega), up1, if_neg (by omega), (b1 40 p (by omega)).1, q1, if_neg (by omega), if_neg (by omega), if_pos ⟨rfl, hp⟩, (a1 37 p (by omega)).1]
  · rw [up1, if_neg (by omega)]; exact upS _ _ _ _
  · rw [up1, if_neg (by omega), up1, if_neg (by omega), (b1 39 5 (by omega)).1, q1, if_pos (by omega), (a1 36 5 (by omega)).1]
