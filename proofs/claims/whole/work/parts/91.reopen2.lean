/-! PURE: reopen, the version that is read. -/
def enH (m : sM) (t k : Nat) : Bool := isD (m.1 (4 + t) (4 + k % 8)) && ib (m.1 (4 + (m.1 (4 + t) (4 + k % 8)).toNatClampNeg) 3) (k / 8)
def enV (m : sM) (t k : Nat) : Int32 := m.1 (4 + (m.1 (4 + t) (4 + k % 8)).toNatClampNeg) (4 + k / 8)
set_option maxRecDepth 100000 in
set_option maxHeartbeats 1000000 in
theorem p_ldPage {b p : Nat} (hb : b < 32) (hp : p < 8) (z : sM) : ∃ s, f_X8_loadPage 36 (4 + b) (nI p) z = some (.inl (), s) ∧ ag (fun a j => a ≠ 38 ∧ ¬ (a = 36 ∧ j = 2)) z s ∧
    (∀ k, k < 64 → lb (s.2 36 2) k = (lb (z.2 36 2) k || (decide (k % 8 = p ∧ k / 8 < 8) && ib (z.1 (4 + b) 3) (k / 8)))) ∧
    (∀ k, k % 8 = p → k / 8 < 8 → ib (z.1 (4 + b) 3) (k / 8) = true → s.1 38 k = z.1 (4 + b) (4 + k / 8)) ∧ (∀ k, k % 8 ≠ p → s.1 38 k = z.1 38 k) := by
  refine Exists.elim (lq1 (fun e g i (s : sM) => f_X8_loadPage_L2 36 (4 + b) (nI p) e g (nI i) s) (fun i s => ag (fun a j => a ≠ 38 ∧ ¬ (a = 36 ∧ j = 2)) z s ∧
    (∀ k, k < 64 → lb (s.2 36 2) k = (lb (z.2 36 2) k || (decide (k % 8 = p ∧ k / 8 < i) && ib (z.1 (4 + b) 3) (k / 8)))) ∧
    (∀ k, k % 8 = p → k / 8 < i → ib (z.1 (4 + b) 3) (k / 8) = true → s.1 38 k = z.1 (4 + b) (4 + k / 8)) ∧ (∀ k, k % 8 ≠ p → s.1 38 k = z.1 38 k)) 8 ?_ ?_ 8 0 z 5000 rfl (by decide)
    ⟨ag_rf z, fun k _ => by rw [decide_eq_false (by omega), Bool.false_and, Bool.or_false], fun k _ h => absurd h (Nat.not_lt_zero _), fun _ _ => rfl⟩) ?_
  rotate_right
  · rintro s ⟨hJ, he⟩
    refine ⟨s, ?_, hJ⟩
    unfold f_X8_loadPage
    rw [jn_]
    exact he _
  · rintro i s hi ⟨j1, j2, j3, j4⟩
    have c3 : s.1 (4 + b) 3 = z.1 (4 + b) 3 := (j1 _ 3 (by omega)).1
    have c4 : s.1 (4 + b) (4 + i) = z.1 (4 + b) (4 + i) := (j1 _ (4 + i) (by omega)).1
    have hk64 : p + 8 * i < 64 := by omega
    cases hib : ib (z.1 (4 + b) 3) i
    · have hib2 : lb (Int32.toInt64 (s.1 (4 + b) 3)) i = false := by rw [c3]; exact hib
      refine ⟨s, ⟨j1, fun k hk => ?_, fun k k1 k2 k3 => ?_, j4⟩, fun e g => ?_⟩
      · rw [j2 k hk]
        by_cases e : k = p + 8 * i
        · have q : k / 8 = i := by omega
          rw [q, hib, Bool.and_false, Bool.and_false]
        · rw [show decide (k % 8 = p ∧ k / 8 < i + 1) = decide (k % 8 = p ∧ k / 8 < i) from decide_eq_decide.mpr (by omega)]
      · by_cases e : k = p + 8 * i
        · have q : k / 8 = i := by omega
          rw [q, hib] at k3; exact absurd k3 (by decide)
        · exact j3 k k1 (by omega) k3
      · simp (disch := omega) only [md_, jn_, bd_, bdE_, ixl, ix_, llN, lNl, tlN, tNl, eNl, lNN, tNN, eNN, aNl, alN, mlN, nI_add, pk_mul, neg_lt0, if_true, if_false, if_pos, if_neg, up2, uL1, cp2, gdT, gdb_, or_true, true_or, false_or, or_false, and_true, true_and, and_false, false_and, ifb0, ifb1, eq_self, t0, t1, t2, t3, t4, o10, o01, z139a, Bool.false_eq_true, f_X8_loadPage_L2, p_isIn, hib2, bi_f]
    · have hib2 : lb (Int32.toInt64 (s.1 (4 + b) 3)) i = true := by rw [c3]; exact hib
      refine ⟨s_up (s_uL s 36 2 (s.2 36 2 ||| s_lshl 1 (nI (p + 8 * i)))) 38 (p + 8 * i) (s.1 (4 + b) (4 + i)), ⟨ag_up (ag_uL j1 (by omega)) (by omega), fun k hk => ?_, fun k k1 k2 k3 => ?_, fun k k1 => ?_⟩, fun e g => ?_⟩
      · rw [up2, uL2, if_pos ⟨rfl, rfl⟩, lb_or, lb_set _ hk64 _ hk, j2 k hk]
        by_cases e : k = p + 8 * i
        · have q : k / 8 = i := by omega
          rw [decide_eq_true e, q, hib, decide_eq_true (by omega : k % 8 = p ∧ i < i + 1), Bool.or_true, Bool.and_true, Bool.or_true]
        · rw [decide_eq_false e, Bool.or_false, show decide (k % 8 = p ∧ k / 8 < i + 1) = decide (k % 8 = p ∧ k / 8 < i) from decide_eq_decide.mpr (by omega)]
      · rw [up1, uL1]
        by_cases e : k = p + 8 * i
        · rw [if_pos ⟨rfl, e⟩, c4, show k / 8 = i by omega]
        · rw [if_neg (by omega)]; exact j3 k k1 (by omega) k3
      · rw [up1, uL1, if_neg (by omega)]; exact j4 k k1
      · simp (disch := omega) only [md_, jn_, bd_, bdE_, ixl, ix_, llN, lNl, tlN, tNl, eNl, lNN, tNN, eNN, aNl, alN, mlN, nI_add, pk_mul, neg_lt0, if_true, if_false, if_pos, if_neg, up2, uL1, cp2, gdT, gdb_, or_true, true_or, false_or, or_false, and_true, true_and, and_false, false_and, ifb0, ifb1, eq_self, t0, t1, t2, t3, t4, o10, o01, z139a, Bool.false_eq_true, f_X8_loadPage_L2, p_isIn, hib2, bi_t, p_keyOf, p_setOf]
  · rintro e g s -
    simp (disch := omega) only [md_, jn_, bd_, bdE_, ixl, ix_, llN, lNl, tlN, tNl, eNl, lNN, tNN, eNN, aNl, alN, mlN, nI_add, pk_mul, neg_lt0, if_true, if_false, if_pos, if_neg, up2, uL1, cp2, gdT, gdb_, or_true, true_or, false_or, or_false, and_true, true_and, and_false, false_and, ifb0, ifb1, eq_self, t0, t1, t2, t3, t4, o10, o01, z139a, Bool.false_eq_true, f_X8_loadPage_L2]
set_option maxRecDepth 100000 in
set_option maxHeartbeats 1000000 in
theorem p_loadL {t : Nat} (ht : t < 32) {m : sM} (h5 : m.1 36 5 = nI t) (h2 : m.2 36 2 = 0) (hA : enAll m t 8 = true) : ∃ s, (∀ e, f_X8_load_L36 36 e 5000 0 m = e s) ∧ ag (fun a j => a ≠ 37 ∧ a ≠ 38 ∧ ¬ (a = 36 ∧ j = 2)) m s ∧
    (∀ q, q < 8 → s.1 37 q = m.1 (4 + t) (4 + q)) ∧ (∀ k, k < 64 → lb (s.2 36 2) k = (decide (k % 8 < 8) && enH m t k)) ∧ (∀ k, k < 64 → k % 8 < 8 → enH m t k = true → s.1 38 k = enV m t k) := by
  refine Exists.elim (lq1 (fun e g i (s : sM) => f_X8_load_L36 36 e g (nI i) s) (fun p s => ag (fun a j => a ≠ 37 ∧ a ≠ 38 ∧ ¬ (a = 36 ∧ j = 2)) m s ∧
    (∀ q, q < p → s.1 37 q = m.1 (4 + t) (4 + q)) ∧ (∀ k, k < 64 → lb (s.2 36 2) k = (decide (k % 8 < p) && enH m t k)) ∧ (∀ k, k < 64 → k % 8 < p → enH m t k = true → s.1 38 k = enV m t k)) 8 ?_ ?_ 8 0 m 5000 rfl (by decide)
    ⟨ag_rf m, fun q h => absurd h (Nat.not_lt_zero _), fun k _ => by rw [h2, lb_0, decide_eq_false (by omega), Bool.false_and], fun k _ h => absurd h (Nat.not_lt_zero _)⟩) ?_
  rotate_right
  · rintro s ⟨⟨hJ1, hJ2, hJ3, hJ4⟩, he⟩
    exact ⟨s, he, hJ1, hJ2, hJ3, hJ4⟩
  · rintro p s hp ⟨j1, j2, j3, j4⟩
    have c5 : s.1 36 5 = nI t := ((j1 36 5 (by omega)).1).trans h5
    have cv : s.1 (4 + t) (4 + p) = m.1 (4 + t) (4 + p) := (j1 _ _ (by omega)).1
    have hk := enAll_t 8 hA p hp
    unfold enOk at hk
    by_cases hm1 : m.1 (4 + t) (4 + p) = -1
    · have hv : s.1 (4 + t) (4 + p) = -1 := cv.trans hm1
      have hdm : ∀ m, f_X1_isDataBlock (-1) m = some (.inl 0, m) := p_dataE (by decide)
      have hf : ∀ k, k % 8 = p → enH m t k = false := fun k q => by unfold enH; rw [q, hm1]; rfl
      refine ⟨s_up s 37 p (-1), ⟨ag_up j1 (by omega), fun q hq => ?_, fun k hk => ?_, fun k hk k1 k2 => ?_⟩, fun e g => ?_⟩
      · rw [up1]
        by_cases e : q = p
        · rw [if_pos ⟨rfl, e⟩, e, hm1]
        · rw [if_neg (by omega)]; exact j2 q (by omega)
      · rw [up2, j3 k hk]
        by_cases e : k % 8 = p
        · rw [hf k e, Bool.and_false, Bool.and_false]
        · rw [show decide (k % 8 < p + 1) = decide (k % 8 < p) from decide_eq_decide.mpr (by omega)]
      · rw [up1, if_neg (by omega)]
        by_cases e : k % 8 = p
        · rw [hf k e] at k2; exact absurd k2 (by decide)
        · exact j4 k hk (by omega) k2
      · simp (disch := omega) only [md_, jn_, bd_, bdE_, ixl, ix_, llN, lNl, tlN, tNl, eNl, lNN, tNN, eNN, aNl, alN, mlN, nI_add, pk_mul, neg_lt0, if_true, if_false, if_pos, if_neg, up2, uL1, cp2, gdT, gdb_, or_true, true_or, false_or, or_false, and_true, true_and, and_false, false_and, ifb0, ifb1, eq_self, t0, t1, t2, t3, t4, o10, o01, z139a, Bool.false_eq_true, f_X8_load_L36, c5, Nat.one_mul, hv, upS, hdm]
    · rcases data_or (m.1 (4 + t) (4 + p)) with hd | ⟨b, b1, b2, hbv⟩
      · rw [decide_eq_false hm1, isD_f hd, Bool.false_and, Bool.false_or] at hk
        exact absurd hk (by decide)
      · have hv : s.1 (4 + t) (4 + p) = nI b := cv.trans hbv
        obtain ⟨s2, hs2, l1, l2, l3, l4⟩ := p_ldPage b2 hp (s_up s 37 p (nI b))
        have hf : ∀ k, k % 8 = p → enH m t k = ib (m.1 (4 + b) 3) (k / 8) := fun k q => by unfold enH; rw [q, hbv, isD_t b1 b2, Bool.true_and, nI_clamp (by omega)]
        have hg : ∀ k, k % 8 = p → enV m t k = m.1 (4 + b) (4 + k / 8) := fun k q => by unfold enV; rw [q, hbv, nI_clamp (by omega)]
        have d : ∀ c, (s_up s 37 p (nI b)).1 (4 + b) c = m.1 (4 + b) c := fun c => by rw [up1, if_neg (by omega)]; exact (j1 _ _ (by omega)).1
        rw [d] at l2 l3
        refine ⟨s2, ⟨fun a j q => ⟨?_, ?_⟩, fun q hq => ?_, fun k hk => ?_, fun k hk k1 k2 => ?_⟩, fun e g => ?_⟩
        · rw [(l1 a j (by omega)).1, up1, if_neg (by omega)]; exact (j1 a j q).1
        · rw [(l1 a j (by omega)).2]; exact (j1 a j q).2
        · rw [(l1 37 q (by omega)).1, up1]
          by_cases e : q = p
          · rw [if_pos ⟨rfl, e⟩, e, hbv]
          · rw [if_neg (by omega)]; exact j2 q (by omega)
        · rw [l2 k hk, up2, j3 k hk]
          by_cases e : k % 8 = p
          · rw [hf k e, decide_eq_false (by omega : ¬ k % 8 < p), Bool.false_and, Bool.false_or, decide_eq_true (by omega : k % 8 = p ∧ k / 8 < 8), decide_eq_true (by omega : k % 8 < p + 1)]
          · rw [decide_eq_false (by omega : ¬ (k % 8 = p ∧ k / 8 < 8)), Bool.false_and, Bool.or_false, show decide (k % 8 < p + 1) = decide (k % 8 < p) from decide_eq_decide.mpr (by omega)]
        · by_cases e : k % 8 = p
          · rw [hf k e] at k2
            rw [hg k e, l3 k e (by omega) k2, d]
          · rw [l4 k e, up1, if_neg (by omega)]; exact j4 k hk (by omega) k2
        · simp (disch := omega) only [md_, jn_, bd_, bdE_, ixl, ix_, llN, lNl, tlN, tNl, eNl, lNN, tNN, eNN, aNl, alN, mlN, nI_add, pk_mul, neg_lt0, if_true, if_false, if_pos, if_neg, up2, uL1, cp2, gdT, gdb_, or_true, true_or, false_or, or_false, and_true, true_and, and_false, false_and, ifb0, ifb1, eq_self, t0, t1, t2, t3, t4, o10, o01, z139a, Bool.false_eq_true, f_X8_load_L36, c5, Nat.one_mul, hv, upS, p_data b1 b2, hs2]
  · rintro e g s -
    simp (disch := omega) only [md_, jn_, bd_, bdE_, ixl, ix_, llN, lNl, tlN, tNl, eNl, lNN, tNN, eNN, aNl, alN, mlN, nI_add, pk_mul, neg_lt0, if_true, if_false, if_pos, if_neg, up2, uL1, cp2, gdT, gdb_, or_true, true_or, false_or, or_false, and_true, true_and, and_false, false_and, ifb0, ifb1, eq_self, t0, t1, t2, t3, t4, o10, o01, z139a, Bool.false_eq_true, f_X8_load_L36]
/-! the reference -/
set_option maxRecDepth 100000 in
set_option maxHeartbeats 1000000 in
theorem q_ldIn {mc y0 : sM} (hd : rDisk mc y0) {p : Nat} (hp : p < 8) {v : Int32} {h : Nat → Bool} {w : Nat → Int32} (hv : (v = -1 ∧ ∀ i, i < 8 → h i = false) ∨ ∃ b, 2 ≤ b ∧ b < 32 ∧ v = nI b ∧ ∀ i, i < 8 → h i = ib (mc.1 (4 + b) 3) i ∧ w i = mc.1 (4 + b) (4 + i)) :
    ∃ y, (∀ e, f_X10_reopen_L168 (nI p) v e 5000 0 y0 = e y) ∧ ag (fun a j => ¬ ((a = 115 ∨ a = 116) ∧ j < 64 ∧ j % 8 = p)) y0 y ∧ (∀ i, i < 8 → y.1 115 (p + 8 * i) = bi (h i) ∧ (h i = true → y.1 116 (p + 8 * i) = w i)) := by
  refine Exists.elim (lq1 (fun e g i (y : sM) => f_X10_reopen_L168 (nI p) v e g (nI i) y) (fun n y => ag (fun a j => ¬ ((a = 115 ∨ a = 116) ∧ j < 64 ∧ j % 8 = p)) y0 y ∧ (∀ i, i < n → y.1 115 (p + 8 * i) = bi (h i) ∧ (h i = true → y.1 116 (p + 8 * i) = w i))) 8 ?_ ?_ 8 0 y0 5000 rfl (by decide) ⟨ag_rf _, fun i hi => absurd hi (Nat.not_lt_zero i)⟩) ?_
  rotate_right
  · rintro y ⟨⟨hJ1, hJ2⟩, he⟩
    exact ⟨y, he, hJ1, hJ2⟩
  · rintro i y hi ⟨j1, j2⟩
    have pt : ∀ (x1 x2 : Int32), x1 = bi (h i) → (h i = true → x2 = w i) → ag (fun a j => ¬ ((a = 115 ∨ a = 116) ∧ j < 64 ∧ j % 8 = p)) y0 (s_up (s_up y 115 (p + 8 * i) x1) 116 (p + 8 * i) x2) ∧ (∀ i', i' < i + 1 → (s_up (s_up y 115 (p + 8 * i) x1) 116 (p + 8 * i) x2).1 115 (p + 8 * i') = bi (h i') ∧ (h i' = true → (s_up (s_up y 115 (p + 8 * i) x1) 116 (p + 8 * i) x2).1 116 (p + 8 * i') = w i')) := fun x1 x2 e1 e2 => by
      refine ⟨ag_up (ag_up j1 (by omega)) (by omega), fun i' hi' => ?_⟩
      rw [up1, up1, up1, up1]
      by_cases e : i' = i
      · subst e
        rw [if_neg (by omega), if_pos ⟨rfl, rfl⟩, if_pos ⟨rfl, rfl⟩]
        exact ⟨e1, e2⟩
      · rw [if_neg (by omega), if_neg (by omega), if_neg (by omega), if_neg (by omega)]
        exact j2 i' (by omega)
    rcases hv with ⟨rfl, hh⟩ | ⟨b, b1, b2, rfl, hw⟩
    · have hm : ((-1 : Int32) < 0) = True := eq_true (by decide)
      refine ⟨s_up (s_up y 115 (p + 8 * i) 0) 116 (p + 8 * i) 0, pt 0 0 (by rw [hh i hi]; rfl) (fun q => by rw [hh i hi] at q; exact absurd q (by decide)), fun e g => ?_⟩
      simp (disch := omega) only [md_, jn_, bd_, bdE_, ixl, ix_, llN, lNl, tlN, tNl, eNl, lNN, tNN, eNN, aNl, alN, mlN, nI_add, pk_mul, neg_lt0, if_true, if_false, if_pos, if_neg, up2, uL1, cp2, gdT, gdb_, or_true, true_or, false_or, or_false, and_true, true_and, and_false, false_and, ifb0, ifb1, eq_self, t0, t1, t2, t3, t4, o10, o01, z139a, Bool.false_eq_true, f_X10_reopen_L168, hm, nar0]
    · have d3 : y.1 111 (13 * b + 3) = mc.1 (4 + b) 3 := by rw [(j1 111 _ (by omega)).1]; exact (hd b 3 b2 (by decide)).symm
      have d4 : y.1 111 (13 * b + (4 + i)) = mc.1 (4 + b) (4 + i) := by rw [(j1 111 _ (by omega)).1]; exact (hd b (4 + i) b2 (by omega)).symm
      obtain ⟨w1, w2⟩ := hw i hi
      have d4' : ∀ x, (s_up y 115 (p + 8 * i) x).1 111 (13 * b + (4 + i)) = mc.1 (4 + b) (4 + i) := fun x => by rw [up1, if_neg (by omega)]; exact d4
      cases hib : ib (mc.1 (4 + b) 3) i
      · have hn : (((mc.1 (4 + b) 3 >>> (nI i &&& 31)) &&& 1) = 1) = False := by rw [ib_sh hi, hib]; exact eq_false (by decide)
        refine ⟨s_up (s_up y 115 (p + 8 * i) 0) 116 (p + 8 * i) (mc.1 (4 + b) (4 + i)), pt _ _ (by rw [w1, hib]; rfl) (fun _ => w2.symm), fun e g => ?_⟩
        simp (disch := omega) only [md_, jn_, bd_, bdE_, ixl, ix_, llN, lNl, tlN, tNl, eNl, lNN, tNN, eNN, aNl, alN, mlN, nI_add, pk_mul, neg_lt0, if_true, if_false, if_pos, if_neg, up2, uL1, cp2, gdT, gdb_, or_true, true_or, false_or, or_false, and_true, true_and, and_false, false_and, ifb0, ifb1, eq_self, t0, t1, t2, t3, t4, o10, o01, z139a, Bool.false_eq_true, f_X10_reopen_L168, f_X10_at, d3, d4', hn, nar0]
      · have hn : (((mc.1 (4 + b) 3 >>> (nI i &&& 31)) &&& 1) = 1) = True := by rw [ib_sh hi, hib]; exact eq_true rfl
        refine ⟨s_up (s_up y 115 (p + 8 * i) 1) 116 (p + 8 * i) (mc.1 (4 + b) (4 + i)), pt _ _ (by rw [w1, hib]; rfl) (fun _ => w2.symm), fun e g => ?_⟩
        simp (disch := omega) only [md_, jn_, bd_, bdE_, ixl, ix_, llN, lNl, tlN, tNl, eNl, lNN, tNN, eNN, aNl, alN, mlN, nI_add, pk_mul, neg_lt0, if_true, if_false, if_pos, if_neg, up2, uL1, cp2, gdT, gdb_, or_true, true_or, false_or, or_false, and_true, true_and, and_false, false_and, ifb0, ifb1, eq_self, t0, t1, t2, t3, t4, o10, o01, z139a, Bool.false_eq_true, f_X10_reopen_L168, f_X10_at, d3, d4', hn, nar1]
  · rintro e g y -
    simp (disch := omega) only [md_, jn_, bd_, bdE_, ixl, ix_, llN, lNl, tlN, tNl, eNl, lNN, tNN, eNN, aNl, alN, mlN, nI_add, pk_mul, neg_lt0, if_true, if_false, if_pos, if_neg, up2, uL1, cp2, gdT, gdb_, or_true, true_or, false_or, or_false, and_true, true_and, and_false, false_and, ifb0, ifb1, eq_self, t0, t1, t2, t3, t4, o10, o01, z139a, Bool.false_eq_true, f_X10_reopen_L168]
set_option maxRecDepth 100000 in
set_option maxHeartbeats 1000000 in
theorem q_loadL {mc y0 : sM} (hd : rDisk mc y0) {t : Nat} (ht : t < 32) (h5 : y0.1 113 0 = nI t) (hA : enAll mc t 8 = true) : ∃ y, (∀ e, f_X10_reopen_L133 e 5000 0 y0 = e y) ∧ ag (fun a j => ¬ (a = 114 ∧ j < 8) ∧ ¬ ((a = 115 ∨ a = 116) ∧ j < 64)) y0 y ∧
    (∀ q, q < 8 → y.1 114 q = mc.1 (4 + t) (4 + q)) ∧ (∀ k, k < 64 → k % 8 < 8 → y.1 115 k = bi (enH mc t k) ∧ (enH mc t k = true → y.1 116 k = enV mc t k)) := by
  refine Exists.elim (lq1 (fun e g i (y : sM) => f_X10_reopen_L133 e g (nI i) y) (fun p y => ag (fun a j => ¬ (a = 114 ∧ j < 8) ∧ ¬ ((a = 115 ∨ a = 116) ∧ j < 64)) y0 y ∧
    (∀ q, q < p → y.1 114 q = mc.1 (4 + t) (4 + q)) ∧ (∀ k, k < 64 → k % 8 < p → y.1 115 k = bi (enH mc t k) ∧ (enH mc t k = true → y.1 116 k = enV mc t k))) 8 ?_ ?_ 8 0 y0 5000 rfl (by decide) ⟨ag_rf _, fun q h => absurd h (Nat.not_lt_zero _), fun k _ h => absurd h (Nat.not_lt_zero _)⟩) ?_
  rotate_right
  · rintro y ⟨⟨hJ1, hJ2, hJ3⟩, he⟩
    exact ⟨y, he, hJ1, hJ2, hJ3⟩
  · rintro p y hp ⟨j1, j2, j3⟩
    have c5 : y.1 113 0 = nI t := ((j1 113 0 (by omega)).1).trans h5
    have cv : y.1 111 (13 * t + (4 + p)) = mc.1 (4 + t) (4 + p) := by rw [(j1 111 _ (by omega)).1]; exact (hd t (4 + p) ht (by omega)).symm
    have hd2 : rDisk mc (s_up y 114 p (mc.1 (4 + t) (4 + p))) := rDisk_ag (ag_rf _) (ag_up (ag_mo j1 (by intro a j q; omega)) (by omega)) hd
    have hk := enAll_t 8 hA p hp
    unfold enOk at hk
    have hv : (mc.1 (4 + t) (4 + p) = -1 ∧ ∀ i, i < 8 → enH mc t (p + 8 * i) = false) ∨ ∃ b, 2 ≤ b ∧ b < 32 ∧ mc.1 (4 + t) (4 + p) = nI b ∧ ∀ i, i < 8 → enH mc t (p + 8 * i) = ib (mc.1 (4 + b) 3) i ∧ enV mc t (p + 8 * i) = mc.1 (4 + b) (4 + i) := by
      by_cases hm1 : mc.1 (4 + t) (4 + p) = -1
      · refine Or.inl ⟨hm1, fun i hi => ?_⟩
        unfold enH
        rw [show (p + 8 * i) % 8 = p by omega, hm1]; rfl
      · rcases data_or (mc.1 (4 + t) (4 + p)) with hdd | ⟨b, b1, b2, hbv⟩
        · rw [decide_eq_false hm1, isD_f hdd, Bool.false_and, Bool.false_or] at hk
          exact absurd hk (by decide)
        · refine Or.inr ⟨b, b1, b2, hbv, fun i hi => ?_⟩
          unfold enH enV
          rw [show (p + 8 * i) % 8 = p by omega, show (p + 8 * i) / 8 = i by omega, hbv, isD_t b1 b2, Bool.true_and, nI_clamp (by omega)]
          exact ⟨rfl, rfl⟩
    obtain ⟨y2, hy2, l1, l2⟩ := q_ldIn hd2 hp hv
    refine ⟨y2, ⟨fun a j q => ⟨?_, ?_⟩, fun q hq => ?_, fun k hk k1 => ?_⟩, fun e g => ?_⟩
    · rw [(l1 a j (by omega)).1, up1, if_neg (by omega)]; exact (j1 a j q).1
    · rw [(l1 a j (by omega)).2]; exact (j1 a j q).2
    · rw [(l1 114 q (by omega)).1, up1]
      by_cases e : q = p
      · rw [if_pos ⟨rfl, e⟩, e]
      · rw [if_neg (by omega)]; exact j2 q (by omega)
    · by_cases e : k % 8 = p
      · have := l2 (k / 8) (by omega)
        rw [show p + 8 * (k / 8) = k by omega] at this
        exact this
      · rw [(l1 115 k (by omega)).1, (l1 116 k (by omega)).1, up1, if_neg (by omega), up1, if_neg (by omega)]
        exact j3 k hk (by omega)
    · simp (disch := omega) only [md_, jn_, bd_, bdE_, ixl, ix_, llN, lNl, tlN, tNl, eNl, lNN, tNN, eNN, aNl, alN, mlN, nI_add, pk_mul, neg_lt0, if_true, if_false, if_pos, if_neg, up2, uL1, cp2, gdT, gdb_, or_true, true_or, false_or, or_false, and_true, true_and, and_false, false_and, ifb0, ifb1, eq_self, t0, t1, t2, t3, t4, o10, o01, z139a, Bool.false_eq_true, f_X10_reopen_L133, f_X10_at, c5, cv, hy2]
  · rintro e g y -
    simp (disch := omega) only [md_, jn_, bd_, bdE_, ixl, ix_, llN, lNl, tlN, tNl, eNl, lNN, tNN, eNN, aNl, alN, mlN, nI_add, pk_mul, neg_lt0, if_true, if_false, if_pos, if_neg, up2, uL1, cp2, gdT, gdb_, or_true, true_or, false_or, or_false, and_true, true_and, and_false, false_and, ifb0, ifb1, eq_self, t0, t1, t2, t3, t4, o10, o01, z139a, Bool.false_eq_true, f_X10_reopen_L133]
