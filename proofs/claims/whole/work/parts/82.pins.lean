/-! PURE: free blocks, pins, differences, adopt. -/
set_option maxRecDepth 100000 in
set_option maxHeartbeats 4000000 in
theorem q_used {mc mm : sM} {v w b : Nat} (hw : w < 3) (hb : b < 32) (h1 : mm.1 113 w = mc.1 v 5) (h2 : ∀ p, p < 8 → mm.1 114 (8 * w + p) = mc.1 (v + 1) p) : f_X10_isUsedBy (nI w) (nI b) mm = some (.inl (bi (ub mc v b 8)), mm) := by
  unfold f_X10_isUsedBy
  rw [ix_ _ hw (by decide), jn_]
  have key : f_X10_isUsedBy_L19 (nI w) (nI b) mm (fun x3_58 => s_gd (x3_58 = 0 ∨ x3_58 = 1) (some (.inl x3_58, mm))) 5000 (bi (ub mc v b 0)) 0 = some (.inl (bi (ub mc v b 8)), mm) := by
    refine lpE (fun g i (x : Int32) => f_X10_isUsedBy_L19 (nI w) (nI b) mm _ g x (nI i)) (fun i x => x = bi (ub mc v b i)) _ 8 ?_ ?_ 8 0 _ 5000 rfl (by decide) rfl
    · intro i x g hi hx ih
      have := ih _ rfl
      subst hx
      have e := h2 i hi
      rw [ub] at this
      cases hu : ub mc v b i
      · rw [hu, Bool.false_or] at this
        by_cases q : mc.1 (v + 1) i = nI b
        · rw [decide_eq_true q, bi_t] at this
          simp (disch := omega) only [md_, jn_, bd_, bdE_, ixl, ix_, llN, lNl, tlN, tNl, eNl, lNN, tNN, eNN, aNl, alN, mlN, nI_add, pk_mul, neg_lt0, if_true, if_false, if_pos, if_neg, up2, uL1, cp2, gdT, gdb_, or_true, true_or, false_or, or_false, and_true, true_and, and_false, false_and, ifb0, ifb1, eq_self, t0, t1, t2, t3, t4, o10, o01, z139a, f_X10_isUsedBy_L19, bi_f, e, q]
          exact this
        · rw [decide_eq_false q, bi_f] at this
          simp (disch := omega) only [md_, jn_, bd_, bdE_, ixl, ix_, llN, lNl, tlN, tNl, eNl, lNN, tNN, eNN, aNl, alN, mlN, nI_add, pk_mul, neg_lt0, if_true, if_false, if_pos, if_neg, up2, uL1, cp2, gdT, gdb_, or_true, true_or, false_or, or_false, and_true, true_and, and_false, false_and, ifb0, ifb1, eq_self, t0, t1, t2, t3, t4, o10, o01, z139a, f_X10_isUsedBy_L19, bi_f, e, q]
          exact this
      · rw [hu, Bool.true_or, bi_t] at this
        simp (disch := omega) only [md_, jn_, bd_, bdE_, ixl, ix_, llN, lNl, tlN, tNl, eNl, lNN, tNN, eNN, aNl, alN, mlN, nI_add, pk_mul, neg_lt0, if_true, if_false, if_pos, if_neg, up2, uL1, cp2, gdT, gdb_, or_true, true_or, false_or, or_false, and_true, true_and, and_false, false_and, ifb0, ifb1, eq_self, t0, t1, t2, t3, t4, o10, o01, z139a, f_X10_isUsedBy_L19, bi_t]
        exact this
    · intro x g hx
      subst hx
      simp (disch := omega) only [md_, jn_, bd_, bdE_, ixl, ix_, llN, lNl, tlN, tNl, eNl, lNN, tNN, eNN, aNl, alN, mlN, nI_add, pk_mul, neg_lt0, if_true, if_false, if_pos, if_neg, up2, uL1, cp2, gdT, gdb_, or_true, true_or, false_or, or_false, and_true, true_and, and_false, false_and, ifb0, ifb1, eq_self, t0, t1, t2, t3, t4, o10, o01, z139a, f_X10_isUsedBy_L19]
  by_cases q : mc.1 v 5 = nI b
  · rw [ub, decide_eq_true q, bi_t] at key
    rw [h1, if_pos q]
    exact key
  · rw [ub, decide_eq_false q, bi_f] at key
    rw [h1, if_neg q]
    exact key
set_option maxRecDepth 100000 in
set_option maxHeartbeats 4000000 in
theorem R_used {mc mm : sM} {v w b : Nat} (hw : w < 3) (hb : b < 32) (h : rVer mc mm v w) : f_X10_isUsedBy (nI w) (nI b) mm = some (.inl (bi (ub mc v b 8)), mm) :=
  q_used hw hb h.2.1.symm fun p hp => (h.2.2.2.1 p hp).1.symm
set_option maxRecDepth 100000 in
set_option maxHeartbeats 4000000 in
theorem q_free {mc mm : sM} (h : rVer mc mm 36 0) (hp : ∀ p, p < 2 → (mc.1 49 p = 0 ∧ mm.1 117 p = 0) ∨ (mc.1 49 p = 1 ∧ mm.1 117 p = 1 ∧ rVer mc mm (42 + 3 * p) (1 + p))) {b : Nat} (hb : b < 32) : f_X10_isFree (nI b) mm = some (.inl (bi (fre mc b 2)), mm) := by
  unfold f_X10_isFree
  rw [jn_]
  have key : f_X10_isFree_L22 (nI b) (fun x2_63 m63_ => s_gd (x2_63 = 0 ∨ x2_63 = 1) (some (.inl x2_63, m63_))) 5000 (bi (fre mc b 0)) 0 mm = some (.inl (bi (fre mc b 2)), mm) := by
    refine lpE (fun g i (x : Int32) => f_X10_isFree_L22 (nI b) _ g x (nI i) mm) (fun i x => x = bi (fre mc b i)) _ 2 ?_ ?_ 2 0 _ 5000 rfl (by decide) rfl
    · intro i x g hi hx ih
      have := ih _ rfl
      subst hx
      rw [fre] at this
      cases hf : fre mc b i
      · rw [hf, Bool.false_and, bi_f] at this
        simp (disch := omega) only [md_, jn_, bd_, bdE_, ixl, ix_, llN, lNl, tlN, tNl, eNl, lNN, tNN, eNN, aNl, alN, mlN, nI_add, pk_mul, neg_lt0, if_true, if_false, if_pos, if_neg, up2, uL1, cp2, gdT, gdb_, or_true, true_or, false_or, or_false, and_true, true_and, and_false, false_and, ifb0, ifb1, eq_self, t0, t1, t2, t3, t4, o10, o01, z139a, f_X10_isFree_L22, bi_f]
        exact this
      · rw [hf, Bool.true_and] at this
        rcases hp i hi with ⟨e1, e2⟩ | ⟨e1, e2, hv⟩
        · rw [e1, decide_eq_false (by decide), Bool.false_and, Bool.not_false, bi_t] at this
          simp (disch := omega) only [md_, jn_, bd_, bdE_, ixl, ix_, llN, lNl, tlN, tNl, eNl, lNN, tNN, eNN, aNl, alN, mlN, nI_add, pk_mul, neg_lt0, if_true, if_false, if_pos, if_neg, up2, uL1, cp2, gdT, gdb_, or_true, true_or, false_or, or_false, and_true, true_and, and_false, false_and, ifb0, ifb1, eq_self, t0, t1, t2, t3, t4, o10, o01, z139a, f_X10_isFree_L22, bi_t, e2]
          exact this
        · have hu := R_used (w := 1 + i) (by omega) hb hv
          rw [e1, decide_eq_true rfl, Bool.true_and] at this
          cases hub : ub mc (42 + 3 * i) b 8
          · rw [hub] at hu this
            rw [Bool.not_false, bi_t] at this
            simp (disch := omega) only [md_, jn_, bd_, bdE_, ixl, ix_, llN, lNl, tlN, tNl, eNl, lNN, tNN, eNN, aNl, alN, mlN, nI_add, pk_mul, neg_lt0, if_true, if_false, if_pos, if_neg, up2, uL1, cp2, gdT, gdb_, or_true, true_or, false_or, or_false, and_true, true_and, and_false, false_and, ifb0, ifb1, eq_self, t0, t1, t2, t3, t4, o10, o01, z139a, f_X10_isFree_L22, bi_t, bi_f, e2, hu]
            exact this
          · rw [hub] at hu this
            rw [Bool.not_true, bi_f] at this
            simp (disch := omega) only [md_, jn_, bd_, bdE_, ixl, ix_, llN, lNl, tlN, tNl, eNl, lNN, tNN, eNN, aNl, alN, mlN, nI_add, pk_mul, neg_lt0, if_true, if_false, if_pos, if_neg, up2, uL1, cp2, gdT, gdb_, or_true, true_or, false_or, or_false, and_true, true_and, and_false, false_and, ifb0, ifb1, eq_self, t0, t1, t2, t3, t4, o10, o01, z139a, f_X10_isFree_L22, bi_t, bi_f, e2, hu]
            exact this
    · intro x g hx
      subst hx
      simp (disch := omega) only [md_, jn_, bd_, bdE_, ixl, ix_, llN, lNl, tlN, tNl, eNl, lNN, tNN, eNN, aNl, alN, mlN, nI_add, pk_mul, neg_lt0, if_true, if_false, if_pos, if_neg, up2, uL1, cp2, gdT, gdb_, or_true, true_or, false_or, or_false, and_true, true_and, and_false, false_and, ifb0, ifb1, eq_self, t0, t1, t2, t3, t4, o10, o01, z139a, f_X10_isFree_L22]
  have hu : f_X10_isUsedBy 0 (nI b) mm = some (.inl (bi (ub mc 36 b 8)), mm) := R_used (w := 0) (by decide) hb h
  rw [jn_]
  by_cases q : b < 2
  · rw [fre, decide_eq_false (by omega), Bool.false_and, bi_f] at key
    have q2 : nI b < 2 := nI_lt q (by decide)
    rw [if_pos q2]
    exact key
  · have q2 : ¬ nI b < 2 := nI_nlt (a := b) (b := 2) (by omega) (by omega)
    rw [fre, decide_eq_true ⟨by omega, hb⟩, Bool.true_and] at key
    rw [if_neg q2, hu, bd_]
    cases hub : ub mc 36 b 8
    · rw [hub, Bool.not_false, bi_t] at key
      rw [if_pos bi_f]
      exact key
    · rw [hub, Bool.not_true, bi_f] at key
      rw [if_neg (by decide)]
      exact key
set_option maxRecDepth 100000 in
set_option maxHeartbeats 4000000 in
theorem R_free {mc mm : sM} (h : R mc mm) {b : Nat} (hb : b < 32) : f_X10_isFree (nI b) mm = some (.inl (bi (fre mc b 2)), mm) := q_free h.2.2.1.1 (fun _ hp => R_pin h hp) hb
set_option maxRecDepth 100000 in
set_option maxHeartbeats 4000000 in
theorem fre_hi (m : sM) {b : Nat} (hb : 32 ≤ b) : ∀ n, fre m b n = false
  | 0 => by rw [fre, decide_eq_false (by omega), Bool.false_and]
  | n + 1 => by rw [fre, fre_hi m hb n, Bool.false_and]
set_option maxRecDepth 100000 in
set_option maxHeartbeats 4000000 in
theorem fre_lo (m : sM) {b : Nat} (hb : b < 2) : ∀ n, fre m b n = false
  | 0 => by rw [fre, decide_eq_false (by omega), Bool.false_and]
  | n + 1 => by rw [fre, fre_lo m hb n, Bool.false_and]
set_option maxRecDepth 100000 in
set_option maxHeartbeats 4000000 in
theorem fre_ct (m : sM) : fb_ct (fun b => fre m b 2) 64 = fb_ct (fun b => fre m b 2) 32 := by
  rw [show 64 = 32 + 32 from rfl, fb_ct_split]
  have : fb_ct (fun k => fre m (32 + k) 2) 32 = 0 := fb_ct_zero.mpr fun k _ => fre_hi m (by omega) 2
  rw [this, Nat.add_zero]
set_option maxRecDepth 100000 in
set_option maxHeartbeats 4000000 in
theorem R_cfree {mc mm : sM} (h : R mc mm) : ∃ x, f_X9_freeBlocks mc = some (.inl x, mc) ∧ (∀ b, b < 64 → lb x b = fre mc b 2) ∧ fb_ct (lb x) 64 = fb_ct (fun b => fre mc b 2) 32 := by
  obtain ⟨x, hx, hb⟩ := p_free (rVer_ok h.2.2.1.1) (fun p hp => by
    rcases R_pin h hp with ⟨e, -⟩ | ⟨e, -, hv⟩
    · exact Or.inl e
    · exact Or.inr ⟨e, rVer_ok hv⟩)
  exact ⟨x, hx, hb, by rw [← fre_ct]; exact fb_ct_cong hb⟩
set_option maxRecDepth 100000 in
set_option maxHeartbeats 4000000 in
theorem R_mfree {mc mm : sM} (h : R mc mm) : f_X10_freeBlocks mm = some (.inl (nI (fb_ct (fun b => fre mc b 2) 32)), mm) := by
  unfold f_X10_freeBlocks
  rw [jn_]
  refine lpE (fun g i (x : Int32) => f_X10_freeBlocks_L4 _ g x (nI i) mm) (fun i x => x = nI (fb_ct (fun b => fre mc b 2) i)) _ 32 ?_ ?_ 32 0 _ 5000 rfl (by decide) rfl
  · intro i x g hi hx ih
    have := ih _ rfl
    subst hx
    rw [fb_ct_succ] at this
    have e := R_free h hi
    cases hf : fre mc i 2
    · rw [hf] at e this
      simp (disch := omega) only [md_, jn_, bd_, bdE_, ixl, ix_, llN, lNl, tlN, tNl, eNl, lNN, tNN, eNN, aNl, alN, mlN, nI_add, pk_mul, neg_lt0, if_true, if_false, if_pos, if_neg, up2, uL1, cp2, gdT, gdb_, or_true, true_or, false_or, or_false, and_true, true_and, and_false, false_and, ifb0, ifb1, eq_self, t0, t1, t2, t3, t4, o10, o01, z139a, f_X10_freeBlocks_L4, e, bi_f]
      exact this
    · rw [hf] at e this
      simp (disch := omega) only [md_, jn_, bd_, bdE_, ixl, ix_, llN, lNl, tlN, tNl, eNl, lNN, tNN, eNN, aNl, alN, mlN, nI_add, pk_mul, neg_lt0, if_true, if_false, if_pos, if_neg, up2, uL1, cp2, gdT, gdb_, or_true, true_or, false_or, or_false, and_true, true_and, and_false, false_and, ifb0, ifb1, eq_self, t0, t1, t2, t3, t4, o10, o01, z139a, f_X10_freeBlocks_L4, e, bi_t]
      exact this
  · intro x g hx
    subst hx
    simp (disch := omega) only [md_, jn_, bd_, bdE_, ixl, ix_, llN, lNl, tlN, tNl, eNl, lNN, tNN, eNN, aNl, alN, mlN, nI_add, pk_mul, neg_lt0, if_true, if_false, if_pos, if_neg, up2, uL1, cp2, gdT, gdb_, or_true, true_or, false_or, or_false, and_true, true_and, and_false, false_and, ifb0, ifb1, eq_self, t0, t1, t2, t3, t4, o10, o01, z139a, f_X10_freeBlocks_L4]
set_option maxRecDepth 100000 in
set_option maxHeartbeats 4000000 in
theorem k_freeCount {mc mm : sM} (h : R mc mm) : Agr [eIS] (f_X9_freeCount mc) (f_X10_freeCount mm) := by
  rcases R_open h with ⟨o1, o2⟩ | ⟨o1, o2⟩
  · refine Agr_ex (v := 0) 0 (mc' := mc) (mm' := s_up mm 110 0 1) ?_ ?_ (R_thr h) rfl (upS _ _ _ _)
    · unfold f_X9_freeCount; rw [p_openE o1, bdE_]
    · simp (disch := omega) only [md_, jn_, bd_, bdE_, ixl, ix_, llN, lNl, tlN, tNl, eNl, lNN, tNN, eNN, aNl, alN, mlN, nI_add, pk_mul, neg_lt0, if_true, if_false, if_pos, if_neg, up2, uL1, cp2, gdT, gdb_, or_true, true_or, false_or, or_false, and_true, true_and, and_false, false_and, ifb0, ifb1, eq_self, t0, t1, t2, t3, t4, o10, o01, z139a, f_X10_freeCount, o2, upS]
  · obtain ⟨x, x1, x2, x3⟩ := R_cfree h
    refine Agr_ok (v := nI (fb_ct (fun b => fre mc b 2) 32)) (mc' := mc) (mm' := s_up mm 110 0 0) ?_ ?_ (R_thr h) (upS _ _ _ _)
    · unfold f_X9_freeCount; rw [p_open o1, bd_, x1, bd_, p_bits, bd_, x3]
    · simp (disch := omega) only [md_, jn_, bd_, bdE_, ixl, ix_, llN, lNl, tlN, tNl, eNl, lNN, tNN, eNN, aNl, alN, mlN, nI_add, pk_mul, neg_lt0, if_true, if_false, if_pos, if_neg, up2, uL1, cp2, gdT, gdb_, or_true, true_or, false_or, or_false, and_true, true_and, and_false, false_and, ifb0, ifb1, eq_self, t0, t1, t2, t3, t4, o10, o01, z139a, f_X10_freeCount, o2, upS, R_mfree (R_thr (t := 0) h)]
set_option maxRecDepth 100000 in
set_option maxHeartbeats 4000000 in
theorem q_freeB {mc mm : sM} {k i : Nat} (h : R mc mm) (hi : i < 32) (h1 : fre mc i 2 = true) (h2 : fb_ct (fun b => fre mc b 2) i = k) (e : sM → Option (sR Int32)) (r : Int32 → sM → Option (sR Int32)) : f_X10_freeBlock_L29 e r 5000 (nI k) 2 mm = r (nI i) mm := by
  have hk : k ≤ 32 := by rw [← h2]; exact Nat.le_trans (fb_ct_le _ _) (by omega)
  have hi2 : 2 ≤ i := by
    rcases Nat.lt_or_ge i 2 with q | q
    · rw [fre_lo mc q] at h1; exact absurd h1 (by decide)
    · exact q
  have h02 : fb_ct (fun b => fre mc b 2) 2 = 0 := fb_ct_zero.mpr fun b hb => fre_lo mc hb 2
  refine lpE (fun g j (y : Int32) => f_X10_freeBlock_L29 e r g y (nI j) mm) (fun j y => y = nI (k - fb_ct (fun b => fre mc b 2) j) ∧ fb_ct (fun b => fre mc b 2) j ≤ k) _ i ?_ ?_ (i - 2) 2 _ 5000 (by omega) (by omega) ⟨by rw [h02]; rfl, by rw [h02]; exact Nat.zero_le _⟩
  · intro j y g hj hy ih
    obtain ⟨rfl, hle⟩ := hy
    have hc := R_free h (show j < 32 by omega)
    cases hb : fre mc j 2
    · rw [hb] at hc
      have := ih (nI (k - fb_ct (fun b => fre mc b 2) j)) (by rw [fb_ct_succ, hb]; exact ⟨rfl, hle⟩)
      simp (disch := omega) only [md_, jn_, bd_, bdE_, ixl, ix_, llN, lNl, tlN, tNl, eNl, lNN, tNN, eNN, aNl, alN, mlN, nI_add, pk_mul, neg_lt0, if_true, if_false, if_pos, if_neg, up2, uL1, cp2, gdT, gdb_, or_true, true_or, false_or, or_false, and_true, true_and, and_false, false_and, ifb0, ifb1, eq_self, t0, t1, t2, t3, t4, o10, o01, z139a, f_X10_freeBlock_L29, hc, bi_f]
      exact this
    · rw [hb] at hc
      have hlt : fb_ct (fun b => fre mc b 2) j < k := by
        have := fb_ct_mono (fun b => fre mc b 2) (show j + 1 ≤ i from hj)
        rw [fb_ct_succ, hb] at this
        simp only [if_true] at this
        omega
      have e : k - fb_ct (fun b => fre mc b 2) j - 1 = k - fb_ct (fun b => fre mc b 2) (j + 1) := by rw [fb_ct_succ, hb]; simp only [if_true]; omega
      have := ih (nI (k - fb_ct (fun b => fre mc b 2) (j + 1))) (by rw [fb_ct_succ, hb]; simp only [if_true]; exact ⟨trivial, by omega⟩)
      rw [← e] at this
      simp (disch := omega) only [md_, jn_, bd_, bdE_, ixl, ix_, llN, lNl, tlN, tNl, eNl, lNN, tNN, eNN, aNl, alN, mlN, nI_add, pk_mul, neg_lt0, if_true, if_false, if_pos, if_neg, up2, uL1, cp2, gdT, gdb_, or_true, true_or, false_or, or_false, and_true, true_and, and_false, false_and, ifb0, ifb1, eq_self, t0, t1, t2, t3, t4, o10, o01, z139a, f_X10_freeBlock_L29, hc, bi_t, m1N]
      exact this
  · intro y g hy
    obtain ⟨rfl, hle⟩ := hy
    have e : k - fb_ct (fun b => fre mc b 2) i = 0 := by omega
    have hc := R_free h hi
    rw [h1] at hc
    simp (disch := omega) only [md_, jn_, bd_, bdE_, ixl, ix_, llN, lNl, tlN, tNl, eNl, lNN, tNN, eNN, aNl, alN, mlN, nI_add, pk_mul, neg_lt0, if_true, if_false, if_pos, if_neg, up2, uL1, cp2, gdT, gdb_, or_true, true_or, false_or, or_false, and_true, true_and, and_false, false_and, ifb0, ifb1, eq_self, t0, t1, t2, t3, t4, o10, o01, z139a, f_X10_freeBlock_L29, hc, bi_t, e]
set_option maxRecDepth 100000 in
set_option maxHeartbeats 4000000 in
theorem q_freeBN {mc mm : sM} {k : Nat} (h : R mc mm) (hk : k < 2 ^ 31) (h2 : fb_ct (fun b => fre mc b 2) 32 ≤ k) (e : sM → Option (sR Int32)) (r : Int32 → sM → Option (sR Int32)) : f_X10_freeBlock_L29 e r 5000 (nI k) 2 mm = e mm := by
  have h02 : fb_ct (fun b => fre mc b 2) 2 = 0 := fb_ct_zero.mpr fun b hb => fre_lo mc hb 2
  refine lpE (fun g j (y : Int32) => f_X10_freeBlock_L29 e r g y (nI j) mm) (fun j y => y = nI (k - fb_ct (fun b => fre mc b 2) j)) _ 32 ?_ ?_ 30 2 _ 5000 (by omega) (by omega) (by rw [h02]; rfl)
  · intro j y g hj hy ih
    subst hy
    have hc := R_free h hj
    have hmo := fb_ct_mono (fun b => fre mc b 2) (show j + 1 ≤ 32 from hj)
    cases hb : fre mc j 2
    · rw [hb] at hc
      have := ih (nI (k - fb_ct (fun b => fre mc b 2) j)) (by rw [fb_ct_succ, hb]; rfl)
      simp (disch := omega) only [md_, jn_, bd_, bdE_, ixl, ix_, llN, lNl, tlN, tNl, eNl, lNN, tNN, eNN, aNl, alN, mlN, nI_add, pk_mul, neg_lt0, if_true, if_false, if_pos, if_neg, up2, uL1, cp2, gdT, gdb_, or_true, true_or, false_or, or_false, and_true, true_and, and_false, false_and, ifb0, ifb1, eq_self, t0, t1, t2, t3, t4, o10, o01, z139a, f_X10_freeBlock_L29, hc, bi_f]
      exact this
    · rw [hb] at hc
      rw [fb_ct_succ, hb] at hmo
      simp only [if_true] at hmo
      have e : k - fb_ct (fun b => fre mc b 2) j - 1 = k - fb_ct (fun b => fre mc b 2) (j + 1) := by rw [fb_ct_succ, hb]; simp only [if_true]; omega
      have := ih _ rfl
      rw [← e] at this
      simp (disch := omega) only [md_, jn_, bd_, bdE_, ixl, ix_, llN, lNl, tlN, tNl, eNl, lNN, tNN, eNN, aNl, alN, mlN, nI_add, pk_mul, neg_lt0, if_true, if_false, if_pos, if_neg, up2, uL1, cp2, gdT, gdb_, or_true, true_or, false_or, or_false, and_true, true_and, and_false, false_and, ifb0, ifb1, eq_self, t0, t1, t2, t3, t4, o10, o01, z139a, f_X10_freeBlock_L29, hc, bi_t, m1N]
      exact this
  · intro y g hy
    simp (disch := omega) only [md_, jn_, bd_, bdE_, ixl, ix_, llN, lNl, tlN, tNl, eNl, lNN, tNN, eNN, aNl, alN, mlN, nI_add, pk_mul, neg_lt0, if_true, if_false, if_pos, if_neg, up2, uL1, cp2, gdT, gdb_, or_true, true_or, false_or, or_false, and_true, true_and, and_false, false_and, ifb0, ifb1, eq_self, t0, t1, t2, t3, t4, o10, o01, z139a, f_X10_freeBlock_L29]
set_option maxRecDepth 100000 in
set_option maxHeartbeats 4000000 in
theorem q_freeBB {m : sM} {y : Int32} (hy : y < 0) (e : sM → Option (sR Int32)) (r : Int32 → sM → Option (sR Int32)) : f_X10_freeBlock_L29 e r 5000 y 2 m = e m := by
  refine lpE (fun g j (x : Int32) => f_X10_freeBlock_L29 e r g x (nI j) m) (fun j x => x = y ∧ j = 2) _ 2 ?_ ?_ 0 2 _ 5000 (by omega) (by omega) ⟨rfl, rfl⟩
  · intro j x g hj hx
    exact absurd hx.2 (by omega)
  · intro x g hx
    obtain ⟨rfl, -⟩ := hx
    simp (disch := omega) only [md_, jn_, bd_, bdE_, ixl, ix_, llN, lNl, tlN, tNl, eNl, lNN, tNN, eNN, aNl, alN, mlN, nI_add, pk_mul, neg_lt0, if_true, if_false, if_pos, if_neg, up2, uL1, cp2, gdT, gdb_, or_true, true_or, false_or, or_false, and_true, true_and, and_false, false_and, ifb0, ifb1, eq_self, t0, t1, t2, t3, t4, o10, o01, z139a, f_X10_freeBlock_L29, hy]
set_option maxRecDepth 100000 in
set_option maxHeartbeats 4000000 in
theorem k_freeBlock {mc mm : sM} (h : R mc mm) (p1 : Int32) : Agr [eIS, eIO] (f_X9_freeBlock p1 mc) (f_X10_freeBlock p1 mm) := by
  rcases R_open h with ⟨o1, o2⟩ | ⟨o1, o2⟩
  · refine Agr_ex (v := 0) 0 (mc' := mc) (mm' := s_up mm 110 0 1) ?_ ?_ (R_thr h) rfl (upS _ _ _ _)
    · unfold f_X9_freeBlock; rw [p_openE o1, bdE_]
    · simp (disch := omega) only [md_, jn_, bd_, bdE_, ixl, ix_, llN, lNl, tlN, tNl, eNl, lNN, tNN, eNN, aNl, alN, mlN, nI_add, pk_mul, neg_lt0, if_true, if_false, if_pos, if_neg, up2, uL1, cp2, gdT, gdb_, or_true, true_or, false_or, or_false, and_true, true_and, and_false, false_and, ifb0, ifb1, eq_self, t0, t1, t2, t3, t4, o10, o01, z139a, f_X10_freeBlock, o2, upS]
  have hm := R_thr (t := 0) h
  obtain ⟨x, x1, x2, x3⟩ := R_cfree h
  have hct : fb_ct (fun b => fre mc b 2) 32 ≤ 32 := fb_ct_le _ _
  rcases bad_or (fb_ct (fun b => fre mc b 2) 32) (by omega) p1 with hb | ⟨k, hk, rfl⟩
  · refine Agr_ex (v := 0) 1 (mc' := mc) (mm' := s_up (s_up mm 110 0 0) 110 0 2) ?_ ?_ (R_thr hm) rfl (upS _ _ _ _)
    · unfold f_X9_freeBlock; rw [p_open o1, bd_, x1, bd_, p_bits, bd_, x3, p_riE hb, bdE_]
    · simp (disch := omega) only [md_, jn_, bd_, bdE_, ixl, ix_, llN, lNl, tlN, tNl, eNl, lNN, tNN, eNN, aNl, alN, mlN, nI_add, pk_mul, neg_lt0, if_true, if_false, if_pos, if_neg, up2, uL1, cp2, gdT, gdb_, or_true, true_or, false_or, or_false, and_true, true_and, and_false, false_and, ifb0, ifb1, eq_self, t0, t1, t2, t3, t4, o10, o01, z139a, f_X10_freeBlock, o2, upS]
      rcases bad_nat hb (by omega) with h0 | ⟨k, k1, k2, rfl⟩
      · rw [q_freeBB h0]; simp (disch := omega) only [md_, jn_, bd_, bdE_, ixl, ix_, llN, lNl, tlN, tNl, eNl, lNN, tNN, eNN, aNl, alN, mlN, nI_add, pk_mul, neg_lt0, if_true, if_false, if_pos, if_neg, up2, uL1, cp2, gdT, gdb_, or_true, true_or, false_or, or_false, and_true, true_and, and_false, false_and, ifb0, ifb1, eq_self, t0, t1, t2, t3, t4, o10, o01, z139a, f_X10_fails]
      · rw [q_freeBN hm k1 k2]; simp (disch := omega) only [md_, jn_, bd_, bdE_, ixl, ix_, llN, lNl, tlN, tNl, eNl, lNN, tNN, eNN, aNl, alN, mlN, nI_add, pk_mul, neg_lt0, if_true, if_false, if_pos, if_neg, up2, uL1, cp2, gdT, gdb_, or_true, true_or, false_or, or_false, and_true, true_and, and_false, false_and, ifb0, ifb1, eq_self, t0, t1, t2, t3, t4, o10, o01, z139a, f_X10_fails]
  · obtain ⟨i, i1, i2, i3⟩ := fb_ct_kth hk
    refine Agr_ok (v := nI i) (mc' := mc) (mm' := s_up mm 110 0 0) ?_ ?_ hm (upS _ _ _ _)
    · have hx : lb x i = true := by rw [x2 i (by omega)]; exact i2
      have hxc : fb_ct (lb x) i = k := by rw [← i3]; exact fb_ct_cong fun b hb => x2 b (by omega)
      unfold f_X9_freeBlock; rw [p_open o1, bd_, x1, bd_, p_bits, bd_, x3, p_ri hk (by omega), bd_, p_mem (by omega) hx hxc, bd_]
    · simp (disch := omega) only [md_, jn_, bd_, bdE_, ixl, ix_, llN, lNl, tlN, tNl, eNl, lNN, tNN, eNN, aNl, alN, mlN, nI_add, pk_mul, neg_lt0, if_true, if_false, if_pos, if_neg, up2, uL1, cp2, gdT, gdb_, or_true, true_or, false_or, or_false, and_true, true_and, and_false, false_and, ifb0, ifb1, eq_self, t0, t1, t2, t3, t4, o10, o01, z139a, f_X10_freeBlock, o2, upS]
      rw [q_freeB hm i1 i2 i3]
/-! unpin and pin -/
set_option maxRecDepth 100000 in
set_option maxHeartbeats 4000000 in
theorem vp_nar0 : vp_nar .boolean 0 = 0 := nar0
set_option maxRecDepth 100000 in
set_option maxHeartbeats 4000000 in
theorem R_pins {mc mc' mm mm' : sM} (h : R mc mm) (hc : ag (fun a j => dcAll a j ∧ ¬ dcPins a j) mc mc') (hm : ag (fun a j => dmAll a j ∧ ¬ dmPins a j) mm mm') (hp : rPins mc' mm') : R mc' mm' := by
  obtain ⟨h1, h2, h3, h4, h5, h6, h7, h8, h9, h10, h11⟩ := h
  refine ⟨rDisk_ag (ag_mo hc ?_) (ag_mo hm ?_) h1, rOpen_ag (ag_mo hc ?_) (ag_mo hm ?_) h2, rPres_ag (ag_mo hc ?_) (ag_mo hm ?_) h3, hp, fun s hs => rSlot_ag (ag_mo hc ?_) (ag_mo hm ?_) (h5 s hs), rOrd_ag (fun a j q => (hc a j (by omega)).1) (ag_mo hm ?_) h6, rIn_ag (ag_mo hc ?_) (ag_mo hm ?_) h7, rOut_ag (ag_mo hc ?_) (ag_mo hm ?_) h8, rLog_ag (ag_mo hc ?_) (ag_mo hm ?_) h9, rStat_ag (ag_mo hc ?_) (ag_mo hm ?_) h10, rSalv_ag (ag_mo hc ?_) (ag_mo hm ?_) h11⟩ <;> (intro a j q; omega)
set_option maxRecDepth 100000 in
set_option maxHeartbeats 4000000 in
theorem R_unpin {mc mm : sM} (h : R mc mm) {p : Nat} (hp : p < 2) : R (s_up mc 49 p 0) (s_up mm 117 p 0) := by
  refine R_pins h (ag_up (ag_rf _) (by omega)) (ag_up (ag_rf _) (by omega)) fun t ht => ?_
  by_cases q : t = p
  · subst q
    exact ⟨false, upS _ _ _ _, upS _ _ _ _, fun e => absurd e (by decide)⟩
  · obtain ⟨b, b1, b2, b3⟩ := h.2.2.2.1 t ht
    refine ⟨b, ?_, ?_, fun e => rVer_ag (ag_up (ag_rf _) (by omega)) (ag_up (ag_rf _) (by omega)) (b3 e)⟩
    · rw [up1, if_neg (by omega)]; exact b1
    · rw [up1, if_neg (by omega)]; exact b2
set_option maxRecDepth 100000 in
set_option maxHeartbeats 4000000 in
theorem k_unpin {mc mm : sM} (h : R mc mm) (p1 : Int32) : Agr [eIO, eIS] (f_X9_unpin p1 mc) (f_X10_unpin p1 mm) := by
  rcases bad_or 2 (by decide) p1 with hb | ⟨p, hp, rfl⟩
  · refine Agr_ex (v := 0) 0 (mc' := mc) (mm' := s_up mm 110 0 1) ?_ ?_ (R_thr h) rfl (upS _ _ _ _)
    · unfold f_X9_unpin; rw [p_riLE hb, bdE_]
    · simp (disch := omega) only [md_, jn_, bd_, bdE_, ixl, ix_, llN, lNl, tlN, tNl, eNl, lNN, tNN, eNN, aNl, alN, mlN, nI_add, pk_mul, neg_lt0, if_true, if_false, if_pos, if_neg, up2, uL1, cp2, gdT, gdb_, or_true, true_or, false_or, or_false, and_true, true_and, and_false, false_and, ifb0, ifb1, eq_self, t0, t1, t2, t3, t4, o10, o01, z139a, f_X10_unpin, q_pinE hb, upS]
  rcases R_pin h hp with ⟨o1, o2⟩ | ⟨o1, o2, hv⟩
  · refine Agr_ex (v := 0) 1 (mc' := mc) (mm' := s_up mm 110 0 2) ?_ ?_ (R_thr h) rfl (upS _ _ _ _)
    · unfold f_X9_unpin; rw [p_riL hp (by decide), bd_, p_pinnedE hp o1, bdE_]
    · simp (disch := omega) only [md_, jn_, bd_, bdE_, ixl, ix_, llN, lNl, tlN, tNl, eNl, lNN, tNN, eNN, aNl, alN, mlN, nI_add, pk_mul, neg_lt0, if_true, if_false, if_pos, if_neg, up2, uL1, cp2, gdT, gdb_, or_true, true_or, false_or, or_false, and_true, true_and, and_false, false_and, ifb0, ifb1, eq_self, t0, t1, t2, t3, t4, o10, o01, z139a, f_X10_unpin, q_pin hp, o2, upS]
  · have hm := R_thr (t := 0) h
    have hu := R_unpin hm hp
    obtain ⟨x, x1, x2, x3⟩ := R_cfree h
    obtain ⟨y, y1, y2, y3⟩ := R_cfree hu
    refine Agr_ok (v := nI (fb_ct (fun b => fre (s_up mc 49 p 0) b 2) 32) - nI (fb_ct (fun b => fre mc b 2) 32)) (mc' := s_up mc 49 p 0) (mm' := s_up (s_up mm 110 0 0) 117 p 0) ?_ ?_ hu ?_
    · unfold f_X9_unpin; rw [p_riL hp (by decide), bd_, p_pinned hp o1, bd_, x1, bd_, p_bits, bd_, ix_ _ hp (by decide), md_, nar0, y1, bd_, p_bits, bd_, x3, y3]
    · simp (disch := omega) only [md_, jn_, bd_, bdE_, ixl, ix_, llN, lNl, tlN, tNl, eNl, lNN, tNN, eNN, aNl, alN, mlN, nI_add, pk_mul, neg_lt0, if_true, if_false, if_pos, if_neg, up2, uL1, cp2, gdT, gdb_, or_true, true_or, false_or, or_false, and_true, true_and, and_false, false_and, ifb0, ifb1, eq_self, t0, t1, t2, t3, t4, o10, o01, z139a, f_X10_unpin, q_pin hp, o2, upS, R_mfree hm, nar0, R_mfree hu]
    · rw [up1, if_neg (by omega)]; exact upS _ _ _ _
/-- the class's copy of a version -/
def x_cpV (a a1 : Nat) (m : sM) : sM := s_up (s_up (s_up (s_uL (s_cp (s_cp m (a1 + 1) (a + 1) 0 0 8) (a1 + 2) (a + 2) 0 0 64) a 2 (m.2 a1 2)) a 3 (m.1 a1 3)) a 4 (m.1 a1 4)) a 5 (m.1 a1 5)
set_option maxRecDepth 100000 in
set_option maxHeartbeats 4000000 in
theorem p_cpV {a a1 : Nat} (h : a1 + 3 ≤ a ∨ a + 3 ≤ a1) (m : sM) : f_X8_copyFrom a a1 m = some (.inl (), x_cpV a a1 m) := by
  unfold f_X8_copyFrom
  rw [gd_ ⟨by decide, by decide, by decide, by decide, by decide, fun _ _ => rfl⟩, md_, gd_ ⟨by decide, by decide, by decide, by decide, by decide, fun _ _ => rfl⟩, md_, md_, md_, md_, md_]
  have e0 : (0 : Int32).toNatClampNeg = 0 := by decide
  have e8 : (8 : Int32).toNatClampNeg = 8 := by decide
  have e64 : (64 : Int32).toNatClampNeg = 64 := by decide
  rw [e0, e8, e64]
  have c3 : ∀ j, (s_uL (s_cp (s_cp m (a1 + 1) (a + 1) 0 0 8) (a1 + 2) (a + 2) 0 0 64) a 2 (m.2 a1 2)).1 a1 j = m.1 a1 j := fun j => by
    rw [uL1, cp1, if_neg (by omega), cp1, if_neg (by omega)]
  simp only [cp2]
  unfold x_cpV
  rw [c3 3, up1 _ a 3, if_neg (by omega), c3 4, up1 _ a 4, if_neg (by omega), up1 _ a 3, if_neg (by omega), c3 5]
set_option maxRecDepth 100000 in
set_option maxHeartbeats 4000000 in
theorem cpV1 {a a1 : Nat} (h : a1 + 3 ≤ a ∨ a + 3 ≤ a1) (m : sM) (b j : Nat) : (x_cpV a a1 m).1 b j = if b = a ∧ (j = 3 ∨ j = 4 ∨ j = 5) then m.1 a1 j else if b = a + 2 ∧ j < 64 then m.1 (a1 + 2) j else if b = a + 1 ∧ j < 8 then m.1 (a1 + 1) j else m.1 b j := by
  unfold x_cpV
  rw [up1, up1, up1, uL1, cp1, cp1, cp1]
  by_cases h1 : b = a ∧ (j = 3 ∨ j = 4 ∨ j = 5)
  · rw [if_pos h1]
    rcases h1.2 with rfl | rfl | rfl
    · rw [if_neg (by omega), if_neg (by omega), if_pos (by omega)]
    · rw [if_neg (by omega), if_pos (by omega)]
    · rw [if_pos (by omega)]
  · rw [if_neg h1, if_neg (by omega), if_neg (by omega), if_neg (by omega)]
    by_cases h2 : b = a + 2 ∧ j < 64
    · rw [if_pos h2, if_pos (by omega), if_neg (by omega), show 0 + (j - 0) = j by omega]
    · rw [if_neg h2, if_neg (by omega)]
      by_cases h3 : b = a + 1 ∧ j < 8
      · rw [if_pos h3, if_pos (by omega), show 0 + (j - 0) = j by omega]
      · rw [if_neg h3, if_neg (by omega)]
set_option maxRecDepth 100000 in
set_option maxHeartbeats 4000000 in
theorem cpV2 (a a1 : Nat) (m : sM) : (x_cpV a a1 m).2 a 2 = m.2 a1 2 := by
  unfold x_cpV
  rw [up2, up2, up2, uL2, if_pos ⟨rfl, rfl⟩]
set_option maxRecDepth 100000 in
set_option maxHeartbeats 4000000 in
theorem cpV_ag {P : Nat → Nat → Prop} {a a1 : Nat} {m m1 : sM} (h : ag P m m1) (hp : ∀ b j, a ≤ b → b < a + 3 → ¬ P b j) : ag P m (x_cpV a a1 m1) :=
  ag_up (ag_up (ag_up (ag_uL (ag_cp (ag_cp h fun j _ _ => hp _ _ (by omega) (by omega)) fun j _ _ => hp _ _ (by omega) (by omega)) (hp _ _ (by omega) (by omega))) (hp _ _ (by omega) (by omega))) (hp _ _ (by omega) (by omega))) (hp _ _ (by omega) (by omega))
/-- the reference's pin -/
def y_pin (p : Nat) (m : sM) : sM := s_cp (s_cp (s_cp (s_up (s_up (s_up m 117 p 1) 112 (1 + p) (m.1 112 0)) 113 (1 + p) (m.1 113 0)) 114 114 0 (8 * (1 + p)) 8) 115 115 0 (64 * (1 + p)) 64) 116 116 0 (64 * (1 + p)) 64
set_option maxRecDepth 100000 in
set_option maxHeartbeats 4000000 in
theorem ypin1 {p : Nat} (hp : p < 2) (m : sM) (b j : Nat) : (y_pin p m).1 b j = if b = 116 ∧ 64 * (1 + p) ≤ j ∧ j < 64 * (1 + p) + 64 then m.1 116 (j - 64 * (1 + p)) else if b = 115 ∧ 64 * (1 + p) ≤ j ∧ j < 64 * (1 + p) + 64 then m.1 115 (j - 64 * (1 + p)) else if b = 114 ∧ 8 * (1 + p) ≤ j ∧ j < 8 * (1 + p) + 8 then m.1 114 (j - 8 * (1 + p)) else if b = 113 ∧ j = 1 + p then m.1 113 0 else if b = 112 ∧ j = 1 + p then m.1 112 0 else if b = 117 ∧ j = p then 1 else m.1 b j := by
  unfold y_pin
  have e1 : ∀ x, (s_cp (s_cp (s_up (s_up (s_up m 117 p 1) 112 (1 + p) (m.1 112 0)) 113 (1 + p) (m.1 113 0)) 114 114 0 (8 * (1 + p)) 8) 115 115 0 (64 * (1 + p)) 64).1 116 x = m.1 116 x := fun x => by
    rw [cp1, if_neg (by omega), cp1, if_neg (by omega), up1, if_neg (by omega), up1, if_neg (by omega), up1, if_neg (by omega)]
  have e2 : ∀ x, (s_cp (s_up (s_up (s_up m 117 p 1) 112 (1 + p) (m.1 112 0)) 113 (1 + p) (m.1 113 0)) 114 114 0 (8 * (1 + p)) 8).1 115 x = m.1 115 x := fun x => by
    rw [cp1, if_neg (by omega), up1, if_neg (by omega), up1, if_neg (by omega), up1, if_neg (by omega)]
  have e3 : ∀ x, (s_up (s_up (s_up m 117 p 1) 112 (1 + p) (m.1 112 0)) 113 (1 + p) (m.1 113 0)).1 114 x = m.1 114 x := fun x => by
    rw [up1, if_neg (by omega), up1, if_neg (by omega), up1, if_neg (by omega)]
  rw [cp1, e1, cp1, e2, cp1, e3, up1, up1, up1]
  simp only [Nat.zero_add]
set_option maxRecDepth 100000 in
set_option maxHeartbeats 4000000 in
theorem ypin_ag {P : Nat → Nat → Prop} {p : Nat} {m m1 : sM} (h : ag P m m1) (hp : ∀ b j, (b = 117 ∧ j = p ∨ (b = 112 ∨ b = 113) ∧ j = 1 + p ∨ b = 114 ∧ 8 * (1 + p) ≤ j ∧ j < 8 * (1 + p) + 8 ∨ (b = 115 ∨ b = 116) ∧ 64 * (1 + p) ≤ j ∧ j < 64 * (1 + p) + 64) → ¬ P b j) : ag P m (y_pin p m1) :=
  ag_cp (ag_cp (ag_cp (ag_up (ag_up (ag_up h (hp _ _ (by omega))) (hp _ _ (by omega))) (hp _ _ (by omega))) fun j _ _ => hp _ _ (by omega)) fun j _ _ => hp _ _ (by omega)) fun j _ _ => hp _ _ (by omega)
