/-! PURE: differences and differentKey; adopt. -/
def dif (m : sM) (v k : Nat) : Bool := (lb (m.2 36 2) k != lb (m.2 v 2) k) || (lb (m.2 36 2) k && lb (m.2 v 2) k && decide (¬ m.1 38 k = m.1 (v + 2) k))
set_option maxRecDepth 100000 in
set_option maxHeartbeats 4000000 in
theorem p_diff (v : Nat) (m : sM) : ∃ x, f_X8_differentKeys 36 v m = some (.inl x, m) ∧ ∀ k, k < 64 → lb x k = dif m v k := by
  have key : Wp (f_X8_differentKeys 36 v m) (fun x m' => m' = m ∧ ∀ k, k < 64 → lb x k = dif m v k) := by
    unfold f_X8_differentKeys
    rw [jn_]
    refine lpW (fun g i (x : Int64) => f_X8_differentKeys_L13 36 v _ g x (nI i) m) (fun i x => ∀ k, k < 64 → lb x k = if k < i then dif m v k else (lb (m.2 36 2) k != lb (m.2 v 2) k)) _ 64 ?_ ?_ 64 0 _ 5000 rfl (by decide) ?_
    · intro i x g hi hx ih
      have hand : lb (m.2 36 2 &&& m.2 v 2) i = (lb (m.2 36 2) i && lb (m.2 v 2) i) := lb_and _ _ _
      cases hb : lb (m.2 36 2 &&& m.2 v 2) i
      · have := ih x (fun k hk => by
          rw [hx k hk]
          by_cases q : k = i
          · subst q
            rw [hb] at hand
            rw [if_neg (by omega), if_pos (by omega), dif, ← hand, Bool.false_and, Bool.or_false]
          · by_cases q2 : k < i
            · rw [if_pos q2, if_pos (by omega)]
            · rw [if_neg q2, if_neg (by omega)])
        simp (disch := omega) only [md_, jn_, bd_, bdE_, ixl, ix_, llN, lNl, tlN, tNl, eNl, lNN, tNN, eNN, aNl, alN, mlN, nI_add, pk_mul, neg_lt0, if_true, if_false, if_pos, if_neg, up2, uL1, cp2, gdT, gdb_, or_true, true_or, false_or, or_false, and_true, true_and, and_false, false_and, ifb0, ifb1, eq_self, t0, t1, t2, t3, t4, o10, o01, z139a, f_X8_differentKeys_L13, p_isIn, hb, bi_f]
        exact this
      · rw [hb] at hand
        by_cases w : m.1 38 i = m.1 (v + 2) i
        · have := ih x (fun k hk => by
            rw [hx k hk]
            by_cases q : k = i
            · subst q
              rw [if_neg (by omega), if_pos (by omega), dif, decide_eq_false (fun z => z w), Bool.and_false, Bool.or_false]
            · by_cases q2 : k < i
              · rw [if_pos q2, if_pos (by omega)]
              · rw [if_neg q2, if_neg (by omega)])
          simp (disch := omega) only [md_, jn_, bd_, bdE_, ixl, ix_, llN, lNl, tlN, tNl, eNl, lNN, tNN, eNN, aNl, alN, mlN, nI_add, pk_mul, neg_lt0, if_true, if_false, if_pos, if_neg, up2, uL1, cp2, gdT, gdb_, or_true, true_or, false_or, or_false, and_true, true_and, and_false, false_and, ifb0, ifb1, eq_self, t0, t1, t2, t3, t4, o10, o01, z139a, f_X8_differentKeys_L13, p_isIn, hb, bi_t, w]
          exact this
        · have := ih (x ||| s_lshl 1 (nI i)) (fun k hk => by
            rw [lb_or, lb_set i hi k hk, hx k hk]
            by_cases q : k = i
            · subst q
              rw [if_neg (by omega), if_pos (by omega), dif, ← hand, decide_eq_true w, decide_eq_true rfl, Bool.or_true, Bool.true_and, Bool.or_true]
            · rw [decide_eq_false q, Bool.or_false]
              by_cases q2 : k < i
              · rw [if_pos q2, if_pos (by omega)]
              · rw [if_neg q2, if_neg (by omega)])
          simp (disch := omega) only [md_, jn_, bd_, bdE_, ixl, ix_, llN, lNl, tlN, tNl, eNl, lNN, tNN, eNN, aNl, alN, mlN, nI_add, pk_mul, neg_lt0, if_true, if_false, if_pos, if_neg, up2, uL1, cp2, gdT, gdb_, or_true, true_or, false_or, or_false, and_true, true_and, and_false, false_and, ifb0, ifb1, eq_self, t0, t1, t2, t3, t4, o10, o01, z139a, f_X8_differentKeys_L13, p_isIn, hb, bi_t, w, p_setOf]
          exact this
    · intro x g hx
      simp (disch := omega) only [md_, jn_, bd_, bdE_, ixl, ix_, llN, lNl, tlN, tNl, eNl, lNN, tNN, eNN, aNl, alN, mlN, nI_add, pk_mul, neg_lt0, if_true, if_false, if_pos, if_neg, up2, uL1, cp2, gdT, gdb_, or_true, true_or, false_or, or_false, and_true, true_and, and_false, false_and, ifb0, ifb1, eq_self, t0, t1, t2, t3, t4, o10, o01, z139a, f_X8_differentKeys_L13]
      refine Wp_r ⟨rfl, fun k hk => ?_⟩
      rw [hx k hk, if_pos hk]
    · intro k hk
      rw [if_neg (by omega), lb_xor]
  obtain ⟨x, m', e, rfl, hx⟩ := key
  exact ⟨x, e, hx⟩
set_option maxRecDepth 100000 in
set_option maxHeartbeats 4000000 in
theorem q_dif {mc mm : sM} {p k : Nat} (hp : p < 2) (hk : k < 64) (h0 : rVer mc mm 36 0) (h1 : rVer mc mm (42 + 3 * p) (1 + p)) : f_X10_isDifferent (nI p) (nI k) mm = some (.inl (bi (dif mc (42 + 3 * p) k)), mm) := by
  obtain ⟨a1, a2⟩ := h0.2.2.2.2 k hk
  obtain ⟨b1, b2⟩ := h1.2.2.2.2 k hk
  rw [Nat.mul_zero, Nat.zero_add] at a1 a2
  rw [dif]
  cases ha : lb (mc.2 36 2) k <;> cases hb : lb (mc.2 (42 + 3 * p) 2) k <;> rw [ha] at a1 a2 <;> rw [hb] at b1 b2
  · simp (disch := omega) only [md_, jn_, bd_, bdE_, ixl, ix_, llN, lNl, tlN, tNl, eNl, lNN, tNN, eNN, aNl, alN, mlN, nI_add, pk_mul, neg_lt0, if_true, if_false, if_pos, if_neg, up2, uL1, cp2, gdT, gdb_, or_true, true_or, false_or, or_false, and_true, true_and, and_false, false_and, ifb0, ifb1, eq_self, t0, t1, t2, t3, t4, o10, o01, z139a, f_X10_isDifferent, a1, b1, bi_f]
    rfl
  · simp (disch := omega) only [md_, jn_, bd_, bdE_, ixl, ix_, llN, lNl, tlN, tNl, eNl, lNN, tNN, eNN, aNl, alN, mlN, nI_add, pk_mul, neg_lt0, if_true, if_false, if_pos, if_neg, up2, uL1, cp2, gdT, gdb_, or_true, true_or, false_or, or_false, and_true, true_and, and_false, false_and, ifb0, ifb1, eq_self, t0, t1, t2, t3, t4, o10, o01, z139a, f_X10_isDifferent, a1, b1, bi_f, bi_t]
    rfl
  · simp (disch := omega) only [md_, jn_, bd_, bdE_, ixl, ix_, llN, lNl, tlN, tNl, eNl, lNN, tNN, eNN, aNl, alN, mlN, nI_add, pk_mul, neg_lt0, if_true, if_false, if_pos, if_neg, up2, uL1, cp2, gdT, gdb_, or_true, true_or, false_or, or_false, and_true, true_and, and_false, false_and, ifb0, ifb1, eq_self, t0, t1, t2, t3, t4, o10, o01, z139a, f_X10_isDifferent, a1, b1, bi_f, bi_t]
    rfl
  · have a2 := a2 rfl
    have b2 := b2 rfl
    by_cases w : mc.1 38 k = mc.1 (42 + 3 * p + 2) k
    · rw [decide_eq_false (fun z => z w)]
      rw [a2, b2] at w
      simp (disch := omega) only [md_, jn_, bd_, bdE_, ixl, ix_, llN, lNl, tlN, tNl, eNl, lNN, tNN, eNN, aNl, alN, mlN, nI_add, pk_mul, neg_lt0, if_true, if_false, if_pos, if_neg, up2, uL1, cp2, gdT, gdb_, or_true, true_or, false_or, or_false, and_true, true_and, and_false, false_and, ifb0, ifb1, eq_self, t0, t1, t2, t3, t4, o10, o01, z139a, f_X10_isDifferent, a1, b1, bi_t, w]
      rfl
    · rw [decide_eq_true w]
      rw [a2, b2] at w
      have w2 : ¬ mm.1 116 (64 * (1 + p) + k) = mm.1 116 k := fun z => w z.symm
      simp (disch := omega) only [md_, jn_, bd_, bdE_, ixl, ix_, llN, lNl, tlN, tNl, eNl, lNN, tNN, eNN, aNl, alN, mlN, nI_add, pk_mul, neg_lt0, if_true, if_false, if_pos, if_neg, up2, uL1, cp2, gdT, gdb_, or_true, true_or, false_or, or_false, and_true, true_and, and_false, false_and, ifb0, ifb1, eq_self, t0, t1, t2, t3, t4, o10, o01, z139a, f_X10_isDifferent, a1, b1, bi_t, w2]
      rfl
set_option maxRecDepth 100000 in
set_option maxHeartbeats 4000000 in
theorem q_difL {mc mm : sM} {p : Nat} (hp : p < 2) (h0 : rVer mc mm 36 0) (h1 : rVer mc mm (42 + 3 * p) (1 + p)) (ht : mm.1 110 0 = 0) (e : Int32 → sM → Option (sR Int32)) : f_X10_differences_L33 (nI p) e 5000 0 0 mm = e (nI (fb_ct (fun k => dif mc (42 + 3 * p) k) 64)) mm := by
  refine lpE (fun g i (x : Int32) => f_X10_differences_L33 (nI p) e g x (nI i) mm) (fun i x => x = nI (fb_ct (fun k => dif mc (42 + 3 * p) k) i)) _ 64 ?_ ?_ 64 0 _ 5000 rfl (by decide) rfl
  · intro i x g hi hx ih
    have := ih _ rfl
    subst hx
    rw [fb_ct_succ] at this
    have c := q_dif hp hi h0 h1
    cases hd : dif mc (42 + 3 * p) i
    · rw [hd] at c this
      simp (disch := omega) only [md_, jn_, bd_, bdE_, ixl, ix_, llN, lNl, tlN, tNl, eNl, lNN, tNN, eNN, aNl, alN, mlN, nI_add, pk_mul, neg_lt0, if_true, if_false, if_pos, if_neg, up2, uL1, cp2, gdT, gdb_, or_true, true_or, false_or, or_false, and_true, true_and, and_false, false_and, ifb0, ifb1, eq_self, t0, t1, t2, t3, t4, o10, o01, z139a, f_X10_differences_L33, ht, c, bi_f]
      exact this
    · rw [hd] at c this
      simp (disch := omega) only [md_, jn_, bd_, bdE_, ixl, ix_, llN, lNl, tlN, tNl, eNl, lNN, tNN, eNN, aNl, alN, mlN, nI_add, pk_mul, neg_lt0, if_true, if_false, if_pos, if_neg, up2, uL1, cp2, gdT, gdb_, or_true, true_or, false_or, or_false, and_true, true_and, and_false, false_and, ifb0, ifb1, eq_self, t0, t1, t2, t3, t4, o10, o01, z139a, f_X10_differences_L33, ht, c, bi_t]
      exact this
  · intro x g hx
    subst hx
    simp (disch := omega) only [md_, jn_, bd_, bdE_, ixl, ix_, llN, lNl, tlN, tNl, eNl, lNN, tNN, eNN, aNl, alN, mlN, nI_add, pk_mul, neg_lt0, if_true, if_false, if_pos, if_neg, up2, uL1, cp2, gdT, gdb_, or_true, true_or, false_or, or_false, and_true, true_and, and_false, false_and, ifb0, ifb1, eq_self, t0, t1, t2, t3, t4, o10, o01, z139a, f_X10_differences_L33, ht]
set_option maxRecDepth 100000 in
set_option maxHeartbeats 4000000 in
theorem q_difLE {p : Int32} {mm : sM} (ht : ¬ mm.1 110 0 = 0) (e : Int32 → sM → Option (sR Int32)) : f_X10_differences_L33 p e 5000 0 0 mm = e 0 mm := by
  refine lpE (fun g i (x : Int32) => f_X10_differences_L33 p e g 0 (nI i) mm) (fun i x => True) _ 0 (fun i _ g hi => absurd hi (Nat.not_lt_zero i)) ?_ 0 0 (0 : Int32) 5000 rfl (by decide) trivial
  intro x g hx
  simp (disch := omega) only [md_, jn_, bd_, bdE_, ixl, ix_, llN, lNl, tlN, tNl, eNl, lNN, tNN, eNN, aNl, alN, mlN, nI_add, pk_mul, neg_lt0, if_true, if_false, if_pos, if_neg, up2, uL1, cp2, gdT, gdb_, or_true, true_or, false_or, or_false, and_true, true_and, and_false, false_and, ifb0, ifb1, eq_self, t0, t1, t2, t3, t4, o10, o01, z139a, f_X10_differences_L33, ht]
set_option maxRecDepth 100000 in
set_option maxHeartbeats 4000000 in
theorem k_differences {mc mm : sM} (h : R mc mm) (p1 : Int32) : Agr [eIO, eIS] (f_X9_differences p1 mc) (f_X10_differences p1 mm) := by
  have u1 : ¬ (s_up mm 110 0 1).1 110 0 = 0 := by rw [upS]; exact n10
  have u2 : ¬ (s_up mm 110 0 2).1 110 0 = 0 := by rw [upS]; exact n20
  have hm := R_thr (t := 0) h
  rcases bad_or 2 (by decide) p1 with hb | ⟨p, hp, rfl⟩
  · refine Agr_ex (v := 0) 0 (mc' := mc) (mm' := s_up mm 110 0 1) ?_ ?_ (R_thr h) rfl (upS _ _ _ _)
    · unfold f_X9_differences; rw [p_riLE hb, bdE_]
    · simp (disch := omega) only [md_, jn_, bd_, bdE_, ixl, ix_, llN, lNl, tlN, tNl, eNl, lNN, tNN, eNN, aNl, alN, mlN, nI_add, pk_mul, neg_lt0, if_true, if_false, if_pos, if_neg, up2, uL1, cp2, gdT, gdb_, or_true, true_or, false_or, or_false, and_true, true_and, and_false, false_and, ifb0, ifb1, eq_self, t0, t1, t2, t3, t4, o10, o01, z139a, f_X10_differences, q_pinE hb, q_difLE u1]
  rcases R_pin h hp with ⟨o1, o2⟩ | ⟨o1, o2, hv⟩
  · refine Agr_ex (v := 0) 1 (mc' := mc) (mm' := s_up mm 110 0 2) ?_ ?_ (R_thr h) rfl (upS _ _ _ _)
    · unfold f_X9_differences; rw [p_riL hp (by decide), bd_, p_pinnedE hp o1, bdE_]
    · simp (disch := omega) only [md_, jn_, bd_, bdE_, ixl, ix_, llN, lNl, tlN, tNl, eNl, lNN, tNN, eNN, aNl, alN, mlN, nI_add, pk_mul, neg_lt0, if_true, if_false, if_pos, if_neg, up2, uL1, cp2, gdT, gdb_, or_true, true_or, false_or, or_false, and_true, true_and, and_false, false_and, ifb0, ifb1, eq_self, t0, t1, t2, t3, t4, o10, o01, z139a, f_X10_differences, q_pin hp, o2, q_difLE u2]
  · obtain ⟨x, x1, x2⟩ := p_diff (42 + 3 * p) mc
    have hv' : rVer mc (s_up mm 110 0 0) (42 + 3 * p) (1 + p) := rVer_ag (ag_rf _) (ag_up (ag_rf _) (by omega)) hv
    refine Agr_ok (v := nI (fb_ct (fun k => dif mc (42 + 3 * p) k) 64)) (mc' := mc) (mm' := s_up mm 110 0 0) ?_ ?_ hm (upS _ _ _ _)
    · unfold f_X9_differences; rw [p_riL hp (by decide), bd_, p_pinned hp o1, bd_, ix_ _ hp (by decide), x1, bd_, p_bits, bd_, fb_ct_cong x2]
    · simp (disch := omega) only [md_, jn_, bd_, bdE_, ixl, ix_, llN, lNl, tlN, tNl, eNl, lNN, tNN, eNN, aNl, alN, mlN, nI_add, pk_mul, neg_lt0, if_true, if_false, if_pos, if_neg, up2, uL1, cp2, gdT, gdb_, or_true, true_or, false_or, or_false, and_true, true_and, and_false, false_and, ifb0, ifb1, eq_self, t0, t1, t2, t3, t4, o10, o01, z139a, f_X10_differences, q_pin hp, o2, q_difL hp hm.2.2.1.1 hv' (upS _ _ _ _)]
set_option maxRecDepth 100000 in
set_option maxHeartbeats 4000000 in
theorem q_dk {mc mm : sM} {p k i : Nat} (hp : p < 2) (h0 : rVer mc mm 36 0) (hv : rVer mc mm (42 + 3 * p) (1 + p)) (hi : i < 64) (h1 : dif mc (42 + 3 * p) i = true) (h2 : fb_ct (fun k => dif mc (42 + 3 * p) k) i = k) (e : sM → Option (sR Int32)) (r : Int32 → sM → Option (sR Int32)) : f_X10_differentKey_L43 (nI p) e r 5000 (nI k) 0 mm = r (nI i) mm := by
  have hk : k ≤ 64 := by rw [← h2]; exact Nat.le_trans (fb_ct_le _ _) (by omega)
  generalize hP : (fun k => dif mc (42 + 3 * p) k) = P at h2
  have hPc : ∀ j, P j = dif mc (42 + 3 * p) j := fun j => by rw [← hP]
  refine lpE (fun g j (y : Int32) => f_X10_differentKey_L43 (nI p) e r g y (nI j) mm) (fun j y => y = nI (k - fb_ct P j) ∧ fb_ct P j ≤ k) _ i ?_ ?_ i 0 _ 5000 (by omega) (by omega) ⟨rfl, Nat.zero_le _⟩
  · intro j y g hj hy ih
    obtain ⟨rfl, hle⟩ := hy
    have hc := q_dif hp (show j < 64 by omega) h0 hv
    rw [← hPc] at hc
    cases hb : P j
    · rw [hb] at hc
      have := ih (nI (k - fb_ct P j)) (by rw [fb_ct_succ, hb]; exact ⟨rfl, hle⟩)
      simp (disch := omega) only [md_, jn_, bd_, bdE_, ixl, ix_, llN, lNl, tlN, tNl, eNl, lNN, tNN, eNN, aNl, alN, mlN, nI_add, pk_mul, neg_lt0, if_true, if_false, if_pos, if_neg, up2, uL1, cp2, gdT, gdb_, or_true, true_or, false_or, or_false, and_true, true_and, and_false, false_and, ifb0, ifb1, eq_self, t0, t1, t2, t3, t4, o10, o01, z139a, f_X10_differentKey_L43, hc, bi_f]
      exact this
    · rw [hb] at hc
      have hlt : fb_ct P j < k := by
        have := fb_ct_mono P (show j + 1 ≤ i from hj)
        rw [fb_ct_succ, hb] at this
        simp only [if_true] at this
        omega
      have e : k - fb_ct P j - 1 = k - fb_ct P (j + 1) := by rw [fb_ct_succ, hb]; simp only [if_true]; omega
      have := ih (nI (k - fb_ct P (j + 1))) (by rw [fb_ct_succ, hb]; simp only [if_true]; exact ⟨trivial, by omega⟩)
      rw [← e] at this
      simp (disch := omega) only [md_, jn_, bd_, bdE_, ixl, ix_, llN, lNl, tlN, tNl, eNl, lNN, tNN, eNN, aNl, alN, mlN, nI_add, pk_mul, neg_lt0, if_true, if_false, if_pos, if_neg, up2, uL1, cp2, gdT, gdb_, or_true, true_or, false_or, or_false, and_true, true_and, and_false, false_and, ifb0, ifb1, eq_self, t0, t1, t2, t3, t4, o10, o01, z139a, f_X10_differentKey_L43, hc, bi_t, m1N]
      exact this
  · intro y g hy
    obtain ⟨rfl, hle⟩ := hy
    have e : k - fb_ct P i = 0 := by omega
    have hc := q_dif hp hi h0 hv
    rw [h1] at hc
    simp (disch := omega) only [md_, jn_, bd_, bdE_, ixl, ix_, llN, lNl, tlN, tNl, eNl, lNN, tNN, eNN, aNl, alN, mlN, nI_add, pk_mul, neg_lt0, if_true, if_false, if_pos, if_neg, up2, uL1, cp2, gdT, gdb_, or_true, true_or, false_or, or_false, and_true, true_and, and_false, false_and, ifb0, ifb1, eq_self, t0, t1, t2, t3, t4, o10, o01, z139a, f_X10_differentKey_L43, hc, bi_t, e]
set_option maxRecDepth 100000 in
set_option maxHeartbeats 4000000 in
theorem q_dkN {mc mm : sM} {p k : Nat} (hp : p < 2) (h0 : rVer mc mm 36 0) (hv : rVer mc mm (42 + 3 * p) (1 + p)) (hk : k < 2 ^ 31) (h2 : fb_ct (fun k => dif mc (42 + 3 * p) k) 64 ≤ k) (e : sM → Option (sR Int32)) (r : Int32 → sM → Option (sR Int32)) : f_X10_differentKey_L43 (nI p) e r 5000 (nI k) 0 mm = e mm := by
  generalize hP : (fun k => dif mc (42 + 3 * p) k) = P at h2
  have hPc : ∀ j, P j = dif mc (42 + 3 * p) j := fun j => by rw [← hP]
  refine lpE (fun g j (y : Int32) => f_X10_differentKey_L43 (nI p) e r g y (nI j) mm) (fun j y => y = nI (k - fb_ct P j)) _ 64 ?_ ?_ 64 0 _ 5000 (by omega) (by omega) rfl
  · intro j y g hj hy ih
    subst hy
    have hc := q_dif hp hj h0 hv
    rw [← hPc] at hc
    have hmo := fb_ct_mono P (show j + 1 ≤ 64 from hj)
    cases hb : P j
    · rw [hb] at hc
      have := ih (nI (k - fb_ct P j)) (by rw [fb_ct_succ, hb]; rfl)
      simp (disch := omega) only [md_, jn_, bd_, bdE_, ixl, ix_, llN, lNl, tlN, tNl, eNl, lNN, tNN, eNN, aNl, alN, mlN, nI_add, pk_mul, neg_lt0, if_true, if_false, if_pos, if_neg, up2, uL1, cp2, gdT, gdb_, or_true, true_or, false_or, or_false, and_true, true_and, and_false, false_and, ifb0, ifb1, eq_self, t0, t1, t2, t3, t4, o10, o01, z139a, f_X10_differentKey_L43, hc, bi_f]
      exact this
    · rw [hb] at hc
      rw [fb_ct_succ, hb] at hmo
      simp only [if_true] at hmo
      have e : k - fb_ct P j - 1 = k - fb_ct P (j + 1) := by rw [fb_ct_succ, hb]; simp only [if_true]; omega
      have := ih _ rfl
      rw [← e] at this
      simp (disch := omega) only [md_, jn_, bd_, bdE_, ixl, ix_, llN, lNl, tlN, tNl, eNl, lNN, tNN, eNN, aNl, alN, mlN, nI_add, pk_mul, neg_lt0, if_true, if_false, if_pos, if_neg, up2, uL1, cp2, gdT, gdb_, or_true, true_or, false_or, or_false, and_true, true_and, and_false, false_and, ifb0, ifb1, eq_self, t0, t1, t2, t3, t4, o10, o01, z139a, f_X10_differentKey_L43, hc, bi_t, m1N]
      exact this
  · intro y g hy
    simp (disch := omega) only [md_, jn_, bd_, bdE_, ixl, ix_, llN, lNl, tlN, tNl, eNl, lNN, tNN, eNN, aNl, alN, mlN, nI_add, pk_mul, neg_lt0, if_true, if_false, if_pos, if_neg, up2, uL1, cp2, gdT, gdb_, or_true, true_or, false_or, or_false, and_true, true_and, and_false, false_and, ifb0, ifb1, eq_self, t0, t1, t2, t3, t4, o10, o01, z139a, f_X10_differentKey_L43]
set_option maxRecDepth 100000 in
set_option maxHeartbeats 4000000 in
theorem q_dkB {p y : Int32} {m : sM} (hy : y < 0) (e : sM → Option (sR Int32)) (r : Int32 → sM → Option (sR Int32)) : f_X10_differentKey_L43 p e r 5000 y 0 m = e m := by
  refine lpE (fun g j (x : Int32) => f_X10_differentKey_L43 p e r g x (nI j) m) (fun j x => x = y) _ 0 (fun i _ g hi => absurd hi (Nat.not_lt_zero i)) ?_ 0 0 _ 5000 (by omega) (by omega) rfl
  intro x g hx
  subst hx
  simp (disch := omega) only [md_, jn_, bd_, bdE_, ixl, ix_, llN, lNl, tlN, tNl, eNl, lNN, tNN, eNN, aNl, alN, mlN, nI_add, pk_mul, neg_lt0, if_true, if_false, if_pos, if_neg, up2, uL1, cp2, gdT, gdb_, or_true, true_or, false_or, or_false, and_true, true_and, and_false, false_and, ifb0, ifb1, eq_self, t0, t1, t2, t3, t4, o10, o01, z139a, f_X10_differentKey_L43, hy]
set_option maxRecDepth 100000 in
set_option maxHeartbeats 4000000 in
theorem k_differentKey {mc mm : sM} (h : R mc mm) (p1 p2 : Int32) : Agr [eIO, eIS, eNS] (f_X9_differentKey p1 p2 mc) (f_X10_differentKey p1 p2 mm) := by
  have hm := R_thr (t := 0) h
  rcases bad_or 2 (by decide) p1 with hb | ⟨p, hp, rfl⟩
  · refine Agr_ex (v := 0) 0 (mc' := mc) (mm' := s_up mm 110 0 1) ?_ ?_ (R_thr h) rfl (upS _ _ _ _)
    · unfold f_X9_differentKey; rw [p_riLE hb, bdE_]
    · simp (disch := omega) only [md_, jn_, bd_, bdE_, ixl, ix_, llN, lNl, tlN, tNl, eNl, lNN, tNN, eNN, aNl, alN, mlN, nI_add, pk_mul, neg_lt0, if_true, if_false, if_pos, if_neg, up2, uL1, cp2, gdT, gdb_, or_true, true_or, false_or, or_false, and_true, true_and, and_false, false_and, ifb0, ifb1, eq_self, t0, t1, t2, t3, t4, o10, o01, z139a, f_X10_differentKey, q_pinE hb, upS]
  rcases R_pin h hp with ⟨o1, o2⟩ | ⟨o1, o2, hv⟩
  · refine Agr_ex (v := 0) 1 (mc' := mc) (mm' := s_up mm 110 0 2) ?_ ?_ (R_thr h) rfl (upS _ _ _ _)
    · unfold f_X9_differentKey; rw [p_riL hp (by decide), bd_, p_pinnedE hp o1, bdE_]
    · simp (disch := omega) only [md_, jn_, bd_, bdE_, ixl, ix_, llN, lNl, tlN, tNl, eNl, lNN, tNN, eNN, aNl, alN, mlN, nI_add, pk_mul, neg_lt0, if_true, if_false, if_pos, if_neg, up2, uL1, cp2, gdT, gdb_, or_true, true_or, false_or, or_false, and_true, true_and, and_false, false_and, ifb0, ifb1, eq_self, t0, t1, t2, t3, t4, o10, o01, z139a, f_X10_differentKey, q_pin hp, o2, upS]
  obtain ⟨x, x1, x2⟩ := p_diff (42 + 3 * p) mc
  have hv' : rVer mc (s_up mm 110 0 0) (42 + 3 * p) (1 + p) := rVer_ag (ag_rf _) (ag_up (ag_rf _) (by omega)) hv
  have hct : fb_ct (fun k => dif mc (42 + 3 * p) k) 64 ≤ 64 := fb_ct_le _ _
  have hxc : fb_ct (lb x) 64 = fb_ct (fun k => dif mc (42 + 3 * p) k) 64 := fb_ct_cong x2
  rcases bad_or (fb_ct (fun k => dif mc (42 + 3 * p) k) 64) (by omega) p2 with hb | ⟨k, hk, rfl⟩
  · refine Agr_ex (v := 0) 2 (mc' := mc) (mm' := s_up (s_up mm 110 0 0) 110 0 3) ?_ ?_ (R_thr hm) rfl (upS _ _ _ _)
    · unfold f_X9_differentKey; rw [p_riL hp (by decide), bd_, p_pinned hp o1, bd_, ix_ _ hp (by decide), x1, bd_, jn_]
      by_cases z : p2 < 0
      · rw [if_pos z]
      · rw [if_neg z, p_bits, bd_, hxc, if_neg (nlt_of_le (hb.resolve_left z))]
    · simp (disch := omega) only [md_, jn_, bd_, bdE_, ixl, ix_, llN, lNl, tlN, tNl, eNl, lNN, tNN, eNN, aNl, alN, mlN, nI_add, pk_mul, neg_lt0, if_true, if_false, if_pos, if_neg, up2, uL1, cp2, gdT, gdb_, or_true, true_or, false_or, or_false, and_true, true_and, and_false, false_and, ifb0, ifb1, eq_self, t0, t1, t2, t3, t4, o10, o01, z139a, f_X10_differentKey, q_pin hp, o2, upS]
      rcases bad_nat hb (by omega) with h0 | ⟨k, k1, k2, rfl⟩
      · rw [q_dkB h0]; simp (disch := omega) only [md_, jn_, bd_, bdE_, ixl, ix_, llN, lNl, tlN, tNl, eNl, lNN, tNN, eNN, aNl, alN, mlN, nI_add, pk_mul, neg_lt0, if_true, if_false, if_pos, if_neg, up2, uL1, cp2, gdT, gdb_, or_true, true_or, false_or, or_false, and_true, true_and, and_false, false_and, ifb0, ifb1, eq_self, t0, t1, t2, t3, t4, o10, o01, z139a, f_X10_fails]
      · rw [q_dkN hp hm.2.2.1.1 hv' k1 k2]; simp (disch := omega) only [md_, jn_, bd_, bdE_, ixl, ix_, llN, lNl, tlN, tNl, eNl, lNN, tNN, eNN, aNl, alN, mlN, nI_add, pk_mul, neg_lt0, if_true, if_false, if_pos, if_neg, up2, uL1, cp2, gdT, gdb_, or_true, true_or, false_or, or_false, and_true, true_and, and_false, false_and, ifb0, ifb1, eq_self, t0, t1, t2, t3, t4, o10, o01, z139a, f_X10_fails]
  · obtain ⟨i, i1, i2, i3⟩ := fb_ct_kth hk
    refine Agr_ok (v := nI i) (mc' := mc) (mm' := s_up mm 110 0 0) ?_ ?_ hm (upS _ _ _ _)
    · have hx : lb x i = true := by rw [x2 i i1]; exact i2
      have hxk : fb_ct (lb x) i = k := by rw [← i3]; exact fb_ct_cong fun b hb => x2 b (by omega)
      unfold f_X9_differentKey; rw [p_riL hp (by decide), bd_, p_pinned hp o1, bd_, ix_ _ hp (by decide), x1, bd_, jn_, if_neg (nI_pos (by omega)), p_bits, bd_, hxc, if_pos (nI_lt hk (by omega)), p_mem i1 hx hxk, bd_]
    · simp (disch := omega) only [md_, jn_, bd_, bdE_, ixl, ix_, llN, lNl, tlN, tNl, eNl, lNN, tNN, eNN, aNl, alN, mlN, nI_add, pk_mul, neg_lt0, if_true, if_false, if_pos, if_neg, up2, uL1, cp2, gdT, gdb_, or_true, true_or, false_or, or_false, and_true, true_and, and_false, false_and, ifb0, ifb1, eq_self, t0, t1, t2, t3, t4, o10, o01, z139a, f_X10_differentKey, q_pin hp, o2, upS]
      rw [q_dk hp hm.2.2.1.1 hv' i1 i2 i3]
