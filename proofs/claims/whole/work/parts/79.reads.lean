/-! PURE: calls that read. -/
theorem R_open {mc mm : sM} (h : R mc mm) : (mc.1 0 15 = 0 ∧ mm.1 110 2 = 0) ∨ (mc.1 0 15 = 1 ∧ mm.1 110 2 = 1) := by
  obtain ⟨o, o1, o2⟩ := h.2.1
  cases o
  · exact Or.inl ⟨o1, o2⟩
  · exact Or.inr ⟨o1, o2⟩
theorem k_isOpen {mc mm : sM} (h : R mc mm) : Agr [] (f_X9_isOpen mc) (f_X10_isOpen mm) := by
  obtain ⟨o, o1, o2⟩ := h.2.1
  refine Agr_ok (v := bi o) (mc' := mc) (mm' := s_up mm 110 0 0) ?_ ?_ (R_thr h) (upS _ _ _ _)
  · unfold f_X9_isOpen; rw [o1, gdb_]
  · simp (disch := omega) only [md_, jn_, bd_, bdE_, ixl, ix_, llN, lNl, tlN, tNl, eNl, lNN, tNN, eNN, aNl, alN, mlN, nI_add, pk_mul, neg_lt0, if_true, if_false, if_pos, if_neg, up2, uL1, cp2, gdT, gdb_, or_true, true_or, false_or, or_false, and_true, true_and, and_false, false_and, ifb0, ifb1, eq_self, t0, t1, t2, t3, t4, o10, o01, z139a, f_X10_isOpen, up1, o2]
theorem k_commitNumber {mc mm : sM} (h : R mc mm) : Agr [eIS] (f_X9_commitNumber mc) (f_X10_commitNumber mm) := by
  rcases R_open h with ⟨o1, o2⟩ | ⟨o1, o2⟩
  · refine Agr_ex (v := 0) 0 (mc' := mc) (mm' := s_up mm 110 0 1) ?_ ?_ (R_thr h) rfl (upS _ _ _ _)
    · unfold f_X9_commitNumber; rw [p_openE o1, bdE_]
    · simp (disch := omega) only [md_, jn_, bd_, bdE_, ixl, ix_, llN, lNl, tlN, tNl, eNl, lNN, tNN, eNN, aNl, alN, mlN, nI_add, pk_mul, neg_lt0, if_true, if_false, if_pos, if_neg, up2, uL1, cp2, gdT, gdb_, or_true, true_or, false_or, or_false, and_true, true_and, and_false, false_and, ifb0, ifb1, eq_self, t0, t1, t2, t3, t4, o10, o01, z139a, f_X10_commitNumber, o2, upS]
  · refine Agr_ok (v := mc.1 36 3) (mc' := mc) (mm' := s_up mm 110 0 0) ?_ ?_ (R_thr h) (upS _ _ _ _)
    · unfold f_X9_commitNumber; rw [p_open o1, bd_]
    · simp (disch := omega) only [md_, jn_, bd_, bdE_, ixl, ix_, llN, lNl, tlN, tNl, eNl, lNN, tNN, eNN, aNl, alN, mlN, nI_add, pk_mul, neg_lt0, if_true, if_false, if_pos, if_neg, up2, uL1, cp2, gdT, gdb_, or_true, true_or, false_or, or_false, and_true, true_and, and_false, false_and, ifb0, ifb1, eq_self, t0, t1, t2, t3, t4, o10, o01, z139a, f_X10_commitNumber, o2, up1, h.2.2.1.1.1]
theorem R_has {mc mm : sM} (h : R mc mm) {k : Nat} (hk : k < 64) : mm.1 115 k = bi (lb (mc.2 36 2) k) ∧ (lb (mc.2 36 2) k = true → mc.1 38 k = mm.1 116 k) := by
  have hv := h.2.2.1.1.2.2.2.2 k hk
  rw [Nat.mul_zero, Nat.zero_add] at hv
  exact hv
theorem R_has' {mc mm : sM} (h : R mc mm) {t : Int32} {k : Nat} (hk : k < 64) : (s_up mm 110 0 t).1 115 k = bi (lb (mc.2 36 2) k) ∧ (lb (mc.2 36 2) k = true → mc.1 38 k = (s_up mm 110 0 t).1 116 k) := R_has (R_thr h) hk
theorem q_size {m : sM} {p : Nat → Bool} (e : Int32 → Option (sR Int32)) (hp : ∀ k, k < 64 → m.1 115 k = bi (p k)) : f_X10_size_L20 m e 5000 0 0 = e (nI (fb_ct p 64)) := by
  refine lpE (fun g i (x : Int32) => f_X10_size_L20 m e g x (nI i)) (fun i x => x = nI (fb_ct p i)) _ 64 ?_ ?_ 64 0 0 5000 rfl (by decide) rfl
  · intro i x g hi hx ih
    subst hx
    have hc := hp i hi
    have := ih _ rfl
    cases hpi : p i
    · rw [hpi] at hc
      rw [fb_ct_succ, hpi] at this
      simp (disch := omega) only [md_, jn_, bd_, bdE_, ixl, ix_, llN, lNl, tlN, tNl, eNl, lNN, tNN, eNN, aNl, alN, mlN, nI_add, pk_mul, neg_lt0, if_true, if_false, if_pos, if_neg, up2, uL1, cp2, gdT, gdb_, or_true, true_or, false_or, or_false, and_true, true_and, and_false, false_and, ifb0, ifb1, eq_self, t0, t1, t2, t3, t4, o10, o01, z139a, f_X10_size_L20, hc, bi_f]
      exact this
    · rw [hpi] at hc
      rw [fb_ct_succ, hpi] at this
      simp (disch := omega) only [md_, jn_, bd_, bdE_, ixl, ix_, llN, lNl, tlN, tNl, eNl, lNN, tNN, eNN, aNl, alN, mlN, nI_add, pk_mul, neg_lt0, if_true, if_false, if_pos, if_neg, up2, uL1, cp2, gdT, gdb_, or_true, true_or, false_or, or_false, and_true, true_and, and_false, false_and, ifb0, ifb1, eq_self, t0, t1, t2, t3, t4, o10, o01, z139a, f_X10_size_L20, hc, bi_t]
      exact this
  · intro x g hx
    subst hx
    simp (disch := omega) only [md_, jn_, bd_, bdE_, ixl, ix_, llN, lNl, tlN, tNl, eNl, lNN, tNN, eNN, aNl, alN, mlN, nI_add, pk_mul, neg_lt0, if_true, if_false, if_pos, if_neg, up2, uL1, cp2, gdT, gdb_, or_true, true_or, false_or, or_false, and_true, true_and, and_false, false_and, ifb0, ifb1, eq_self, t0, t1, t2, t3, t4, o10, o01, z139a, f_X10_size_L20]
theorem k_size {mc mm : sM} (h : R mc mm) : Agr [eIS] (f_X9_size mc) (f_X10_size mm) := by
  rcases R_open h with ⟨o1, o2⟩ | ⟨o1, o2⟩
  · refine Agr_ex (v := 0) 0 (mc' := mc) (mm' := s_up mm 110 0 1) ?_ ?_ (R_thr h) rfl (upS _ _ _ _)
    · unfold f_X9_size; rw [p_openE o1, bdE_]
    · simp (disch := omega) only [md_, jn_, bd_, bdE_, ixl, ix_, llN, lNl, tlN, tNl, eNl, lNN, tNN, eNN, aNl, alN, mlN, nI_add, pk_mul, neg_lt0, if_true, if_false, if_pos, if_neg, up2, uL1, cp2, gdT, gdb_, or_true, true_or, false_or, or_false, and_true, true_and, and_false, false_and, ifb0, ifb1, eq_self, t0, t1, t2, t3, t4, o10, o01, z139a, f_X10_size, o2]
      rw [q_size (p := lb (mc.2 36 2)) _ (fun k hk => (R_has' h hk).1)]
      simp (disch := omega) only [md_, jn_, bd_, bdE_, ixl, ix_, llN, lNl, tlN, tNl, eNl, lNN, tNN, eNN, aNl, alN, mlN, nI_add, pk_mul, neg_lt0, if_true, if_false, if_pos, if_neg, up2, uL1, cp2, gdT, gdb_, or_true, true_or, false_or, or_false, and_true, true_and, and_false, false_and, ifb0, ifb1, eq_self, t0, t1, t2, t3, t4, o10, o01, z139a, upS]
  · refine Agr_ok (v := nI (fb_ct (lb (mc.2 36 2)) 64)) (mc' := mc) (mm' := s_up mm 110 0 0) ?_ ?_ (R_thr h) (upS _ _ _ _)
    · unfold f_X9_size; rw [p_open o1, bd_, p_bits, bd_]
    · simp (disch := omega) only [md_, jn_, bd_, bdE_, ixl, ix_, llN, lNl, tlN, tNl, eNl, lNN, tNN, eNN, aNl, alN, mlN, nI_add, pk_mul, neg_lt0, if_true, if_false, if_pos, if_neg, up2, uL1, cp2, gdT, gdb_, or_true, true_or, false_or, or_false, and_true, true_and, and_false, false_and, ifb0, ifb1, eq_self, t0, t1, t2, t3, t4, o10, o01, z139a, f_X10_size, o2]
      rw [q_size (p := lb (mc.2 36 2)) _ (fun k hk => (R_has' h hk).1)]
      simp (disch := omega) only [md_, jn_, bd_, bdE_, ixl, ix_, llN, lNl, tlN, tNl, eNl, lNN, tNN, eNN, aNl, alN, mlN, nI_add, pk_mul, neg_lt0, if_true, if_false, if_pos, if_neg, up2, uL1, cp2, gdT, gdb_, or_true, true_or, false_or, or_false, and_true, true_and, and_false, false_and, ifb0, ifb1, eq_self, t0, t1, t2, t3, t4, o10, o01, z139a, upS]
theorem k_value {mc mm : sM} (h : R mc mm) (p1 : Int32) : Agr [eIS, eIA, eNS] (f_X9_value p1 mc) (f_X10_value p1 mm) := by
  rcases R_open h with ⟨o1, o2⟩ | ⟨o1, o2⟩
  · refine Agr_ex (v := 0) 0 (mc' := mc) (mm' := s_up mm 110 0 1) ?_ ?_ (R_thr h) rfl (upS _ _ _ _)
    · unfold f_X9_value; rw [p_openE o1, bdE_]
    · simp (disch := omega) only [md_, jn_, bd_, bdE_, ixl, ix_, llN, lNl, tlN, tNl, eNl, lNN, tNN, eNN, aNl, alN, mlN, nI_add, pk_mul, neg_lt0, if_true, if_false, if_pos, if_neg, up2, uL1, cp2, gdT, gdb_, or_true, true_or, false_or, or_false, and_true, true_and, and_false, false_and, ifb0, ifb1, eq_self, t0, t1, t2, t3, t4, o10, o01, z139a, f_X10_value, o2, upS]
  rcases bad_or 64 (by decide) p1 with hb | ⟨k, hk, rfl⟩
  · refine Agr_ex (v := 0) 1 (mc' := mc) (mm' := s_up mm 110 0 2) ?_ ?_ (R_thr h) rfl (upS _ _ _ _)
    · unfold f_X9_value; rw [p_open o1, bd_, p_keyE hb, bdE_]
    · simp (disch := omega) only [md_, jn_, bd_, bdE_, ixl, ix_, llN, lNl, tlN, tNl, eNl, lNN, tNN, eNN, aNl, alN, mlN, nI_add, pk_mul, neg_lt0, if_true, if_false, if_pos, if_neg, up2, uL1, cp2, gdT, gdb_, or_true, true_or, false_or, or_false, and_true, true_and, and_false, false_and, ifb0, ifb1, eq_self, t0, t1, t2, t3, t4, o10, o01, z139a, f_X10_value, o2, q_keyE hb, upS]
  obtain ⟨h1, h2⟩ := R_has h hk
  cases hv : lb (mc.2 36 2) k
  · refine Agr_ex (v := 0) 2 (mc' := mc) (mm' := s_up mm 110 0 3) ?_ ?_ (R_thr h) rfl (upS _ _ _ _)
    · unfold f_X9_value; rw [p_open o1, bd_, p_key hk, bd_, p_recE hk hv, bdE_]
    · rw [hv] at h1
      simp (disch := omega) only [md_, jn_, bd_, bdE_, ixl, ix_, llN, lNl, tlN, tNl, eNl, lNN, tNN, eNN, aNl, alN, mlN, nI_add, pk_mul, neg_lt0, if_true, if_false, if_pos, if_neg, up2, uL1, cp2, gdT, gdb_, or_true, true_or, false_or, or_false, and_true, true_and, and_false, false_and, ifb0, ifb1, eq_self, t0, t1, t2, t3, t4, o10, o01, z139a, f_X10_value, o2, q_key hk, h1, bi_f, upS]
  · refine Agr_ok (v := mc.1 38 k) (mc' := mc) (mm' := s_up mm 110 0 0) ?_ ?_ (R_thr h) (upS _ _ _ _)
    · unfold f_X9_value; rw [p_open o1, bd_, p_key hk, bd_, p_rec hk hv, bd_]
    · rw [hv] at h1
      simp (disch := omega) only [md_, jn_, bd_, bdE_, ixl, ix_, llN, lNl, tlN, tNl, eNl, lNN, tNN, eNN, aNl, alN, mlN, nI_add, pk_mul, neg_lt0, if_true, if_false, if_pos, if_neg, up2, uL1, cp2, gdT, gdb_, or_true, true_or, false_or, or_false, and_true, true_and, and_false, false_and, ifb0, ifb1, eq_self, t0, t1, t2, t3, t4, o10, o01, z139a, f_X10_value, o2, q_key hk, h1, bi_t, up1, h2 hv]
/-- the k-th member -/
theorem p_mem {x : Int64} {k i : Nat} (hi : i < 64) (h1 : lb x i = true) (h2 : fb_ct (lb x) i = k) (m : sM) : f_X9_memberAt x (nI k) m = some (.inl (nI i), m) := by
  have hk : k ≤ 64 := by rw [← h2]; exact Nat.le_trans (fb_ct_le _ _) (by omega)
  unfold f_X9_memberAt
  rw [jn_, jn_]
  refine lpE (fun g j (y : Int32) => f_X9_memberAt_L5 x _ _ g y (nI j) m) (fun j y => y = nI (k - fb_ct (lb x) j) ∧ fb_ct (lb x) j ≤ k) _ i ?_ ?_ i 0 _ 5000 (by omega) (by omega) ⟨rfl, Nat.zero_le _⟩
  · intro j y g hj hy ih
    obtain ⟨rfl, hle⟩ := hy
    cases hb : lb x j
    · have := ih (nI (k - fb_ct (lb x) j)) (by rw [fb_ct_succ, hb]; exact ⟨rfl, hle⟩)
      simp (disch := omega) only [md_, jn_, bd_, bdE_, ixl, ix_, llN, lNl, tlN, tNl, eNl, lNN, tNN, eNN, aNl, alN, mlN, nI_add, pk_mul, neg_lt0, if_true, if_false, if_pos, if_neg, up2, uL1, cp2, gdT, gdb_, or_true, true_or, false_or, or_false, and_true, true_and, and_false, false_and, ifb0, ifb1, eq_self, t0, t1, t2, t3, t4, o10, o01, z139a, f_X9_memberAt_L5, p_isIn, hb, bi_f]
      exact this
    · have hlt : fb_ct (lb x) j < k := by
        have := fb_ct_mono (lb x) (show j + 1 ≤ i from hj)
        rw [fb_ct_succ, hb] at this
        simp only [if_true] at this
        omega
      have e : k - fb_ct (lb x) j - 1 = k - fb_ct (lb x) (j + 1) := by rw [fb_ct_succ, hb]; simp only [if_true]; omega
      have := ih (nI (k - fb_ct (lb x) (j + 1))) (by rw [fb_ct_succ, hb]; simp only [if_true]; exact ⟨trivial, by omega⟩)
      rw [← e] at this
      simp (disch := omega) only [md_, jn_, bd_, bdE_, ixl, ix_, llN, lNl, tlN, tNl, eNl, lNN, tNN, eNN, aNl, alN, mlN, nI_add, pk_mul, neg_lt0, if_true, if_false, if_pos, if_neg, up2, uL1, cp2, gdT, gdb_, or_true, true_or, false_or, or_false, and_true, true_and, and_false, false_and, ifb0, ifb1, eq_self, t0, t1, t2, t3, t4, o10, o01, z139a, f_X9_memberAt_L5, p_isIn, hb, bi_t, m1N]
      exact this
  · intro y g hy
    obtain ⟨rfl, hle⟩ := hy
    have e : k - fb_ct (lb x) i = 0 := by omega
    simp (disch := omega) only [md_, jn_, bd_, bdE_, ixl, ix_, llN, lNl, tlN, tNl, eNl, lNN, tNN, eNN, aNl, alN, mlN, nI_add, pk_mul, neg_lt0, if_true, if_false, if_pos, if_neg, up2, uL1, cp2, gdT, gdb_, or_true, true_or, false_or, or_false, and_true, true_and, and_false, false_and, ifb0, ifb1, eq_self, t0, t1, t2, t3, t4, o10, o01, z139a, f_X9_memberAt_L5, p_isIn, h1, bi_t, e]
/-- the reference's search: found -/
theorem q_keyAt {m : sM} {p : Nat → Bool} {k i : Nat} (hi : i < 64) (hp : ∀ j, j < 64 → m.1 115 j = bi (p j)) (h1 : p i = true) (h2 : fb_ct p i = k) (e : Option (sR Int32)) (r : Int32 → Option (sR Int32)) : f_X10_keyAt_L29 m e r 5000 (nI k) 0 = r (nI i) := by
  have hk : k ≤ 64 := by rw [← h2]; exact Nat.le_trans (fb_ct_le _ _) (by omega)
  refine lpE (fun g j (y : Int32) => f_X10_keyAt_L29 m e r g y (nI j)) (fun j y => y = nI (k - fb_ct p j) ∧ fb_ct p j ≤ k) _ i ?_ ?_ i 0 _ 5000 (by omega) (by omega) ⟨rfl, Nat.zero_le _⟩
  · intro j y g hj hy ih
    obtain ⟨rfl, hle⟩ := hy
    have hc := hp j (by omega)
    cases hb : p j
    · rw [hb] at hc
      have := ih (nI (k - fb_ct p j)) (by rw [fb_ct_succ, hb]; exact ⟨rfl, hle⟩)
      simp (disch := omega) only [md_, jn_, bd_, bdE_, ixl, ix_, llN, lNl, tlN, tNl, eNl, lNN, tNN, eNN, aNl, alN, mlN, nI_add, pk_mul, neg_lt0, if_true, if_false, if_pos, if_neg, up2, uL1, cp2, gdT, gdb_, or_true, true_or, false_or, or_false, and_true, true_and, and_false, false_and, ifb0, ifb1, eq_self, t0, t1, t2, t3, t4, o10, o01, z139a, f_X10_keyAt_L29, hc, bi_f]
      exact this
    · rw [hb] at hc
      have hlt : fb_ct p j < k := by
        have := fb_ct_mono p (show j + 1 ≤ i from hj)
        rw [fb_ct_succ, hb] at this
        simp only [if_true] at this
        omega
      have e : k - fb_ct p j - 1 = k - fb_ct p (j + 1) := by rw [fb_ct_succ, hb]; simp only [if_true]; omega
      have := ih (nI (k - fb_ct p (j + 1))) (by rw [fb_ct_succ, hb]; simp only [if_true]; exact ⟨trivial, by omega⟩)
      rw [← e] at this
      simp (disch := omega) only [md_, jn_, bd_, bdE_, ixl, ix_, llN, lNl, tlN, tNl, eNl, lNN, tNN, eNN, aNl, alN, mlN, nI_add, pk_mul, neg_lt0, if_true, if_false, if_pos, if_neg, up2, uL1, cp2, gdT, gdb_, or_true, true_or, false_or, or_false, and_true, true_and, and_false, false_and, ifb0, ifb1, eq_self, t0, t1, t2, t3, t4, o10, o01, z139a, f_X10_keyAt_L29, hc, bi_t, m1N]
      exact this
  · intro y g hy
    obtain ⟨rfl, hle⟩ := hy
    have e : k - fb_ct p i = 0 := by omega
    have hc := hp i hi
    rw [h1] at hc
    simp (disch := omega) only [md_, jn_, bd_, bdE_, ixl, ix_, llN, lNl, tlN, tNl, eNl, lNN, tNN, eNN, aNl, alN, mlN, nI_add, pk_mul, neg_lt0, if_true, if_false, if_pos, if_neg, up2, uL1, cp2, gdT, gdb_, or_true, true_or, false_or, or_false, and_true, true_and, and_false, false_and, ifb0, ifb1, eq_self, t0, t1, t2, t3, t4, o10, o01, z139a, f_X10_keyAt_L29, hc, bi_t, e]
/-- not found -/
theorem q_keyAtN {m : sM} {p : Nat → Bool} {k : Nat} (hk : k < 2 ^ 31) (hp : ∀ j, j < 64 → m.1 115 j = bi (p j)) (h2 : fb_ct p 64 ≤ k) (e : Option (sR Int32)) (r : Int32 → Option (sR Int32)) : f_X10_keyAt_L29 m e r 5000 (nI k) 0 = e := by
  refine lpE (fun g j (y : Int32) => f_X10_keyAt_L29 m e r g y (nI j)) (fun j y => y = nI (k - fb_ct p j)) _ 64 ?_ ?_ 64 0 _ 5000 (by omega) (by omega) rfl
  · intro j y g hj hy ih
    subst hy
    have hc := hp j (by omega)
    have hmo := fb_ct_mono p (show j + 1 ≤ 64 from hj)
    cases hb : p j
    · rw [hb] at hc
      have := ih (nI (k - fb_ct p j)) (by rw [fb_ct_succ, hb]; rfl)
      simp (disch := omega) only [md_, jn_, bd_, bdE_, ixl, ix_, llN, lNl, tlN, tNl, eNl, lNN, tNN, eNN, aNl, alN, mlN, nI_add, pk_mul, neg_lt0, if_true, if_false, if_pos, if_neg, up2, uL1, cp2, gdT, gdb_, or_true, true_or, false_or, or_false, and_true, true_and, and_false, false_and, ifb0, ifb1, eq_self, t0, t1, t2, t3, t4, o10, o01, z139a, f_X10_keyAt_L29, hc, bi_f]
      exact this
    · rw [hb] at hc
      rw [fb_ct_succ, hb] at hmo
      simp only [if_true] at hmo
      have e : k - fb_ct p j - 1 = k - fb_ct p (j + 1) := by rw [fb_ct_succ, hb]; simp only [if_true]; omega
      have := ih _ rfl
      rw [← e] at this
      simp (disch := omega) only [md_, jn_, bd_, bdE_, ixl, ix_, llN, lNl, tlN, tNl, eNl, lNN, tNN, eNN, aNl, alN, mlN, nI_add, pk_mul, neg_lt0, if_true, if_false, if_pos, if_neg, up2, uL1, cp2, gdT, gdb_, or_true, true_or, false_or, or_false, and_true, true_and, and_false, false_and, ifb0, ifb1, eq_self, t0, t1, t2, t3, t4, o10, o01, z139a, f_X10_keyAt_L29, hc, bi_t, m1N]
      exact this
  · intro y g hy
    simp (disch := omega) only [md_, jn_, bd_, bdE_, ixl, ix_, llN, lNl, tlN, tNl, eNl, lNN, tNN, eNN, aNl, alN, mlN, nI_add, pk_mul, neg_lt0, if_true, if_false, if_pos, if_neg, up2, uL1, cp2, gdT, gdb_, or_true, true_or, false_or, or_false, and_true, true_and, and_false, false_and, ifb0, ifb1, eq_self, t0, t1, t2, t3, t4, o10, o01, z139a, f_X10_keyAt_L29]
theorem q_keyAtB {m : sM} {y : Int32} (hy : y < 0) (e : Option (sR Int32)) (r : Int32 → Option (sR Int32)) : f_X10_keyAt_L29 m e r 5000 y 0 = e := by
  refine lpE (fun g j (y : Int32) => f_X10_keyAt_L29 m e r g y (nI j)) (fun j x => x = y) _ 0 (fun i _ g hi => absurd hi (Nat.not_lt_zero i)) ?_ 0 0 _ 5000 (by omega) (by omega) rfl
  intro x g hx
  subst hx
  simp (disch := omega) only [md_, jn_, bd_, bdE_, ixl, ix_, llN, lNl, tlN, tNl, eNl, lNN, tNN, eNN, aNl, alN, mlN, nI_add, pk_mul, neg_lt0, if_true, if_false, if_pos, if_neg, up2, uL1, cp2, gdT, gdb_, or_true, true_or, false_or, or_false, and_true, true_and, and_false, false_and, ifb0, ifb1, eq_self, t0, t1, t2, t3, t4, o10, o01, z139a, f_X10_keyAt_L29, hy]
theorem bad_nat {n : Nat} {p : Int32} (h : Bad n p) (hn : n < 2 ^ 31) : p < 0 ∨ ∃ k, k < 2 ^ 31 ∧ n ≤ k ∧ p = nI k := by
  by_cases h0 : p < 0
  · exact Or.inl h0
  · obtain ⟨k, hk, rfl⟩ := nI_of h0
    exact Or.inr ⟨k, hk, (nI_leI hn hk).mp (h.resolve_left h0), rfl⟩
set_option maxRecDepth 100000 in
theorem k_keyAt {mc mm : sM} (h : R mc mm) (p1 : Int32) : Agr [eIS, eIO] (f_X9_keyAt p1 mc) (f_X10_keyAt p1 mm) := by
  rcases R_open h with ⟨o1, o2⟩ | ⟨o1, o2⟩
  · refine Agr_ex (v := 0) 0 (mc' := mc) (mm' := s_up mm 110 0 1) ?_ ?_ (R_thr h) rfl (upS _ _ _ _)
    · unfold f_X9_keyAt; rw [p_openE o1, bdE_]
    · simp (disch := omega) only [md_, jn_, bd_, bdE_, ixl, ix_, llN, lNl, tlN, tNl, eNl, lNN, tNN, eNN, aNl, alN, mlN, nI_add, pk_mul, neg_lt0, if_true, if_false, if_pos, if_neg, up2, uL1, cp2, gdT, gdb_, or_true, true_or, false_or, or_false, and_true, true_and, and_false, false_and, ifb0, ifb1, eq_self, t0, t1, t2, t3, t4, o10, o01, z139a, f_X10_keyAt, o2, upS]
  have hct := ct64_le (mc.2 36 2)
  have hp : ∀ j, j < 64 → (s_up mm 110 0 0).1 115 j = bi (lb (mc.2 36 2) j) := fun j hj => (R_has' h hj).1
  rcases bad_or (fb_ct (lb (mc.2 36 2)) 64) (by omega) p1 with hb | ⟨k, hk, rfl⟩
  · refine Agr_ex (v := 0) 1 (mc' := mc) (mm' := s_up (s_up mm 110 0 0) 110 0 2) ?_ ?_ (R_thr (R_thr h)) rfl (upS _ _ _ _)
    · unfold f_X9_keyAt; rw [p_open o1, bd_, p_bits, bd_, p_riE hb, bdE_]
    · simp (disch := omega) only [md_, jn_, bd_, bdE_, ixl, ix_, llN, lNl, tlN, tNl, eNl, lNN, tNN, eNN, aNl, alN, mlN, nI_add, pk_mul, neg_lt0, if_true, if_false, if_pos, if_neg, up2, uL1, cp2, gdT, gdb_, or_true, true_or, false_or, or_false, and_true, true_and, and_false, false_and, ifb0, ifb1, eq_self, t0, t1, t2, t3, t4, o10, o01, z139a, f_X10_keyAt, o2, upS]
      rcases bad_nat hb (by omega) with h0 | ⟨k, k1, k2, rfl⟩
      · rw [q_keyAtB h0]; simp (disch := omega) only [md_, jn_, bd_, bdE_, ixl, ix_, llN, lNl, tlN, tNl, eNl, lNN, tNN, eNN, aNl, alN, mlN, nI_add, pk_mul, neg_lt0, if_true, if_false, if_pos, if_neg, up2, uL1, cp2, gdT, gdb_, or_true, true_or, false_or, or_false, and_true, true_and, and_false, false_and, ifb0, ifb1, eq_self, t0, t1, t2, t3, t4, o10, o01, z139a, f_X10_fails]
      · rw [q_keyAtN k1 hp k2]; simp (disch := omega) only [md_, jn_, bd_, bdE_, ixl, ix_, llN, lNl, tlN, tNl, eNl, lNN, tNN, eNN, aNl, alN, mlN, nI_add, pk_mul, neg_lt0, if_true, if_false, if_pos, if_neg, up2, uL1, cp2, gdT, gdb_, or_true, true_or, false_or, or_false, and_true, true_and, and_false, false_and, ifb0, ifb1, eq_self, t0, t1, t2, t3, t4, o10, o01, z139a, f_X10_fails]
  · obtain ⟨i, i1, i2, i3⟩ := fb_ct_kth hk
    refine Agr_ok (v := nI i) (mc' := mc) (mm' := s_up mm 110 0 0) ?_ ?_ (R_thr h) (upS _ _ _ _)
    · unfold f_X9_keyAt; rw [p_open o1, bd_, p_bits, bd_, p_ri hk (by omega), bd_, p_mem i1 i2 i3, bd_]
    · simp (disch := omega) only [md_, jn_, bd_, bdE_, ixl, ix_, llN, lNl, tlN, tNl, eNl, lNN, tNN, eNN, aNl, alN, mlN, nI_add, pk_mul, neg_lt0, if_true, if_false, if_pos, if_neg, up2, uL1, cp2, gdT, gdb_, or_true, true_or, false_or, or_false, and_true, true_and, and_false, false_and, ifb0, ifb1, eq_self, t0, t1, t2, t3, t4, o10, o01, z139a, f_X10_keyAt, o2, upS]
      rw [q_keyAt i1 hp i2 i3]
def tot (p : Nat → Bool) (v : Nat → Int32) (lo : Nat) : Nat → Int32
  | 0 => 0
  | n + 1 => if p (lo + n) then tot p v lo n + v (lo + n) else tot p v lo n
theorem p_sum {m : sM} {lo hi : Nat} (h1 : lo ≤ hi) (h2 : hi < 64) (e : Int32 → sM → Option (sR Int32)) : f_X9_sum_L33 (nI hi) e 5000 0 (nI lo) m = e (tot (lb (m.2 36 2)) (m.1 38) lo (hi + 1 - lo)) m := by
  refine lpE (fun g i (x : Int32) => f_X9_sum_L33 (nI hi) e g x (nI i) m) (fun i x => lo ≤ i ∧ x = tot (lb (m.2 36 2)) (m.1 38) lo (i - lo)) _ (hi + 1) ?_ ?_ (hi + 1 - lo) lo _ 5000 (by omega) (by omega) ⟨Nat.le_refl _, by rw [Nat.sub_self]; rfl⟩
  · intro i x g hi2 hx ih
    obtain ⟨hl, rfl⟩ := hx
    have := ih _ ⟨by omega, rfl⟩
    rw [show i + 1 - lo = (i - lo) + 1 by omega] at this
    have e2 : lo + (i - lo) = i := by omega
    cases hb : lb (m.2 36 2) i
    · rw [tot, e2, hb, if_neg (by decide)] at this
      simp (disch := omega) only [md_, jn_, bd_, bdE_, ixl, ix_, llN, lNl, tlN, tNl, eNl, lNN, tNN, eNN, aNl, alN, mlN, nI_add, pk_mul, neg_lt0, if_true, if_false, if_pos, if_neg, up2, uL1, cp2, gdT, gdb_, or_true, true_or, false_or, or_false, and_true, true_and, and_false, false_and, ifb0, ifb1, eq_self, t0, t1, t2, t3, t4, o10, o01, z139a, f_X9_sum_L33, p_isIn, hb, bi_f]
      exact this
    · rw [tot, e2, hb, if_pos rfl] at this
      simp (disch := omega) only [md_, jn_, bd_, bdE_, ixl, ix_, llN, lNl, tlN, tNl, eNl, lNN, tNN, eNN, aNl, alN, mlN, nI_add, pk_mul, neg_lt0, if_true, if_false, if_pos, if_neg, up2, uL1, cp2, gdT, gdb_, or_true, true_or, false_or, or_false, and_true, true_and, and_false, false_and, ifb0, ifb1, eq_self, t0, t1, t2, t3, t4, o10, o01, z139a, f_X9_sum_L33, p_isIn, hb, bi_t]
      exact this
  · intro x g hx
    obtain ⟨hl, rfl⟩ := hx
    simp (disch := omega) only [md_, jn_, bd_, bdE_, ixl, ix_, llN, lNl, tlN, tNl, eNl, lNN, tNN, eNN, aNl, alN, mlN, nI_add, pk_mul, neg_lt0, if_true, if_false, if_pos, if_neg, up2, uL1, cp2, gdT, gdb_, or_true, true_or, false_or, or_false, and_true, true_and, and_false, false_and, ifb0, ifb1, eq_self, t0, t1, t2, t3, t4, o10, o01, z139a, f_X9_sum_L33]
theorem q_sum {m : sM} {p : Nat → Bool} {v : Nat → Int32} {lo hi : Nat} (h1 : lo ≤ hi) (h2 : hi < 64) (h0 : m.1 110 0 = 0) (hp : ∀ k, k < 64 → m.1 115 k = bi (p k) ∧ (p k = true → v k = m.1 116 k)) (e : Int32 → Option (sR Int32)) : f_X10_sum_L44 (nI hi) m e 5000 0 (nI lo) = e (tot p v lo (hi + 1 - lo)) := by
  refine lpE (fun g i (x : Int32) => f_X10_sum_L44 (nI hi) m e g x (nI i)) (fun i x => lo ≤ i ∧ x = tot p v lo (i - lo)) _ (hi + 1) ?_ ?_ (hi + 1 - lo) lo _ 5000 (by omega) (by omega) ⟨Nat.le_refl _, by rw [Nat.sub_self]; rfl⟩
  · intro i x g hi2 hx ih
    obtain ⟨hl, rfl⟩ := hx
    have := ih _ ⟨by omega, rfl⟩
    rw [show i + 1 - lo = (i - lo) + 1 by omega] at this
    have e2 : lo + (i - lo) = i := by omega
    obtain ⟨hc, hv⟩ := hp i (by omega)
    cases hb : p i
    · rw [hb] at hc
      rw [tot, e2, hb, if_neg (by decide)] at this
      simp (disch := omega) only [md_, jn_, bd_, bdE_, ixl, ix_, llN, lNl, tlN, tNl, eNl, lNN, tNN, eNN, aNl, alN, mlN, nI_add, pk_mul, neg_lt0, if_true, if_false, if_pos, if_neg, up2, uL1, cp2, gdT, gdb_, or_true, true_or, false_or, or_false, and_true, true_and, and_false, false_and, ifb0, ifb1, eq_self, t0, t1, t2, t3, t4, o10, o01, z139a, f_X10_sum_L44, hc, bi_f, h0, Int32.add_zero]
      exact this
    · rw [hb] at hc
      rw [tot, e2, hb, if_pos rfl, hv hb] at this
      simp (disch := omega) only [md_, jn_, bd_, bdE_, ixl, ix_, llN, lNl, tlN, tNl, eNl, lNN, tNN, eNN, aNl, alN, mlN, nI_add, pk_mul, neg_lt0, if_true, if_false, if_pos, if_neg, up2, uL1, cp2, gdT, gdb_, or_true, true_or, false_or, or_false, and_true, true_and, and_false, false_and, ifb0, ifb1, eq_self, t0, t1, t2, t3, t4, o10, o01, z139a, f_X10_sum_L44, hc, bi_t, h0]
      exact this
  · intro x g hx
    obtain ⟨hl, rfl⟩ := hx
    simp (disch := omega) only [md_, jn_, bd_, bdE_, ixl, ix_, llN, lNl, tlN, tNl, eNl, lNN, tNN, eNN, aNl, alN, mlN, nI_add, pk_mul, neg_lt0, if_true, if_false, if_pos, if_neg, up2, uL1, cp2, gdT, gdb_, or_true, true_or, false_or, or_false, and_true, true_and, and_false, false_and, ifb0, ifb1, eq_self, t0, t1, t2, t3, t4, o10, o01, z139a, f_X10_sum_L44, h0]
theorem q_sumE {m : sM} {hi lo : Int32} (h0 : ¬ m.1 110 0 = 0) (e : Int32 → Option (sR Int32)) : f_X10_sum_L44 hi m e 5000 0 lo = e 0 := by
  refine lpE (fun g i (x : Int32) => f_X10_sum_L44 hi m e g 0 x) (fun i x => x = lo) _ 0 (fun i _ g hi => absurd hi (Nat.not_lt_zero i)) ?_ 0 0 _ 5000 (by omega) (by omega) rfl
  intro x g hx
  subst hx
  simp (disch := omega) only [md_, jn_, bd_, bdE_, ixl, ix_, llN, lNl, tlN, tNl, eNl, lNN, tNN, eNN, aNl, alN, mlN, nI_add, pk_mul, neg_lt0, if_true, if_false, if_pos, if_neg, up2, uL1, cp2, gdT, gdb_, or_true, true_or, false_or, or_false, and_true, true_and, and_false, false_and, ifb0, ifb1, eq_self, t0, t1, t2, t3, t4, o10, o01, z139a, f_X10_sum_L44, h0]
theorem n10 : ¬ (1 : Int32) = 0 := by decide
theorem n20 : ¬ (2 : Int32) = 0 := by decide
set_option maxRecDepth 100000 in
theorem k_sum {mc mm : sM} (h : R mc mm) (p1 p2 : Int32) : Agr [eIS, eIA] (f_X9_sum p1 p2 mc) (f_X10_sum p1 p2 mm) := by
  have u1 : ¬ (s_up mm 110 0 1).1 110 0 = 0 := by rw [upS]; exact n10
  have u2 : ¬ (s_up mm 110 0 2).1 110 0 = 0 := by rw [upS]; exact n20
  rcases R_open h with ⟨o1, o2⟩ | ⟨o1, o2⟩
  · refine Agr_ex (v := 0) 0 (mc' := mc) (mm' := s_up mm 110 0 1) ?_ ?_ (R_thr h) rfl (upS _ _ _ _)
    · unfold f_X9_sum; rw [p_openE o1, bdE_]
    · simp (disch := omega) only [md_, jn_, bd_, bdE_, ixl, ix_, llN, lNl, tlN, tNl, eNl, lNN, tNN, eNN, aNl, alN, mlN, nI_add, pk_mul, neg_lt0, if_true, if_false, if_pos, if_neg, up2, uL1, cp2, gdT, gdb_, or_true, true_or, false_or, or_false, and_true, true_and, and_false, false_and, ifb0, ifb1, eq_self, t0, t1, t2, t3, t4, o10, o01, z139a, f_X10_sum, o2, q_sumE u1]
  rcases bad_or 64 (by decide) p1 with hb | ⟨lo, hlo, rfl⟩
  · refine Agr_ex (v := 0) 1 (mc' := mc) (mm' := s_up mm 110 0 2) ?_ ?_ (R_thr h) rfl (upS _ _ _ _)
    · unfold f_X9_sum; rw [p_open o1, bd_, p_keyE hb, bdE_]
    · simp (disch := omega) only [md_, jn_, bd_, bdE_, ixl, ix_, llN, lNl, tlN, tNl, eNl, lNN, tNN, eNN, aNl, alN, mlN, nI_add, pk_mul, neg_lt0, if_true, if_false, if_pos, if_neg, up2, uL1, cp2, gdT, gdb_, or_true, true_or, false_or, or_false, and_true, true_and, and_false, false_and, ifb0, ifb1, eq_self, t0, t1, t2, t3, t4, o10, o01, z139a, f_X10_sum, o2, q_keyE hb, q_sumE u2]
  rcases bad_or 64 (by decide) p2 with hb | ⟨hi, hhi, rfl⟩
  · refine Agr_ex (v := 0) 1 (mc' := mc) (mm' := s_up mm 110 0 2) ?_ ?_ (R_thr h) rfl (upS _ _ _ _)
    · unfold f_X9_sum; rw [p_open o1, bd_, p_key hlo, bd_, p_keyE hb, bdE_]
    · simp (disch := omega) only [md_, jn_, bd_, bdE_, ixl, ix_, llN, lNl, tlN, tNl, eNl, lNN, tNN, eNN, aNl, alN, mlN, nI_add, pk_mul, neg_lt0, if_true, if_false, if_pos, if_neg, up2, uL1, cp2, gdT, gdb_, or_true, true_or, false_or, or_false, and_true, true_and, and_false, false_and, ifb0, ifb1, eq_self, t0, t1, t2, t3, t4, o10, o01, z139a, f_X10_sum, o2, q_key hlo, q_keyE hb, q_sumE u2]
  by_cases hle : lo ≤ hi
  · refine Agr_ok (v := tot (lb (mc.2 36 2)) (mc.1 38) lo (hi + 1 - lo)) (mc' := mc) (mm' := s_up mm 110 0 0) ?_ ?_ (R_thr h) (upS _ _ _ _)
    · unfold f_X9_sum; rw [p_open o1, bd_, p_key hlo, bd_, p_key hhi, bd_, if_pos (nI_le hle (by omega)), jn_, p_sum hle hhi]
    · simp (disch := omega) only [md_, jn_, bd_, bdE_, ixl, ix_, llN, lNl, tlN, tNl, eNl, lNN, tNN, eNN, aNl, alN, mlN, nI_add, pk_mul, neg_lt0, if_true, if_false, if_pos, if_neg, up2, uL1, cp2, gdT, gdb_, or_true, true_or, false_or, or_false, and_true, true_and, and_false, false_and, ifb0, ifb1, eq_self, t0, t1, t2, t3, t4, o10, o01, z139a, f_X10_sum, o2, q_key hlo, q_key hhi]
      rw [q_sum (p := lb (mc.2 36 2)) (v := mc.1 38) hle hhi (upS _ _ _ _) (fun k hk => R_has' h hk)]
  · refine Agr_ex (v := 0) 1 (mc' := mc) (mm' := s_up mm 110 0 2) ?_ ?_ (R_thr h) rfl (upS _ _ _ _)
    · unfold f_X9_sum; rw [p_open o1, bd_, p_key hlo, bd_, p_key hhi, bd_, if_neg (nI_ge (by omega) (by omega))]
    · simp (disch := omega) only [md_, jn_, bd_, bdE_, ixl, ix_, llN, lNl, tlN, tNl, eNl, lNN, tNN, eNN, aNl, alN, mlN, nI_add, pk_mul, neg_lt0, if_true, if_false, if_pos, if_neg, up2, uL1, cp2, gdT, gdb_, or_true, true_or, false_or, or_false, and_true, true_and, and_false, false_and, ifb0, ifb1, eq_self, t0, t1, t2, t3, t4, o10, o01, z139a, f_X10_sum, o2, q_key hlo, q_key hhi, q_sumE u2]
