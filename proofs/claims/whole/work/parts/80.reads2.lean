/-! PURE: more calls that read; the disk. -/
theorem q_inA {j b : Nat} (hj : j ≤ b) (hb : b < 2 ^ 31) (m : sM) : f_X10_in (nI j) 0 (no_index (OfNat.ofNat b)) m = some (.inl 1, m) := q_in (a := 0) (by omega) hb m (Nat.zero_le _) hj
theorem q_inAE {p : Int32} {b : Nat} (h : Bad (b + 1) p) (hb : b + 1 < 2 ^ 31) (m : sM) : f_X10_in p 0 (no_index (OfNat.ofNat b)) m = some (.inl 0, m) := q_inE hb h m
theorem q_inN {j n : Nat} (hj : j < n) (hn : n < 2 ^ 31) (m : sM) : f_X10_in (nI j) 0 (nI n - 1) m = some (.inl 1, m) := by
  have e : nI n - 1 = nI (n - 1) := by
    have := nI_pred (n - 1)
    rwa [Nat.sub_add_cancel (by omega)] at this
  rw [e]
  exact q_inT (nI_pos (by omega)) (nI_nlt (by omega) (by omega)) m
theorem q_inNE {p : Int32} {n : Nat} (h : Bad n p) (hn : n < 2 ^ 31) (m : sM) : f_X10_in p 0 (nI n - 1) m = some (.inl 0, m) := by
  rcases Nat.eq_zero_or_pos n with rfl | h0
  · refine q_inF ?_ m
    by_cases h1 : p < 0
    · exact Or.inl h1
    · refine Or.inr ?_
      have : nI 0 - 1 = -1 := by decide
      rw [this]
      have h2 := h.resolve_left h1
      rw [Int32.le_iff_toInt_le, nI_toInt (by decide)] at h2
      rw [Int32.lt_iff_toInt_lt]
      have h3 : (-1 : Int32).toInt = -1 := by decide
      omega
  · have e : nI n - 1 = nI (n - 1) := by
      have := nI_pred (n - 1)
      rwa [Nat.sub_add_cancel (by omega)] at this
    rw [e]
    refine q_inF (h.elim Or.inl fun h1 => Or.inr (ge_gt (by omega) ?_)) m
    rw [Nat.sub_add_cancel (by omega)]
    exact h1
theorem k_pageBlock {mc mm : sM} (h : R mc mm) (p1 : Int32) : Agr [eIS, eIO] (f_X9_pageBlock p1 mc) (f_X10_pageBlock p1 mm) := by
  rcases R_open h with ⟨o1, o2⟩ | ⟨o1, o2⟩
  · refine Agr_ex (v := 0) 0 (mc' := mc) (mm' := s_up mm 110 0 1) ?_ ?_ (R_thr h) rfl (upS _ _ _ _)
    · unfold f_X9_pageBlock; rw [p_openE o1, bdE_]
    · simp (disch := omega) only [md_, jn_, bd_, bdE_, ixl, ix_, llN, lNl, tlN, tNl, eNl, lNN, tNN, eNN, aNl, alN, mlN, nI_add, pk_mul, neg_lt0, if_true, if_false, if_pos, if_neg, up2, uL1, cp2, gdT, gdb_, or_true, true_or, false_or, or_false, and_true, true_and, and_false, false_and, ifb0, ifb1, eq_self, t0, t1, t2, t3, t4, o10, o01, z139a, f_X10_pageBlock, o2, upS]
  rcases bad_or 8 (by decide) p1 with hb | ⟨k, hk, rfl⟩
  · refine Agr_ex (v := 0) 1 (mc' := mc) (mm' := s_up mm 110 0 2) ?_ ?_ (R_thr h) rfl (upS _ _ _ _)
    · unfold f_X9_pageBlock; rw [p_open o1, bd_, p_riLE hb, bdE_]
    · have e := q_inAE (b := 7) hb (by decide) mm
      simp (disch := omega) only [md_, jn_, bd_, bdE_, ixl, ix_, llN, lNl, tlN, tNl, eNl, lNN, tNN, eNN, aNl, alN, mlN, nI_add, pk_mul, neg_lt0, if_true, if_false, if_pos, if_neg, up2, uL1, cp2, gdT, gdb_, or_true, true_or, false_or, or_false, and_true, true_and, and_false, false_and, ifb0, ifb1, eq_self, t0, t1, t2, t3, t4, o10, o01, z139a, f_X10_pageBlock, o2, e, upS]
  · refine Agr_ok (v := mc.1 37 k) (mc' := mc) (mm' := s_up mm 110 0 0) ?_ ?_ (R_thr h) (upS _ _ _ _)
    · unfold f_X9_pageBlock; rw [p_open o1, bd_, p_riL hk (by decide), bd_, ix_ _ hk (by decide)]
    · have e := q_inA (j := k) (b := 7) (by omega) (by decide) mm
      have hv := (h.2.2.1.1.2.2.2.1 k hk).1
      rw [Nat.mul_zero, Nat.zero_add] at hv
      simp (disch := omega) only [md_, jn_, bd_, bdE_, ixl, ix_, llN, lNl, tlN, tNl, eNl, lNN, tNN, eNN, aNl, alN, mlN, nI_add, pk_mul, neg_lt0, if_true, if_false, if_pos, if_neg, up2, uL1, cp2, gdT, gdb_, or_true, true_or, false_or, or_false, and_true, true_and, and_false, false_and, ifb0, ifb1, eq_self, t0, t1, t2, t3, t4, o10, o01, z139a, f_X10_pageBlock, o2, e, up1, hv]
theorem k_logSize {mc mm : sM} (h : R mc mm) : Agr [] (f_X9_logSize mc) (f_X10_logSize mm) := by
  obtain ⟨n, n1, e1, e2, e3⟩ := h.2.2.2.2.2.2.2.2.1
  refine Agr_ok (v := nI n) (mc' := mc) (mm' := s_up mm 110 0 0) ?_ ?_ (R_thr h) (upS _ _ _ _)
  · unfold f_X9_logSize; rw [e1]
  · simp (disch := omega) only [md_, jn_, bd_, bdE_, ixl, ix_, llN, lNl, tlN, tNl, eNl, lNN, tNN, eNN, aNl, alN, mlN, nI_add, pk_mul, neg_lt0, if_true, if_false, if_pos, if_neg, up2, uL1, cp2, gdT, gdb_, or_true, true_or, false_or, or_false, and_true, true_and, and_false, false_and, ifb0, ifb1, eq_self, t0, t1, t2, t3, t4, o10, o01, z139a, f_X10_logSize, up1, e2]
theorem k_logged {mc mm : sM} (h : R mc mm) (p1 p2 : Int32) : Agr [eIO, eIA] (f_X9_logged p1 p2 mc) (f_X10_logged p1 p2 mm) := by
  obtain ⟨n, n1, e1, e2, e3⟩ := h.2.2.2.2.2.2.2.2.1
  rcases bad_or n (by omega) p1 with hb | ⟨r, hr, rfl⟩
  · refine Agr_ex (v := 0) 0 (mc' := mc) (mm' := s_up mm 110 0 1) ?_ ?_ (R_thr h) rfl (upS _ _ _ _)
    · unfold f_X9_logged; rw [e1, p_riE hb, bdE_]
    · simp (disch := omega) only [md_, jn_, bd_, bdE_, ixl, ix_, llN, lNl, tlN, tNl, eNl, lNN, tNN, eNN, aNl, alN, mlN, nI_add, pk_mul, neg_lt0, if_true, if_false, if_pos, if_neg, up2, uL1, cp2, gdT, gdb_, or_true, true_or, false_or, or_false, and_true, true_and, and_false, false_and, ifb0, ifb1, eq_self, t0, t1, t2, t3, t4, o10, o01, z139a, f_X10_logged, e2, q_inNE hb, upS]
  rcases bad_or 4 (by decide) p2 with hb | ⟨w, hw, rfl⟩
  · refine Agr_ex (v := 0) 1 (mc' := mc) (mm' := s_up mm 110 0 2) ?_ ?_ (R_thr h) rfl (upS _ _ _ _)
    · unfold f_X9_logged; rw [e1, p_ri hr (by omega), bd_, p_whatE hb, bdE_]
    · have e := q_inAE (b := 3) hb (by decide) mm
      simp (disch := omega) only [md_, jn_, bd_, bdE_, ixl, ix_, llN, lNl, tlN, tNl, eNl, lNN, tNN, eNN, aNl, alN, mlN, nI_add, pk_mul, neg_lt0, if_true, if_false, if_pos, if_neg, up2, uL1, cp2, gdT, gdb_, or_true, true_or, false_or, or_false, and_true, true_and, and_false, false_and, ifb0, ifb1, eq_self, t0, t1, t2, t3, t4, o10, o01, z139a, f_X10_logged, e2, q_inN hr, e, upS]
  · refine Agr_ok (v := mc.1 (96 + 1 * r) w) (mc' := mc) (mm' := s_up mm 110 0 0) ?_ ?_ (R_thr h) (upS _ _ _ _)
    · unfold f_X9_logged; rw [e1, p_ri hr (by omega), bd_, p_what hw (by decide), bd_, ix_ _ (by omega) (by decide), ix_ _ hw (by decide)]
    · have e := q_inA (j := w) (b := 3) (by omega) (by decide) mm
      have hv := e3 r w (by omega) hw
      rw [Nat.one_mul]
      simp (disch := omega) only [md_, jn_, bd_, bdE_, ixl, ix_, llN, lNl, tlN, tNl, eNl, lNN, tNN, eNN, aNl, alN, mlN, nI_add, pk_mul, neg_lt0, if_true, if_false, if_pos, if_neg, up2, uL1, cp2, gdT, gdb_, or_true, true_or, false_or, or_false, and_true, true_and, and_false, false_and, ifb0, ifb1, eq_self, t0, t1, t2, t3, t4, o10, o01, z139a, f_X10_logged, e2, q_inN hr, e, up1, hv]
theorem k_statistic {mc mm : sM} (h : R mc mm) (p1 : Int32) : Agr [eIA] (f_X9_statistic p1 mc) (f_X10_statistic p1 mm) := by
  rcases bad_or 8 (by decide) p1 with hb | ⟨w, hw, rfl⟩
  · refine Agr_ex (v := 0) 0 (mc' := mc) (mm' := s_up mm 110 0 1) ?_ ?_ (R_thr h) rfl (upS _ _ _ _)
    · unfold f_X9_statistic; rw [p_whatE hb, bdE_]
    · have e := q_inAE (b := 7) hb (by decide) mm
      simp (disch := omega) only [md_, jn_, bd_, bdE_, ixl, ix_, llN, lNl, tlN, tNl, eNl, lNN, tNN, eNN, aNl, alN, mlN, nI_add, pk_mul, neg_lt0, if_true, if_false, if_pos, if_neg, up2, uL1, cp2, gdT, gdb_, or_true, true_or, false_or, or_false, and_true, true_and, and_false, false_and, ifb0, ifb1, eq_self, t0, t1, t2, t3, t4, o10, o01, z139a, f_X10_statistic, e, upS]
  · refine Agr_ok (v := mc.1 108 w) (mc' := mc) (mm' := s_up mm 110 0 0) ?_ ?_ (R_thr h) (upS _ _ _ _)
    · unfold f_X9_statistic; rw [p_what hw (by decide), bd_, ix_ _ hw (by decide)]
    · have e := q_inA (j := w) (b := 7) (by omega) (by decide) mm
      have hv := h.2.2.2.2.2.2.2.2.2.1 w hw
      simp (disch := omega) only [md_, jn_, bd_, bdE_, ixl, ix_, llN, lNl, tlN, tNl, eNl, lNN, tNN, eNN, aNl, alN, mlN, nI_add, pk_mul, neg_lt0, if_true, if_false, if_pos, if_neg, up2, uL1, cp2, gdT, gdb_, or_true, true_or, false_or, or_false, and_true, true_and, and_false, false_and, ifb0, ifb1, eq_self, t0, t1, t2, t3, t4, o10, o01, z139a, f_X10_statistic, e, up1, hv]
/-! pins -/
theorem R_pin {mc mm : sM} (h : R mc mm) {p : Nat} (hp : p < 2) : (mc.1 49 p = 0 ∧ mm.1 117 p = 0) ∨ (mc.1 49 p = 1 ∧ mm.1 117 p = 1 ∧ rVer mc mm (42 + 3 * p) (1 + p)) := by
  obtain ⟨b, h1, h2, h3⟩ := h.2.2.2.1 p hp
  cases b
  · exact Or.inl ⟨h1, h2⟩
  · exact Or.inr ⟨h1, h2, h3 rfl⟩
theorem k_pinnedCommit {mc mm : sM} (h : R mc mm) (p1 : Int32) : Agr [eIO, eIS] (f_X9_pinnedCommit p1 mc) (f_X10_pinnedCommit p1 mm) := by
  rcases bad_or 2 (by decide) p1 with hb | ⟨p, hp, rfl⟩
  · refine Agr_ex (v := 0) 0 (mc' := mc) (mm' := s_up mm 110 0 1) ?_ ?_ (R_thr h) rfl (upS _ _ _ _)
    · unfold f_X9_pinnedCommit; rw [p_riLE hb, bdE_]
    · simp (disch := omega) only [md_, jn_, bd_, bdE_, ixl, ix_, llN, lNl, tlN, tNl, eNl, lNN, tNN, eNN, aNl, alN, mlN, nI_add, pk_mul, neg_lt0, if_true, if_false, if_pos, if_neg, up2, uL1, cp2, gdT, gdb_, or_true, true_or, false_or, or_false, and_true, true_and, and_false, false_and, ifb0, ifb1, eq_self, t0, t1, t2, t3, t4, o10, o01, z139a, f_X10_pinnedCommit, q_pinE hb, upS]
  rcases R_pin h hp with ⟨o1, o2⟩ | ⟨o1, o2, hv⟩
  · refine Agr_ex (v := 0) 1 (mc' := mc) (mm' := s_up mm 110 0 2) ?_ ?_ (R_thr h) rfl (upS _ _ _ _)
    · unfold f_X9_pinnedCommit; rw [p_riL hp (by decide), bd_, p_pinnedE hp o1, bdE_]
    · simp (disch := omega) only [md_, jn_, bd_, bdE_, ixl, ix_, llN, lNl, tlN, tNl, eNl, lNN, tNN, eNN, aNl, alN, mlN, nI_add, pk_mul, neg_lt0, if_true, if_false, if_pos, if_neg, up2, uL1, cp2, gdT, gdb_, or_true, true_or, false_or, or_false, and_true, true_and, and_false, false_and, ifb0, ifb1, eq_self, t0, t1, t2, t3, t4, o10, o01, z139a, f_X10_pinnedCommit, q_pin hp, o2, upS]
  · refine Agr_ok (v := mc.1 (42 + 3 * p) 3) (mc' := mc) (mm' := s_up mm 110 0 0) ?_ ?_ (R_thr h) (upS _ _ _ _)
    · unfold f_X9_pinnedCommit; rw [p_riL hp (by decide), bd_, p_pinned hp o1, bd_, ix_ _ hp (by decide)]
    · simp (disch := omega) only [md_, jn_, bd_, bdE_, ixl, ix_, llN, lNl, tlN, tNl, eNl, lNN, tNN, eNN, aNl, alN, mlN, nI_add, pk_mul, neg_lt0, if_true, if_false, if_pos, if_neg, up2, uL1, cp2, gdT, gdb_, or_true, true_or, false_or, or_false, and_true, true_and, and_false, false_and, ifb0, ifb1, eq_self, t0, t1, t2, t3, t4, o10, o01, z139a, f_X10_pinnedCommit, q_pin hp, o2, up1, hv.1]
theorem k_pinnedValue {mc mm : sM} (h : R mc mm) (p1 p2 : Int32) : Agr [eIO, eIA, eIS, eNS] (f_X9_pinnedValue p1 p2 mc) (f_X10_pinnedValue p1 p2 mm) := by
  rcases bad_or 2 (by decide) p1 with hb | ⟨p, hp, rfl⟩
  · refine Agr_ex (v := 0) 0 (mc' := mc) (mm' := s_up mm 110 0 1) ?_ ?_ (R_thr h) rfl (upS _ _ _ _)
    · unfold f_X9_pinnedValue; rw [p_riLE hb, bdE_]
    · simp (disch := omega) only [md_, jn_, bd_, bdE_, ixl, ix_, llN, lNl, tlN, tNl, eNl, lNN, tNN, eNN, aNl, alN, mlN, nI_add, pk_mul, neg_lt0, if_true, if_false, if_pos, if_neg, up2, uL1, cp2, gdT, gdb_, or_true, true_or, false_or, or_false, and_true, true_and, and_false, false_and, ifb0, ifb1, eq_self, t0, t1, t2, t3, t4, o10, o01, z139a, f_X10_pinnedValue, q_pinE hb, upS]
  rcases bad_or 64 (by decide) p2 with hb | ⟨k, hk, rfl⟩
  · refine Agr_ex (v := 0) 1 (mc' := mc) (mm' := s_up mm 110 0 2) ?_ ?_ (R_thr h) rfl (upS _ _ _ _)
    · unfold f_X9_pinnedValue; rw [p_riL hp (by decide), bd_, p_keyE hb, bdE_]
    · simp (disch := omega) only [md_, jn_, bd_, bdE_, ixl, ix_, llN, lNl, tlN, tNl, eNl, lNN, tNN, eNN, aNl, alN, mlN, nI_add, pk_mul, neg_lt0, if_true, if_false, if_pos, if_neg, up2, uL1, cp2, gdT, gdb_, or_true, true_or, false_or, or_false, and_true, true_and, and_false, false_and, ifb0, ifb1, eq_self, t0, t1, t2, t3, t4, o10, o01, z139a, f_X10_pinnedValue, q_pin hp, q_keyE hb, upS]
  rcases R_pin h hp with ⟨o1, o2⟩ | ⟨o1, o2, hv⟩
  · refine Agr_ex (v := 0) 2 (mc' := mc) (mm' := s_up mm 110 0 3) ?_ ?_ (R_thr h) rfl (upS _ _ _ _)
    · unfold f_X9_pinnedValue; rw [p_riL hp (by decide), bd_, p_key hk, bd_, p_pinnedE hp o1, bdE_]
    · simp (disch := omega) only [md_, jn_, bd_, bdE_, ixl, ix_, llN, lNl, tlN, tNl, eNl, lNN, tNN, eNN, aNl, alN, mlN, nI_add, pk_mul, neg_lt0, if_true, if_false, if_pos, if_neg, up2, uL1, cp2, gdT, gdb_, or_true, true_or, false_or, or_false, and_true, true_and, and_false, false_and, ifb0, ifb1, eq_self, t0, t1, t2, t3, t4, o10, o01, z139a, f_X10_pinnedValue, q_pin hp, q_key hk, o2, upS]
  obtain ⟨v1, v2⟩ := hv.2.2.2.2 k hk
  cases hb : lb (mc.2 (42 + 3 * p) 2) k
  · refine Agr_ex (v := 0) 3 (mc' := mc) (mm' := s_up mm 110 0 4) ?_ ?_ (R_thr h) rfl (upS _ _ _ _)
    · unfold f_X9_pinnedValue; rw [p_riL hp (by decide), bd_, p_key hk, bd_, p_pinned hp o1, bd_, ix_ _ hp (by decide), p_recE hk hb, bdE_]
    · rw [hb] at v1
      simp (disch := omega) only [md_, jn_, bd_, bdE_, ixl, ix_, llN, lNl, tlN, tNl, eNl, lNN, tNN, eNN, aNl, alN, mlN, nI_add, pk_mul, neg_lt0, if_true, if_false, if_pos, if_neg, up2, uL1, cp2, gdT, gdb_, or_true, true_or, false_or, or_false, and_true, true_and, and_false, false_and, ifb0, ifb1, eq_self, t0, t1, t2, t3, t4, o10, o01, z139a, f_X10_pinnedValue, q_pin hp, q_key hk, o2, v1, bi_f, upS]
  · refine Agr_ok (v := mc.1 (42 + 3 * p + 2) k) (mc' := mc) (mm' := s_up mm 110 0 0) ?_ ?_ (R_thr h) (upS _ _ _ _)
    · unfold f_X9_pinnedValue; rw [p_riL hp (by decide), bd_, p_key hk, bd_, p_pinned hp o1, bd_, ix_ _ hp (by decide), p_rec hk hb, bd_]
    · rw [hb] at v1
      simp (disch := omega) only [md_, jn_, bd_, bdE_, ixl, ix_, llN, lNl, tlN, tNl, eNl, lNN, tNN, eNN, aNl, alN, mlN, nI_add, pk_mul, neg_lt0, if_true, if_false, if_pos, if_neg, up2, uL1, cp2, gdT, gdb_, or_true, true_or, false_or, or_false, and_true, true_and, and_false, false_and, ifb0, ifb1, eq_self, t0, t1, t2, t3, t4, o10, o01, z139a, f_X10_pinnedValue, q_pin hp, q_key hk, o2, v1, bi_t, up1, v2 hb]
/-! the disk -/
def ck (g : Nat → Int32) (h : Int32) : Nat → Int32
  | 0 => h
  | n + 1 => 31 * ck g h n + g n
theorem ck_cong {g g' : Nat → Int32} {h : Int32} : ∀ {n : Nat}, (∀ c, c < n → g c = g' c) → ck g h n = ck g' h n
  | 0, _ => rfl
  | n + 1, w => by rw [ck, ck, ck_cong (fun c hc => w c (by omega)), w n (by omega)]
theorem p_ck {b : Nat} (hb : b < 32) (m : sM) : f_X1_computeChecksum (nI b) m = some (.inl (ck (m.1 (4 + b)) (nI (b + 17)) 12), m) := by
  unfold f_X1_computeChecksum
  rw [jn_, show nI b + 17 = nI (b + 17) from nI_add b 17]
  refine lpE (fun g i (x : Int32) => f_X1_computeChecksum_L7 (nI b) m _ g x (nI i)) (fun i x => x = ck (m.1 (4 + b)) (nI (b + 17)) i) _ 12 ?_ ?_ 12 0 _ 5000 rfl (by decide) rfl
  · intro i x g hi hx ih
    have := ih _ rfl
    rw [ck] at this
    subst hx
    simp (disch := omega) only [md_, jn_, bd_, bdE_, ixl, ix_, llN, lNl, tlN, tNl, eNl, lNN, tNN, eNN, aNl, alN, mlN, nI_add, pk_mul, neg_lt0, if_true, if_false, if_pos, if_neg, up2, uL1, cp2, gdT, gdb_, or_true, true_or, false_or, or_false, and_true, true_and, and_false, false_and, ifb0, ifb1, eq_self, t0, t1, t2, t3, t4, o10, o01, z139a, f_X1_computeChecksum_L7, Nat.one_mul]
    exact this
  · intro x g hx
    subst hx
    simp (disch := omega) only [md_, jn_, bd_, bdE_, ixl, ix_, llN, lNl, tlN, tNl, eNl, lNN, tNN, eNN, aNl, alN, mlN, nI_add, pk_mul, neg_lt0, if_true, if_false, if_pos, if_neg, up2, uL1, cp2, gdT, gdb_, or_true, true_or, false_or, or_false, and_true, true_and, and_false, false_and, ifb0, ifb1, eq_self, t0, t1, t2, t3, t4, o10, o01, z139a, f_X1_computeChecksum_L7]
theorem q_ck {b : Nat} (hb : b < 32) (m : sM) : f_X10_sumOf (nI b) m = some (.inl (ck (fun c => m.1 111 (13 * b + c)) (nI (b + 17)) 12), m) := by
  unfold f_X10_sumOf
  rw [jn_, show nI b + 17 = nI (b + 17) from nI_add b 17]
  refine lpE (fun g i (x : Int32) => f_X10_sumOf_L7 (nI b) _ g x (nI i) m) (fun i x => x = ck (fun c => m.1 111 (13 * b + c)) (nI (b + 17)) i) _ 12 ?_ ?_ 12 0 _ 5000 rfl (by decide) rfl
  · intro i x g hi hx ih
    have := ih _ rfl
    rw [ck] at this
    subst hx
    simp (disch := omega) only [md_, jn_, bd_, bdE_, ixl, ix_, llN, lNl, tlN, tNl, eNl, lNN, tNN, eNN, aNl, alN, mlN, nI_add, pk_mul, neg_lt0, if_true, if_false, if_pos, if_neg, up2, uL1, cp2, gdT, gdb_, or_true, true_or, false_or, or_false, and_true, true_and, and_false, false_and, ifb0, ifb1, eq_self, t0, t1, t2, t3, t4, o10, o01, z139a, f_X10_sumOf_L7, f_X10_at]
    exact this
  · intro x g hx
    subst hx
    simp (disch := omega) only [md_, jn_, bd_, bdE_, ixl, ix_, llN, lNl, tlN, tNl, eNl, lNN, tNN, eNN, aNl, alN, mlN, nI_add, pk_mul, neg_lt0, if_true, if_false, if_pos, if_neg, up2, uL1, cp2, gdT, gdb_, or_true, true_or, false_or, or_false, and_true, true_and, and_false, false_and, ifb0, ifb1, eq_self, t0, t1, t2, t3, t4, o10, o01, z139a, f_X10_sumOf_L7]
theorem R_ck {mc mm : sM} (h : rDisk mc mm) {b : Nat} (hb : b < 32) : ck (fun c => mm.1 111 (13 * b + c)) (nI (b + 17)) 12 = ck (mc.1 (4 + b)) (nI (b + 17)) 12 := ck_cong fun c hc => (h b c hb (by omega)).symm
theorem k_checksum {mc mm : sM} (h : R mc mm) (p1 : Int32) : Agr [eIO] (f_X9_checksum p1 mc) (f_X10_checksum p1 mm) := by
  rcases bad_or 32 (by decide) p1 with hb | ⟨b, hb, rfl⟩
  · refine Agr_ex (v := 0) 0 (mc' := mc) (mm' := s_up mm 110 0 1) ?_ ?_ (R_thr h) rfl (upS _ _ _ _)
    · unfold f_X9_checksum; rw [p_riLE hb, bdE_]
    · simp (disch := omega) only [md_, jn_, bd_, bdE_, ixl, ix_, llN, lNl, tlN, tNl, eNl, lNN, tNN, eNN, aNl, alN, mlN, nI_add, pk_mul, neg_lt0, if_true, if_false, if_pos, if_neg, up2, uL1, cp2, gdT, gdb_, or_true, true_or, false_or, or_false, and_true, true_and, and_false, false_and, ifb0, ifb1, eq_self, t0, t1, t2, t3, t4, o10, o01, z139a, f_X10_checksum, q_blockE hb, upS]
  · refine Agr_ok (v := ck (mc.1 (4 + b)) (nI (b + 17)) 12) (mc' := mc) (mm' := s_up mm 110 0 0) ?_ ?_ (R_thr h) (upS _ _ _ _)
    · unfold f_X9_checksum; rw [p_riL hb (by decide), bd_, p_ck hb, bd_]
    · have e := R_ck (R_thr (t := 0) h).1 hb
      simp (disch := omega) only [md_, jn_, bd_, bdE_, ixl, ix_, llN, lNl, tlN, tNl, eNl, lNN, tNN, eNN, aNl, alN, mlN, nI_add, pk_mul, neg_lt0, if_true, if_false, if_pos, if_neg, up2, uL1, cp2, gdT, gdb_, or_true, true_or, false_or, or_false, and_true, true_and, and_false, false_and, ifb0, ifb1, eq_self, t0, t1, t2, t3, t4, o10, o01, z139a, f_X10_checksum, q_block hb, upS, q_ck hb, e]
/-- has a block the right checksum -/
def okc (m : sM) (b : Nat) : Bool := decide (m.1 (4 + b) 12 = ck (m.1 (4 + b)) (nI (b + 17)) 12)
theorem p_okc {b : Nat} (hb : b < 32) (m : sM) : f_X1_hasRightChecksum (nI b) m = some (.inl (bi (okc m b)), m) := by
  unfold okc
  by_cases h : m.1 (4 + b) 12 = ck (m.1 (4 + b)) (nI (b + 17)) 12
  · rw [decide_eq_true h]
    simp (disch := omega) only [md_, jn_, bd_, bdE_, ixl, ix_, llN, lNl, tlN, tNl, eNl, lNN, tNN, eNN, aNl, alN, mlN, nI_add, pk_mul, neg_lt0, if_true, if_false, if_pos, if_neg, up2, uL1, cp2, gdT, gdb_, or_true, true_or, false_or, or_false, and_true, true_and, and_false, false_and, ifb0, ifb1, eq_self, t0, t1, t2, t3, t4, o10, o01, z139a, f_X1_hasRightChecksum, p_ck hb, Nat.one_mul, h]
    rfl
  · rw [decide_eq_false h]
    simp (disch := omega) only [md_, jn_, bd_, bdE_, ixl, ix_, llN, lNl, tlN, tNl, eNl, lNN, tNN, eNN, aNl, alN, mlN, nI_add, pk_mul, neg_lt0, if_true, if_false, if_pos, if_neg, up2, uL1, cp2, gdT, gdb_, or_true, true_or, false_or, or_false, and_true, true_and, and_false, false_and, ifb0, ifb1, eq_self, t0, t1, t2, t3, t4, o10, o01, z139a, f_X1_hasRightChecksum, p_ck hb, Nat.one_mul, h]
    rfl
theorem q_okc {mc mm : sM} (h : rDisk mc mm) {b : Nat} (hb : b < 32) : f_X10_valid (nI b) mm = some (.inl (bi (okc mc b)), mm) := by
  have e := R_ck h hb
  have e2 := h b 12 hb (by decide)
  unfold okc
  by_cases w : mc.1 (4 + b) 12 = ck (mc.1 (4 + b)) (nI (b + 17)) 12
  · rw [decide_eq_true w]
    rw [e2] at w
    simp (disch := omega) only [md_, jn_, bd_, bdE_, ixl, ix_, llN, lNl, tlN, tNl, eNl, lNN, tNN, eNN, aNl, alN, mlN, nI_add, pk_mul, neg_lt0, if_true, if_false, if_pos, if_neg, up2, uL1, cp2, gdT, gdb_, or_true, true_or, false_or, or_false, and_true, true_and, and_false, false_and, ifb0, ifb1, eq_self, t0, t1, t2, t3, t4, o10, o01, z139a, f_X10_valid, f_X10_at, q_ck hb, e]
    rfl
  · rw [decide_eq_false w]
    rw [e2] at w
    simp (disch := omega) only [md_, jn_, bd_, bdE_, ixl, ix_, llN, lNl, tlN, tNl, eNl, lNN, tNN, eNN, aNl, alN, mlN, nI_add, pk_mul, neg_lt0, if_true, if_false, if_pos, if_neg, up2, uL1, cp2, gdT, gdb_, or_true, true_or, false_or, or_false, and_true, true_and, and_false, false_and, ifb0, ifb1, eq_self, t0, t1, t2, t3, t4, o10, o01, z139a, f_X10_valid, f_X10_at, q_ck hb, e, w]
    rfl
theorem k_isValid {mc mm : sM} (h : R mc mm) (p1 : Int32) : Agr [eIO] (f_X9_isValid p1 mc) (f_X10_isValid p1 mm) := by
  rcases bad_or 32 (by decide) p1 with hb | ⟨b, hb, rfl⟩
  · refine Agr_ex (v := 0) 0 (mc' := mc) (mm' := s_up mm 110 0 1) ?_ ?_ (R_thr h) rfl (upS _ _ _ _)
    · unfold f_X9_isValid; rw [p_riLE hb, bdE_]
    · simp (disch := omega) only [md_, jn_, bd_, bdE_, ixl, ix_, llN, lNl, tlN, tNl, eNl, lNN, tNN, eNN, aNl, alN, mlN, nI_add, pk_mul, neg_lt0, if_true, if_false, if_pos, if_neg, up2, uL1, cp2, gdT, gdb_, or_true, true_or, false_or, or_false, and_true, true_and, and_false, false_and, ifb0, ifb1, eq_self, t0, t1, t2, t3, t4, o10, o01, z139a, f_X10_isValid, q_blockE hb, upS]
  · refine Agr_ok (v := bi (okc mc b)) (mc' := mc) (mm' := s_up mm 110 0 0) ?_ ?_ (R_thr h) (upS _ _ _ _)
    · unfold f_X9_isValid; rw [p_riL hb (by decide), bd_, p_okc hb, bd_, gdb_]
    · have e := q_okc (R_thr (t := 0) h).1 hb
      cases hv : okc mc b
      · rw [hv] at e
        simp (disch := omega) only [md_, jn_, bd_, bdE_, ixl, ix_, llN, lNl, tlN, tNl, eNl, lNN, tNN, eNN, aNl, alN, mlN, nI_add, pk_mul, neg_lt0, if_true, if_false, if_pos, if_neg, up2, uL1, cp2, gdT, gdb_, or_true, true_or, false_or, or_false, and_true, true_and, and_false, false_and, ifb0, ifb1, eq_self, t0, t1, t2, t3, t4, o10, o01, z139a, f_X10_isValid, q_block hb, upS, e, bi_f]
      · rw [hv] at e
        simp (disch := omega) only [md_, jn_, bd_, bdE_, ixl, ix_, llN, lNl, tlN, tNl, eNl, lNN, tNN, eNN, aNl, alN, mlN, nI_add, pk_mul, neg_lt0, if_true, if_false, if_pos, if_neg, up2, uL1, cp2, gdT, gdb_, or_true, true_or, false_or, or_false, and_true, true_and, and_false, false_and, ifb0, ifb1, eq_self, t0, t1, t2, t3, t4, o10, o01, z139a, f_X10_isValid, q_block hb, upS, e, bi_t]
theorem k_cell {mc mm : sM} (h : R mc mm) (p1 p2 : Int32) : Agr [eIO] (f_X9_cell p1 p2 mc) (f_X10_cell p1 p2 mm) := by
  rcases bad_or 32 (by decide) p1 with hb | ⟨b, hb, rfl⟩
  · refine Agr_ex (v := 0) 0 (mc' := mc) (mm' := s_up mm 110 0 1) ?_ ?_ (R_thr h) rfl (upS _ _ _ _)
    · unfold f_X9_cell; rw [p_riLE hb, bdE_]
    · simp (disch := omega) only [md_, jn_, bd_, bdE_, ixl, ix_, llN, lNl, tlN, tNl, eNl, lNN, tNN, eNN, aNl, alN, mlN, nI_add, pk_mul, neg_lt0, if_true, if_false, if_pos, if_neg, up2, uL1, cp2, gdT, gdb_, or_true, true_or, false_or, or_false, and_true, true_and, and_false, false_and, ifb0, ifb1, eq_self, t0, t1, t2, t3, t4, o10, o01, z139a, f_X10_cell, q_blockE hb, upS]
  rcases bad_or 13 (by decide) p2 with hc | ⟨c, hc, rfl⟩
  · refine Agr_ex (v := 0) 0 (mc' := mc) (mm' := s_up mm 110 0 1) ?_ ?_ (R_thr h) rfl (upS _ _ _ _)
    · unfold f_X9_cell; rw [p_riL hb (by decide), bd_, p_riLE hc, bdE_]
    · have e := q_inAE (b := 12) hc (by decide) mm
      simp (disch := omega) only [md_, jn_, bd_, bdE_, ixl, ix_, llN, lNl, tlN, tNl, eNl, lNN, tNN, eNN, aNl, alN, mlN, nI_add, pk_mul, neg_lt0, if_true, if_false, if_pos, if_neg, up2, uL1, cp2, gdT, gdb_, or_true, true_or, false_or, or_false, and_true, true_and, and_false, false_and, ifb0, ifb1, eq_self, t0, t1, t2, t3, t4, o10, o01, z139a, f_X10_cell, q_block hb, e, upS]
  · refine Agr_ok (v := mc.1 (4 + 1 * b) c) (mc' := mc) (mm' := s_up mm 110 0 0) ?_ ?_ (R_thr h) (upS _ _ _ _)
    · unfold f_X9_cell; rw [p_riL hb (by decide), bd_, p_riL hc (by decide), bd_, ix_ _ hb (by decide), ix_ _ hc (by decide)]
    · have e := q_inA (j := c) (b := 12) (by omega) (by decide) mm
      have hv := h.1 b c hb hc
      rw [Nat.one_mul]
      simp (disch := omega) only [md_, jn_, bd_, bdE_, ixl, ix_, llN, lNl, tlN, tNl, eNl, lNN, tNN, eNN, aNl, alN, mlN, nI_add, pk_mul, neg_lt0, if_true, if_false, if_pos, if_neg, up2, uL1, cp2, gdT, gdb_, or_true, true_or, false_or, or_false, and_true, true_and, and_false, false_and, ifb0, ifb1, eq_self, t0, t1, t2, t3, t4, o10, o01, z139a, f_X10_cell, q_block hb, e, up1, f_X10_at, hv]
