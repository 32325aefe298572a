/-! PURE: damage, feed, outputAt, salvaged; the free blocks. -/
theorem R_ds {mc mc' mm mm' : sM} (h : R mc mm) (hc : ag (fun a j => dcAll a j ∧ ¬ (4 ≤ a ∧ a < 36) ∧ a ≠ 108) mc mc') (hm : ag (fun a j => dmAll a j ∧ a ≠ 111 ∧ a ≠ 130) mm mm') (hd : rDisk mc' mm') (hs : rStat mc' mm') : R mc' mm' := by
  obtain ⟨h1, h2, h3, h4, h5, h6, h7, h8, h9, h10, h11⟩ := h
  refine ⟨hd, rOpen_ag (ag_mo hc ?_) (ag_mo hm ?_) h2, rPres_ag (ag_mo hc ?_) (ag_mo hm ?_) h3, rPins_ag (ag_mo hc ?_) (ag_mo hm ?_) h4, fun s hs => rSlot_ag (ag_mo hc ?_) (ag_mo hm ?_) (h5 s hs), rOrd_ag (fun a j q => (hc a j (by omega)).1) (ag_mo hm ?_) h6, rIn_ag (ag_mo hc ?_) (ag_mo hm ?_) h7, rOut_ag (ag_mo hc ?_) (ag_mo hm ?_) h8, rLog_ag (ag_mo hc ?_) (ag_mo hm ?_) h9, hs, rSalv_ag (ag_mo hc ?_) (ag_mo hm ?_) h11⟩ <;> (intro a j q; omega)
set_option maxHeartbeats 2000000 in
theorem k_damage {mc mm : sM} (h : R mc mm) (p1 p2 p3 : Int32) : Agr [eIO] (f_X9_damage p1 p2 p3 mc) (f_X10_damage p1 p2 p3 mm) := by
  rcases bad_or 32 (by decide) p1 with hb | ⟨b, hb, rfl⟩
  · refine Agr_ex (v := 0) 0 (mc' := mc) (mm' := s_up mm 110 0 1) ?_ ?_ (R_thr h) rfl (upS _ _ _ _)
    · unfold f_X9_damage; rw [p_riLE hb, bdE_]
    · simp (disch := omega) only [md_, jn_, bd_, bdE_, ixl, ix_, llN, lNl, tlN, tNl, eNl, lNN, tNN, eNN, aNl, alN, mlN, nI_add, pk_mul, neg_lt0, if_true, if_false, if_pos, if_neg, up2, uL1, cp2, gdT, gdb_, or_true, true_or, false_or, or_false, and_true, true_and, and_false, false_and, ifb0, ifb1, eq_self, t0, t1, t2, t3, t4, o10, o01, z139a, f_X10_damage, q_blockE hb, upS]
  rcases bad_or 13 (by decide) p2 with hc | ⟨c, hc, rfl⟩
  · refine Agr_ex (v := 0) 0 (mc' := mc) (mm' := s_up mm 110 0 1) ?_ ?_ (R_thr h) rfl (upS _ _ _ _)
    · unfold f_X9_damage; rw [p_riL hb (by decide), bd_, p_riLE hc, bdE_]
    · have e := q_inAE (b := 12) hc (by decide) mm
      simp (disch := omega) only [md_, jn_, bd_, bdE_, ixl, ix_, llN, lNl, tlN, tNl, eNl, lNN, tNN, eNN, aNl, alN, mlN, nI_add, pk_mul, neg_lt0, if_true, if_false, if_pos, if_neg, up2, uL1, cp2, gdT, gdb_, or_true, true_or, false_or, or_false, and_true, true_and, and_false, false_and, ifb0, ifb1, eq_self, t0, t1, t2, t3, t4, o10, o01, z139a, f_X10_damage, q_block hb, e, upS]
  have e := q_inA (j := c) (b := 12) (by omega) (by decide) mm
  have hm := R_thr (t := 0) h
  have hd := hm.1
  have hv := hd b c hb hc
  have hs7 := hm.2.2.2.2.2.2.2.2.2.1
  have hdisk : ∀ (x : Int32) (mc1 : sM), (∀ a j, 4 ≤ a → a < 36 → mc1.1 a j = if a = 4 + b ∧ j = c then p3 else mc.1 a j) → rDisk mc1 (s_up (s_up (s_up mm 110 0 0) 130 7 x) 111 (13 * b + c) p3) := fun x mc1 w b' c' hb' hc' => by
    have := hd b' c' hb' hc'
    rw [w _ _ (by omega) (by omega), up1, up1 (s_up mm 110 0 0) 130]
    by_cases q : b' = b ∧ c' = c
    · rw [if_pos (by omega), if_pos (by omega)]
    · rw [if_neg (by omega), if_neg (by omega), if_neg (by omega)]
      exact this
  by_cases w : mc.1 (4 + b) c = p3
  · refine Agr_ok (v := mc.1 (4 + b) c) (mc' := s_up mc (4 + b) c p3) (mm' := s_up (s_up (s_up mm 110 0 0) 130 7 ((s_up mm 110 0 0).1 130 7 + 0)) 111 (13 * b + c) p3) ?_ ?_ ?_ ?_
    · unfold f_X9_damage
      simp (disch := omega) only [md_, jn_, bd_, bdE_, ixl, ix_, llN, lNl, tlN, tNl, eNl, lNN, tNN, eNN, aNl, alN, mlN, nI_add, pk_mul, neg_lt0, if_true, if_false, if_pos, if_neg, up2, uL1, cp2, gdT, gdb_, or_true, true_or, false_or, or_false, and_true, true_and, and_false, false_and, ifb0, ifb1, eq_self, t0, t1, t2, t3, t4, o10, o01, z139a, p_riL, Nat.one_mul, w]
    · rw [hv] at w
      simp (disch := omega) only [md_, jn_, bd_, bdE_, ixl, ix_, llN, lNl, tlN, tNl, eNl, lNN, tNN, eNN, aNl, alN, mlN, nI_add, pk_mul, neg_lt0, if_true, if_false, if_pos, if_neg, up2, uL1, cp2, gdT, gdb_, or_true, true_or, false_or, or_false, and_true, true_and, and_false, false_and, ifb0, ifb1, eq_self, t0, t1, t2, t3, t4, o10, o01, z139a, f_X10_damage, q_block hb, e, upS, f_X10_at, w, hv]
    · refine R_ds hm (ag_up (ag_rf _) (by omega)) (ag_up (ag_up (ag_rf _) (by omega)) (by omega)) (hdisk _ _ fun a j q1 q2 => up1 _ _ _ _ _ _) fun i hi => ?_
      have := hs7 i hi
      by_cases q : i = 7
      · subst q
        simp (disch := omega) only [md_, jn_, bd_, bdE_, ixl, ix_, llN, lNl, tlN, tNl, eNl, lNN, tNN, eNN, aNl, alN, mlN, nI_add, pk_mul, neg_lt0, if_true, if_false, if_pos, if_neg, up2, uL1, cp2, gdT, gdb_, or_true, true_or, false_or, or_false, and_true, true_and, and_false, false_and, ifb0, ifb1, eq_self, t0, t1, t2, t3, t4, o10, o01, z139a, up1, Int32.add_zero] at this ⊢
        exact this
      · simp (disch := omega) only [md_, jn_, bd_, bdE_, ixl, ix_, llN, lNl, tlN, tNl, eNl, lNN, tNN, eNN, aNl, alN, mlN, nI_add, pk_mul, neg_lt0, if_true, if_false, if_pos, if_neg, up2, uL1, cp2, gdT, gdb_, or_true, true_or, false_or, or_false, and_true, true_and, and_false, false_and, ifb0, ifb1, eq_self, t0, t1, t2, t3, t4, o10, o01, z139a, up1] at this ⊢
        exact this
    · rw [up1, if_neg (by omega), up1, if_neg (by omega)]; exact upS _ _ _ _
  · refine Agr_ok (v := mc.1 (4 + b) c) (mc' := s_up (s_up mc (4 + b) c p3) 108 7 ((s_up mc (4 + b) c p3).1 108 7 + 1)) (mm' := s_up (s_up (s_up mm 110 0 0) 130 7 ((s_up mm 110 0 0).1 130 7 + 1)) 111 (13 * b + c) p3) ?_ ?_ ?_ ?_
    · unfold f_X9_damage
      simp (disch := omega) only [md_, jn_, bd_, bdE_, ixl, ix_, llN, lNl, tlN, tNl, eNl, lNN, tNN, eNN, aNl, alN, mlN, nI_add, pk_mul, neg_lt0, if_true, if_false, if_pos, if_neg, up2, uL1, cp2, gdT, gdb_, or_true, true_or, false_or, or_false, and_true, true_and, and_false, false_and, ifb0, ifb1, eq_self, t0, t1, t2, t3, t4, o10, o01, z139a, p_riL, Nat.one_mul, w]
    · rw [hv] at w
      simp (disch := omega) only [md_, jn_, bd_, bdE_, ixl, ix_, llN, lNl, tlN, tNl, eNl, lNN, tNN, eNN, aNl, alN, mlN, nI_add, pk_mul, neg_lt0, if_true, if_false, if_pos, if_neg, up2, uL1, cp2, gdT, gdb_, or_true, true_or, false_or, or_false, and_true, true_and, and_false, false_and, ifb0, ifb1, eq_self, t0, t1, t2, t3, t4, o10, o01, z139a, f_X10_damage, q_block hb, e, upS, f_X10_at, w, hv]
    · refine R_ds hm (ag_up (ag_up (ag_rf _) (by omega)) (by omega)) (ag_up (ag_up (ag_rf _) (by omega)) (by omega)) (hdisk _ _ fun a j q1 q2 => by rw [up1, if_neg (by omega), up1]) fun i hi => ?_
      have := hs7 i hi
      by_cases q : i = 7
      · subst q
        simp (disch := omega) only [md_, jn_, bd_, bdE_, ixl, ix_, llN, lNl, tlN, tNl, eNl, lNN, tNN, eNN, aNl, alN, mlN, nI_add, pk_mul, neg_lt0, if_true, if_false, if_pos, if_neg, up2, uL1, cp2, gdT, gdb_, or_true, true_or, false_or, or_false, and_true, true_and, and_false, false_and, ifb0, ifb1, eq_self, t0, t1, t2, t3, t4, o10, o01, z139a, up1] at this ⊢
        rw [this]
      · simp (disch := omega) only [md_, jn_, bd_, bdE_, ixl, ix_, llN, lNl, tlN, tNl, eNl, lNN, tNN, eNN, aNl, alN, mlN, nI_add, pk_mul, neg_lt0, if_true, if_false, if_pos, if_neg, up2, uL1, cp2, gdT, gdb_, or_true, true_or, false_or, or_false, and_true, true_and, and_false, false_and, ifb0, ifb1, eq_self, t0, t1, t2, t3, t4, o10, o01, z139a, up1] at this ⊢
        exact this
    · rw [up1, if_neg (by omega), up1, if_neg (by omega)]; exact upS _ _ _ _
/-! feed and outputAt -/
theorem R_in {mc mc' mm mm' : sM} (h : R mc mm) (hc : ag (fun a j => dcAll a j ∧ ¬ dcIn a j) mc mc') (hm : ag (fun a j => dmAll a j ∧ ¬ dmIn a j) mm mm') (hi : rIn mc' mm') : R mc' mm' := by
  obtain ⟨h1, h2, h3, h4, h5, h6, h7, h8, h9, h10, h11⟩ := h
  refine ⟨rDisk_ag (ag_mo hc ?_) (ag_mo hm ?_) h1, rOpen_ag (ag_mo hc ?_) (ag_mo hm ?_) h2, rPres_ag (ag_mo hc ?_) (ag_mo hm ?_) h3, rPins_ag (ag_mo hc ?_) (ag_mo hm ?_) h4, fun s hs => rSlot_ag (ag_mo hc ?_) (ag_mo hm ?_) (h5 s hs), rOrd_ag (fun a j q => (hc a j (by omega)).1) (ag_mo hm ?_) h6, hi, rOut_ag (ag_mo hc ?_) (ag_mo hm ?_) h8, rLog_ag (ag_mo hc ?_) (ag_mo hm ?_) h9, rStat_ag (ag_mo hc ?_) (ag_mo hm ?_) h10, rSalv_ag (ag_mo hc ?_) (ag_mo hm ?_) h11⟩ <;> (intro a j q; omega)
theorem k_feed {mc mm : sM} (h : R mc mm) (p1 : Int32) : Agr [eIS] (f_X9_feed p1 mc) (f_X10_feed p1 mm) := by
  obtain ⟨n, n1, e1, e2, e3⟩ := h.2.2.2.2.2.2.1
  by_cases w : n = 60
  · subst w
    refine Agr_ex (v := 0) 0 (mc' := mc) (mm' := s_up mm 110 0 1) ?_ ?_ (R_thr h) rfl (upS _ _ _ _)
    · unfold f_X9_feed; simp (disch := omega) only [md_, jn_, bd_, bdE_, ixl, ix_, llN, lNl, tlN, tNl, eNl, lNN, tNN, eNN, aNl, alN, mlN, nI_add, pk_mul, neg_lt0, if_true, if_false, if_pos, if_neg, up2, uL1, cp2, gdT, gdb_, or_true, true_or, false_or, or_false, and_true, true_and, and_false, false_and, ifb0, ifb1, eq_self, t0, t1, t2, t3, t4, o10, o01, z139a, e1]
    · simp (disch := omega) only [md_, jn_, bd_, bdE_, ixl, ix_, llN, lNl, tlN, tNl, eNl, lNN, tNN, eNN, aNl, alN, mlN, nI_add, pk_mul, neg_lt0, if_true, if_false, if_pos, if_neg, up2, uL1, cp2, gdT, gdb_, or_true, true_or, false_or, or_false, and_true, true_and, and_false, false_and, ifb0, ifb1, eq_self, t0, t1, t2, t3, t4, o10, o01, z139a, f_X10_feed, e2, upS]
  · have hm := R_thr (t := 0) h
    have g1 : (s_up mc 86 n (vp_nar .char p1)).1 85 1 = nI n := by rw [up1, if_neg (by omega)]; exact e1
    have g2 : (s_up mm 110 0 0).1 110 21 = nI n := by rw [up1, if_neg (by omega)]; exact e2
    have g3 : (s_up (s_up mm 110 0 0) 127 n (vp_nar .char p1)).1 110 21 = nI n := by rw [up1, if_neg (by omega)]; exact g2
    refine Agr_ok (v := nI (n + 1)) (mc' := s_up (s_up mc 86 n (vp_nar .char p1)) 85 1 (nI (n + 1))) (mm' := s_up (s_up (s_up mm 110 0 0) 127 n (vp_nar .char p1)) 110 21 (nI (n + 1))) ?_ ?_ ?_ ?_
    · unfold f_X9_feed; simp (disch := omega) only [md_, jn_, bd_, bdE_, ixl, ix_, llN, lNl, tlN, tNl, eNl, lNN, tNN, eNN, aNl, alN, mlN, nI_add, pk_mul, neg_lt0, if_true, if_false, if_pos, if_neg, up2, uL1, cp2, gdT, gdb_, or_true, true_or, false_or, or_false, and_true, true_and, and_false, false_and, ifb0, ifb1, eq_self, t0, t1, t2, t3, t4, o10, o01, z139a, e1, f_X2_append, g1, upS]
    · simp (disch := omega) only [md_, jn_, bd_, bdE_, ixl, ix_, llN, lNl, tlN, tNl, eNl, lNN, tNN, eNN, aNl, alN, mlN, nI_add, pk_mul, neg_lt0, if_true, if_false, if_pos, if_neg, up2, uL1, cp2, gdT, gdb_, or_true, true_or, false_or, or_false, and_true, true_and, and_false, false_and, ifb0, ifb1, eq_self, t0, t1, t2, t3, t4, o10, o01, z139a, f_X10_feed, e2, upS, g2, g3]
    · refine R_in hm (ag_up (ag_up (ag_rf _) (by omega)) (by omega)) (ag_up (ag_up (ag_rf _) (by omega)) (by omega)) ⟨n + 1, by omega, upS _ _ _ _, upS _ _ _ _, fun i hi => ?_⟩
      by_cases q : i = n
      · subst q
        simp (disch := omega) only [md_, jn_, bd_, bdE_, ixl, ix_, llN, lNl, tlN, tNl, eNl, lNN, tNN, eNN, aNl, alN, mlN, nI_add, pk_mul, neg_lt0, if_true, if_false, if_pos, if_neg, up2, uL1, cp2, gdT, gdb_, or_true, true_or, false_or, or_false, and_true, true_and, and_false, false_and, ifb0, ifb1, eq_self, t0, t1, t2, t3, t4, o10, o01, z139a, up1]
      · have := e3 i (by omega)
        simp (disch := omega) only [md_, jn_, bd_, bdE_, ixl, ix_, llN, lNl, tlN, tNl, eNl, lNN, tNN, eNN, aNl, alN, mlN, nI_add, pk_mul, neg_lt0, if_true, if_false, if_pos, if_neg, up2, uL1, cp2, gdT, gdb_, or_true, true_or, false_or, or_false, and_true, true_and, and_false, false_and, ifb0, ifb1, eq_self, t0, t1, t2, t3, t4, o10, o01, z139a, up1]
        exact this
    · rw [up1, if_neg (by omega), up1, if_neg (by omega)]; exact upS _ _ _ _
theorem gdc {α : Type} {x : Int32} (h : narrow .char (.int x) = .int x) (y : Option α) : s_gd (narrow .char (.int x) = .int x) y = y := if_pos h
theorem k_outputAt {mc mm : sM} (h : R mc mm) (p1 : Int32) : Agr [eIO] (f_X9_outputAt p1 mc) (f_X10_outputAt p1 mm) := by
  obtain ⟨n, n1, e1, e2, e3⟩ := h.2.2.2.2.2.2.2.1
  rcases bad_or n (by omega) p1 with hb | ⟨i, hi, rfl⟩
  · refine Agr_ex (v := 0) 0 (mc' := mc) (mm' := s_up mm 110 0 1) ?_ ?_ (R_thr h) rfl (upS _ _ _ _)
    · unfold f_X9_outputAt
      rw [jn_, e1]
      by_cases h0 : p1 < 0
      · rw [if_pos h0]
      · rw [if_neg h0, if_neg (nlt_of_le (hb.resolve_left h0))]
    · have e := q_inNE hb (by omega) mm
      have z : narrow .char (.int (0 : Int32)) = .int 0 := by decide
      simp (disch := omega) only [md_, jn_, bd_, bdE_, ixl, ix_, llN, lNl, tlN, tNl, eNl, lNN, tNN, eNN, aNl, alN, mlN, nI_add, pk_mul, neg_lt0, if_true, if_false, if_pos, if_neg, up2, uL1, cp2, gdT, gdb_, or_true, true_or, false_or, or_false, and_true, true_and, and_false, false_and, ifb0, ifb1, eq_self, t0, t1, t2, t3, t4, o10, o01, z139a, f_X10_outputAt, e2, e, upS, gdc z]
  · obtain ⟨w1, w2⟩ := e3 i hi
    refine Agr_ok (v := mc.1 92 i) (mc' := mc) (mm' := s_up mm 110 0 0) ?_ ?_ (R_thr h) (upS _ _ _ _)
    · unfold f_X9_outputAt
      simp (disch := omega) only [md_, jn_, bd_, bdE_, ixl, ix_, llN, lNl, tlN, tNl, eNl, lNN, tNN, eNN, aNl, alN, mlN, nI_add, pk_mul, neg_lt0, if_true, if_false, if_pos, if_neg, up2, uL1, cp2, gdT, gdb_, or_true, true_or, false_or, or_false, and_true, true_and, and_false, false_and, ifb0, ifb1, eq_self, t0, t1, t2, t3, t4, o10, o01, z139a, e1, gdc w2]
    · rw [w1] at w2 ⊢
      simp (disch := omega) only [md_, jn_, bd_, bdE_, ixl, ix_, llN, lNl, tlN, tNl, eNl, lNN, tNN, eNN, aNl, alN, mlN, nI_add, pk_mul, neg_lt0, if_true, if_false, if_pos, if_neg, up2, uL1, cp2, gdT, gdb_, or_true, true_or, false_or, or_false, and_true, true_and, and_false, false_and, ifb0, ifb1, eq_self, t0, t1, t2, t3, t4, o10, o01, z139a, f_X10_outputAt, e2, q_inN hi, up1, gdc w2]
/-! salvaged -/
theorem sub_m1 (x : Int32) (c : Nat) : x - nI c + (-1) = x - nI (c + 1) := by
  rw [nI_succ, ← Int32.sub_sub, Int32.sub_eq_add_neg (x - nI c) 1]
theorem sub_z (x : Int32) (c : Nat) : (x - nI c = 0) = (x = nI c) := propext (by rw [Int32.sub_eq_iff_eq_add, Int32.zero_add])
theorem q_salvL {m : sM} {p : Nat → Bool} {x : Int32} (hp : ∀ j, j < 64 → m.1 131 j = bi (p j)) (y : Int32) (r : Nat → Int32) (hr0 : r 0 = -1)
    (hr : ∀ j, j < 64 → r (j + 1) = if p j = true ∧ x = nI (fb_ct p j) then nI j else r j) (e : Int32 → Option (sR Int32)) : f_X10_salvaged_L8 y m e 5000 (-1) x 0 = e (r 64) := by
  refine lpE (fun g j (z : Int32 × Int32) => f_X10_salvaged_L8 y m e g z.1 z.2 (nI j)) (fun j z => z = (r j, x - nI (fb_ct p j))) _ 64 ?_ ?_ 64 0 (-1, x) 5000 (by omega) (by omega) ?_
  · intro j z g hj hz ih
    have := ih _ rfl
    subst hz
    have hc := hp j hj
    have hrr := hr j hj
    cases hb : p j
    · rw [hb] at hc
      rw [hrr, if_neg (by rw [hb]; exact fun q => absurd q.1 (by decide)), fb_ct_succ, hb] at this
      simp (disch := omega) only [md_, jn_, bd_, bdE_, ixl, ix_, llN, lNl, tlN, tNl, eNl, lNN, tNN, eNN, aNl, alN, mlN, nI_add, pk_mul, neg_lt0, if_true, if_false, if_pos, if_neg, up2, uL1, cp2, gdT, gdb_, or_true, true_or, false_or, or_false, and_true, true_and, and_false, false_and, ifb0, ifb1, eq_self, t0, t1, t2, t3, t4, o10, o01, z139a, f_X10_salvaged_L8, hc, bi_f]
      exact this
    · rw [hb] at hc
      rw [fb_ct_succ, hb] at this
      simp only [if_true] at this
      rw [← sub_m1] at this
      by_cases w : x = nI (fb_ct p j)
      · rw [hrr, if_pos ⟨hb, w⟩] at this
        have w2 : (x - nI (fb_ct p j) = 0) = True := by rw [sub_z]; exact eq_true w
        simp (disch := omega) only [md_, jn_, bd_, bdE_, ixl, ix_, llN, lNl, tlN, tNl, eNl, lNN, tNN, eNN, aNl, alN, mlN, nI_add, pk_mul, neg_lt0, if_true, if_false, if_pos, if_neg, up2, uL1, cp2, gdT, gdb_, or_true, true_or, false_or, or_false, and_true, true_and, and_false, false_and, ifb0, ifb1, eq_self, t0, t1, t2, t3, t4, o10, o01, z139a, f_X10_salvaged_L8, hc, bi_t, w2]
        exact this
      · rw [hrr, if_neg (fun q => w q.2)] at this
        have w2 : (x - nI (fb_ct p j) = 0) = False := by rw [sub_z]; exact eq_false w
        simp (disch := omega) only [md_, jn_, bd_, bdE_, ixl, ix_, llN, lNl, tlN, tNl, eNl, lNN, tNN, eNN, aNl, alN, mlN, nI_add, pk_mul, neg_lt0, if_true, if_false, if_pos, if_neg, up2, uL1, cp2, gdT, gdb_, or_true, true_or, false_or, or_false, and_true, true_and, and_false, false_and, ifb0, ifb1, eq_self, t0, t1, t2, t3, t4, o10, o01, z139a, f_X10_salvaged_L8, hc, bi_t, w2]
        exact this
  · intro z g hz
    subst hz
    simp (disch := omega) only [md_, jn_, bd_, bdE_, ixl, ix_, llN, lNl, tlN, tNl, eNl, lNN, tNN, eNN, aNl, alN, mlN, nI_add, pk_mul, neg_lt0, if_true, if_false, if_pos, if_neg, up2, uL1, cp2, gdT, gdb_, or_true, true_or, false_or, or_false, and_true, true_and, and_false, false_and, ifb0, ifb1, eq_self, t0, t1, t2, t3, t4, o10, o01, z139a, f_X10_salvaged_L8]
  · rw [hr0]
    show (-1, x) = (-1, x - nI 0)
    rw [nI_0, Int32.sub_zero]
set_option maxHeartbeats 2000000 in
theorem k_salvaged {mc mm : sM} (h : R mc mm) (p1 p2 : Int32) : Agr [eIO, eIA] (f_X9_salvaged p1 p2 mc) (f_X10_salvaged p1 p2 mm) := by
  have hs := h.2.2.2.2.2.2.2.2.2.2
  have hp : ∀ j, j < 64 → mm.1 131 j = bi (lb (mc.2 104 3) j) := fun j hj => (hs j hj).1
  have hct := ct64_le (mc.2 104 3)
  rcases bad_or (fb_ct (lb (mc.2 104 3)) 64) (by omega) p1 with hb | ⟨k, hk, rfl⟩
  · have hno : ∀ j, j < 64 → lb (mc.2 104 3) j = true → ¬ p1 = nI (fb_ct (lb (mc.2 104 3)) j) := fun j hj hj2 e => by
      have hmo := fb_ct_mono (lb (mc.2 104 3)) (show j + 1 ≤ 64 from hj)
      rw [fb_ct_succ, hj2] at hmo
      simp only [if_true] at hmo
      rcases hb with h0 | h0
      · rw [e] at h0; exact nI_pos (by omega) h0
      · rw [e] at h0; exact nI_ge (by omega) (by omega) h0
    have hL := q_salvL (x := p1) hp p2 (fun _ => -1) rfl (fun j hj => by rw [if_neg (fun q => hno j hj q.1 q.2)])
    refine Agr_ex (v := 0) 0 (mc' := mc) (mm' := s_up mm 110 0 1) ?_ ?_ (R_thr h) rfl (upS _ _ _ _)
    · unfold f_X9_salvaged; rw [p_bits, bd_, p_riE hb, bdE_]
    · unfold f_X10_salvaged
      rw [jn_, hL]
      have z : ¬ (0 : Int32) ≤ -1 := by decide
      simp (disch := omega) only [md_, jn_, bd_, bdE_, ixl, ix_, llN, lNl, tlN, tNl, eNl, lNN, tNN, eNN, aNl, alN, mlN, nI_add, pk_mul, neg_lt0, if_true, if_false, if_pos, if_neg, up2, uL1, cp2, gdT, gdb_, or_true, true_or, false_or, or_false, and_true, true_and, and_false, false_and, ifb0, ifb1, eq_self, t0, t1, t2, t3, t4, o10, o01, z139a, z, upS]
  · obtain ⟨i, i1, i2, i3⟩ := fb_ct_kth hk
    have hL := q_salvL (x := nI k) hp p2 (fun j => if j ≤ i then -1 else nI i) (by rw [if_pos (Nat.zero_le _)]) (fun j hj => by
      by_cases w : j = i
      · subst w
        rw [if_neg (by omega), if_pos ⟨i2, by rw [i3]⟩]
      · rw [if_neg (c := lb (mc.2 104 3) j = true ∧ _)]
        · by_cases w2 : j ≤ i
          · rw [if_pos (by omega), if_pos w2]
          · rw [if_neg (by omega), if_neg w2]
        · rintro ⟨q1, q2⟩
          have hmo := fb_ct_mono (lb (mc.2 104 3)) (show j ≤ 64 by omega)
          have := (nI_eq (by omega) (by omega)).mp q2
          exact w (fb_ct_kth_one q1 i2 (by omega)))
    rw [if_neg (by omega)] at hL
    have hmem := fun m => p_mem i1 i2 i3 m
    rcases bad_or 4 (by decide) p2 with hb | ⟨w, hw, rfl⟩
    · refine Agr_ex (v := 0) 1 (mc' := mc) (mm' := s_up mm 110 0 2) ?_ ?_ (R_thr h) rfl (upS _ _ _ _)
      · unfold f_X9_salvaged; rw [p_bits, bd_, p_ri hk (by omega), bd_, p_whatE hb, bdE_]
      · unfold f_X10_salvaged
        rw [jn_, hL]
        have e := q_inAE (b := 3) hb (by decide) mm
        simp (disch := omega) only [md_, jn_, bd_, bdE_, ixl, ix_, llN, lNl, tlN, tNl, eNl, lNN, tNN, eNN, aNl, alN, mlN, nI_add, pk_mul, neg_lt0, if_true, if_false, if_pos, if_neg, up2, uL1, cp2, gdT, gdb_, or_true, true_or, false_or, or_false, and_true, true_and, and_false, false_and, ifb0, ifb1, eq_self, t0, t1, t2, t3, t4, o10, o01, z139a, e, upS]
    · obtain ⟨v1, v2, v3⟩ := (hs i i1).2 i2
      have e := q_inA (j := w) (b := 3) (by omega) (by decide) mm
      have hc : f_X9_salvaged (nI k) (nI w) mc = some (.inl (if w = 0 then nI i else if w = 1 then mc.1 105 i else if w = 2 then mc.1 106 i else mc.1 107 i), mc) := by
        unfold f_X9_salvaged
        rw [p_bits, bd_, p_ri hk (by omega), bd_, p_what hw (by decide), bd_, hmem, bd_]
        rcases (by omega : w = 0 ∨ w = 1 ∨ w = 2 ∨ w = 3) with rfl | rfl | rfl | rfl <;> simp (disch := omega) only [md_, jn_, bd_, bdE_, ixl, ix_, llN, lNl, tlN, tNl, eNl, lNN, tNN, eNN, aNl, alN, mlN, nI_add, pk_mul, neg_lt0, if_true, if_false, if_pos, if_neg, up2, uL1, cp2, gdT, gdb_, or_true, true_or, false_or, or_false, and_true, true_and, and_false, false_and, ifb0, ifb1, eq_self, t0, t1, t2, t3, t4, o10, o01, z139a]
      refine Agr_ok (mc' := mc) (mm' := s_up mm 110 0 0) hc ?_ (R_thr h) (upS _ _ _ _)
      unfold f_X10_salvaged
      rw [jn_, hL]
      rcases (by omega : w = 0 ∨ w = 1 ∨ w = 2 ∨ w = 3) with rfl | rfl | rfl | rfl <;> simp (disch := omega) only [md_, jn_, bd_, bdE_, ixl, ix_, llN, lNl, tlN, tNl, eNl, lNN, tNN, eNN, aNl, alN, mlN, nI_add, pk_mul, neg_lt0, if_true, if_false, if_pos, if_neg, up2, uL1, cp2, gdT, gdb_, or_true, true_or, false_or, or_false, and_true, true_and, and_false, false_and, ifb0, ifb1, eq_self, t0, t1, t2, t3, t4, o10, o01, z139a, e, up1, v1, v2, v3]
/-! the blocks in use -/
def ub (m : sM) (v b : Nat) : Nat → Bool
  | 0 => decide (m.1 v 5 = nI b)
  | p + 1 => ub m v b p || decide (m.1 (v + 1) p = nI b)
theorem dec_nI {a b : Nat} (ha : a < 2 ^ 31) (hb : b < 2 ^ 31) : decide (nI a = nI b) = decide (b = a) := by
  by_cases h : b = a
  · subst h; rw [decide_eq_true rfl, decide_eq_true rfl]
  · rw [decide_eq_false h, decide_eq_false (fun q => h ((nI_eq ha hb).mp q).symm)]
theorem dec_m1 {b : Nat} (hb : b < 2 ^ 31) : decide ((-1 : Int32) = nI b) = false := decide_eq_false fun q => nIm1 hb q.symm
/-- a version whose blocks are right -/
def vOk (m : sM) (v : Nat) : Prop := (∃ t, 2 ≤ t ∧ t < 32 ∧ m.1 v 5 = nI t) ∧ ∀ p, p < 8 → isB (m.1 (v + 1) p)
theorem rVer_ok {mc mm : sM} {v w : Nat} (h : rVer mc mm v w) : vOk mc v := by
  obtain ⟨h1, h2, ⟨t, t1, t2, t3⟩, h4, h5⟩ := h
  exact ⟨⟨t, t1, t2, h2.trans t3⟩, fun p hp => by rw [(h4 p hp).1]; exact (h4 p hp).2⟩
theorem p_used {m : sM} {v : Nat} (h : vOk m v) : ∃ x, f_X8_usedBlocks v m = some (.inl x, m) ∧ ∀ b, b < 64 → lb x b = ub m v b 8 := by
  obtain ⟨⟨t, t1, t2, t3⟩, hb⟩ := h
  have key : Wp (f_X8_usedBlocks v m) (fun x m' => m' = m ∧ ∀ b, b < 64 → lb x b = ub m v b 8) := by
    unfold f_X8_usedBlocks
    rw [p_setOf, bd_, jn_, t3]
    refine lpW (fun g i (x : Int64) => f_X8_usedBlocks_L10 v _ g x (nI i) m) (fun i x => ∀ b, b < 64 → lb x b = ub m v b i) _ 8 ?_ ?_ 8 0 _ 5000 rfl (by decide) ?_
    · intro i x g hi hx ih
      rcases hb i hi with e | ⟨c, c1, c2, e⟩
      · have := ih x (fun b hb' => by rw [ub, e, dec_m1 (by omega), Bool.or_false]; exact hx b hb')
        simp (disch := omega) only [md_, jn_, bd_, bdE_, ixl, ix_, llN, lNl, tlN, tNl, eNl, lNN, tNN, eNN, aNl, alN, mlN, nI_add, pk_mul, neg_lt0, if_true, if_false, if_pos, if_neg, up2, uL1, cp2, gdT, gdb_, or_true, true_or, false_or, or_false, and_true, true_and, and_false, false_and, ifb0, ifb1, eq_self, t0, t1, t2, t3, t4, o10, o01, z139a, f_X8_usedBlocks_L10, e]
        exact this
      · have := ih (x ||| s_lshl 1 (nI c)) (fun b hb' => by rw [ub, e, lb_or, hx b hb', lb_set c (by omega) b hb', dec_nI (by omega) (by omega)])
        have ne : ¬ nI c = -1 := nIm1 (by omega)
        simp (disch := omega) only [md_, jn_, bd_, bdE_, ixl, ix_, llN, lNl, tlN, tNl, eNl, lNN, tNN, eNN, aNl, alN, mlN, nI_add, pk_mul, neg_lt0, if_true, if_false, if_pos, if_neg, up2, uL1, cp2, gdT, gdb_, or_true, true_or, false_or, or_false, and_true, true_and, and_false, false_and, ifb0, ifb1, eq_self, t0, t1, t2, t3, t4, o10, o01, z139a, f_X8_usedBlocks_L10, e, ne, p_setOf]
        exact this
    · intro x g hx
      simp (disch := omega) only [md_, jn_, bd_, bdE_, ixl, ix_, llN, lNl, tlN, tNl, eNl, lNN, tNN, eNN, aNl, alN, mlN, nI_add, pk_mul, neg_lt0, if_true, if_false, if_pos, if_neg, up2, uL1, cp2, gdT, gdb_, or_true, true_or, false_or, or_false, and_true, true_and, and_false, false_and, ifb0, ifb1, eq_self, t0, t1, t2, t3, t4, o10, o01, z139a, f_X8_usedBlocks_L10]
      exact Wp_r ⟨rfl, hx⟩
    · intro b hb'
      rw [lb_set t (by omega) b hb', ub, t3, dec_nI (by omega) (by omega)]
  obtain ⟨x, m', e, rfl, hx⟩ := key
  exact ⟨x, e, hx⟩
/-- is a block free -/
def fre (m : sM) (b : Nat) : Nat → Bool
  | 0 => decide (2 ≤ b ∧ b < 32) && !ub m 36 b 8
  | p + 1 => fre m b p && !(decide (m.1 49 p = 1) && ub m (42 + 3 * p) b 8)
theorem p_free {m : sM} (h : vOk m 36) (hp : ∀ p, p < 2 → m.1 49 p = 0 ∨ (m.1 49 p = 1 ∧ vOk m (42 + 3 * p))) : ∃ x, f_X9_freeBlocks m = some (.inl x, m) ∧ ∀ b, b < 64 → lb x b = fre m b 2 := by
  obtain ⟨u, hu, hub⟩ := p_used h
  have key : Wp (f_X9_freeBlocks m) (fun x m' => m' = m ∧ ∀ b, b < 64 → lb x b = fre m b 2) := by
    unfold f_X9_freeBlocks
    rw [jn_]
    refine lpW (fun g i (x : Int64) => f_X9_freeBlocks_L4 _ g x (nI i) m) (fun i x => 2 ≤ i ∧ ∀ b, b < 64 → lb x b = decide (2 ≤ b ∧ b < i)) _ 32 ?_ ?_ 30 2 _ 5000 rfl (by decide) ⟨Nat.le_refl _, ?_⟩
    · intro i x g hi hx ih
      obtain ⟨h2i, hx⟩ := hx
      have := ih (x ||| s_lshl 1 (nI i)) ⟨by omega, fun b hb => by
        rw [lb_or, hx b hb, lb_set i (by omega) b hb]
        by_cases q : b = i
        · rw [decide_eq_true q, Bool.or_true]
          exact (decide_eq_true (by omega)).symm
        · rw [decide_eq_false q, Bool.or_false]
          exact decide_eq_decide.mpr (by omega)⟩
      simp (disch := omega) only [md_, jn_, bd_, bdE_, ixl, ix_, llN, lNl, tlN, tNl, eNl, lNN, tNN, eNN, aNl, alN, mlN, nI_add, pk_mul, neg_lt0, if_true, if_false, if_pos, if_neg, up2, uL1, cp2, gdT, gdb_, or_true, true_or, false_or, or_false, and_true, true_and, and_false, false_and, ifb0, ifb1, eq_self, t0, t1, t2, t3, t4, o10, o01, z139a, f_X9_freeBlocks_L4, p_setOf]
      exact this
    · intro x g hx
      obtain ⟨-, hx⟩ := hx
      simp (disch := omega) only [md_, jn_, bd_, bdE_, ixl, ix_, llN, lNl, tlN, tNl, eNl, lNN, tNN, eNN, aNl, alN, mlN, nI_add, pk_mul, neg_lt0, if_true, if_false, if_pos, if_neg, up2, uL1, cp2, gdT, gdb_, or_true, true_or, false_or, or_false, and_true, true_and, and_false, false_and, ifb0, ifb1, eq_self, t0, t1, t2, t3, t4, o10, o01, z139a, f_X9_freeBlocks_L4, hu]
      refine lpW (fun g i (x : Int64) => f_X9_freeBlocks_L39 _ g x (nI i) m) (fun i x => ∀ b, b < 64 → lb x b = fre m b i) _ 2 ?_ ?_ 2 0 _ 5000 rfl (by decide) ?_
      · intro i x g hi hx ih
        rcases hp i hi with e | ⟨e, hv⟩
        · have := ih x (fun b hb => by rw [fre, e, hx b hb]; simp)
          simp (disch := omega) only [md_, jn_, bd_, bdE_, ixl, ix_, llN, lNl, tlN, tNl, eNl, lNN, tNN, eNN, aNl, alN, mlN, nI_add, pk_mul, neg_lt0, if_true, if_false, if_pos, if_neg, up2, uL1, cp2, gdT, gdb_, or_true, true_or, false_or, or_false, and_true, true_and, and_false, false_and, ifb0, ifb1, eq_self, t0, t1, t2, t3, t4, o10, o01, z139a, f_X9_freeBlocks_L39, e]
          exact this
        · obtain ⟨w, hw, hwb⟩ := p_used hv
          have := ih (x &&& (w ^^^ (-1))) (fun b hb => by rw [fre, e, lb_and, lb_not _ hb, hx b hb, hwb b hb]; simp)
          simp (disch := omega) only [md_, jn_, bd_, bdE_, ixl, ix_, llN, lNl, tlN, tNl, eNl, lNN, tNN, eNN, aNl, alN, mlN, nI_add, pk_mul, neg_lt0, if_true, if_false, if_pos, if_neg, up2, uL1, cp2, gdT, gdb_, or_true, true_or, false_or, or_false, and_true, true_and, and_false, false_and, ifb0, ifb1, eq_self, t0, t1, t2, t3, t4, o10, o01, z139a, f_X9_freeBlocks_L39, e, hw]
          exact this
      · intro x g hx
        simp (disch := omega) only [md_, jn_, bd_, bdE_, ixl, ix_, llN, lNl, tlN, tNl, eNl, lNN, tNN, eNN, aNl, alN, mlN, nI_add, pk_mul, neg_lt0, if_true, if_false, if_pos, if_neg, up2, uL1, cp2, gdT, gdb_, or_true, true_or, false_or, or_false, and_true, true_and, and_false, false_and, ifb0, ifb1, eq_self, t0, t1, t2, t3, t4, o10, o01, z139a, f_X9_freeBlocks_L39]
        exact Wp_r ⟨rfl, hx⟩
      · intro b hb
        rw [fre, lb_and, lb_not _ hb, hx b hb, hub b hb]
    · intro b hb
      rw [lb_0, decide_eq_false (by omega)]
  obtain ⟨x, m', e, rfl, hx⟩ := key
  exact ⟨x, e, hx⟩
