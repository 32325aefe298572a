/-! PURE: ready and abandon; the order of the ready slots. -/
set_option maxHeartbeats 2000000 in
theorem k_ready {mc mm : sM} (h : R mc mm) (p1 : Int32) : Agr [eIO, eIS] (f_X9_ready p1 mc) (f_X10_ready p1 mm) := by
  rcases bad_or 3 (by decide) p1 with hb | ⟨s, hs, rfl⟩
  · refine Agr_ex (v := 0) 0 (mc' := mc) (mm' := s_up mm 110 0 1) ?_ ?_ (R_thr h) rfl (upS _ _ _ _)
    · unfold f_X9_ready; rw [p_slotE hb, bdE_]
    · simp (disch := omega) only [md_, jn_, bd_, bdE_, ixl, ix_, llN, lNl, tlN, tNl, eNl, lNN, tNN, eNN, aNl, alN, mlN, nI_add, pk_mul, neg_lt0, if_true, if_false, if_pos, if_neg, up2, uL1, cp2, gdT, gdb_, or_true, true_or, false_or, or_false, ifb0, ifb1, eq_self, t0, t1, t2, t3, t4, o10, o01, z139a, f_X10_ready, q_slotE hb, upS]
  obtain ⟨st, c, hst, hc3, e1, e2, e3, e4, e5, e6, e7⟩ := R_sl h hs
  by_cases ha : st = 1
  case neg =>
    have h9 : ¬ mc.1 (54 + 10 * s) 3 = 1 := by rw [e1]; exact fun q => ha ((nI_eq (by omega) (by decide : 1 < 2 ^ 31)).mp q)
    refine Agr_ex (v := 0) 1 (mc' := mc) (mm' := s_up mm 110 0 2) ?_ ?_ (R_thr h) rfl (upS _ _ _ _)
    · unfold f_X9_ready; rw [p_slot hs, bd_, p_actE hs h9, bdE_]
    · simp (disch := omega) only [md_, jn_, bd_, bdE_, ixl, ix_, llN, lNl, tlN, tNl, eNl, lNN, tNN, eNN, aNl, alN, mlN, nI_add, pk_mul, neg_lt0, if_true, if_false, if_pos, if_neg, up2, uL1, cp2, gdT, gdb_, or_true, true_or, false_or, or_false, ifb0, ifb1, eq_self, t0, t1, t2, t3, t4, o10, o01, z139a, f_X10_ready, q_slot hs, e2, upS]
  subst ha
  have hm := R_thr (t := 0) h
  obtain ⟨n, o, n3, o1, o2, o3, o4, o5⟩ := h.2.2.2.2.2.1
  have hne : ∀ i, i < n → o i ≠ s := fun i hi e => by
    have := (o3 i hi).2.2.2
    rw [e, e1] at this
    exact absurd this (by decide)
  have hn3 : n < 3 := by
    refine Nat.lt_of_le_of_ne n3 fun e => ?_
    subst e
    have a0 := (o3 0 (by decide)).1
    have a1 := (o3 1 (by decide)).1
    have a2 := (o3 2 (by decide)).1
    have b0 := hne 0 (by decide)
    have b1 := hne 1 (by decide)
    have b2 := hne 2 (by decide)
    have d1 : o 0 ≠ o 1 := fun q => absurd (o4 0 1 (by decide) (by decide) q) (by decide)
    have d2 : o 0 ≠ o 2 := fun q => absurd (o4 0 2 (by decide) (by decide) q) (by decide)
    have d3 : o 1 ≠ o 2 := fun q => absurd (o4 1 2 (by decide) (by decide) q) (by decide)
    omega
  let mc' : sM := s_up (s_up (s_up (s_up mc (54 + 10 * s) 3 2) (54 + 10 * s) 2 0) 84 n (nI s)) 0 7 (nI (n + 1))
  let mm' : sM := s_up (s_up (s_up (s_up (s_up mm 110 0 0) 118 s 2) 122 s 0) 126 n (nI s)) 110 19 (nI (n + 1))
  have c1 : ∀ b j, mc'.1 b j = if b = 0 ∧ j = 7 then nI (n + 1) else if b = 84 ∧ j = n then nI s else if b = 54 + 10 * s ∧ j = 2 then 0 else if b = 54 + 10 * s ∧ j = 3 then 2 else mc.1 b j := fun b j => by
    show (s_up _ _ _ _).1 _ _ = _
    rw [up1, up1, up1, up1]
  have n1 : ∀ b j, mm'.1 b j = if b = 110 ∧ j = 19 then nI (n + 1) else if b = 126 ∧ j = n then nI s else if b = 122 ∧ j = s then 0 else if b = 118 ∧ j = s then 2 else (s_up mm 110 0 0).1 b j := fun b j => by
    show (s_up _ _ _ _).1 _ _ = _
    rw [up1, up1, up1, up1]
  have oc : (s_up (s_up mc (54 + 10 * s) 3 2) (54 + 10 * s) 2 0).1 0 7 = nI n := by rw [up1, if_neg (by omega), up1, if_neg (by omega)]; exact o1
  have oc2 : (s_up (s_up (s_up mc (54 + 10 * s) 3 2) (54 + 10 * s) 2 0) 84 n (nI s)).1 0 7 = nI n := by rw [up1, if_neg (by omega)]; exact oc
  have om : (s_up (s_up (s_up mm 110 0 0) 118 s 2) 122 s 0).1 110 19 = nI n := by rw [up1, if_neg (by omega), up1, if_neg (by omega), up1, if_neg (by omega)]; exact o2
  have om2 : (s_up (s_up (s_up (s_up mm 110 0 0) 118 s 2) 122 s 0) 126 n (nI s)).1 110 19 = nI n := by rw [up1, if_neg (by omega)]; exact om
  refine Agr_ok (v := nI (n + 1)) (mc' := mc') (mm' := mm') ?_ ?_ ?_ ?_
  · unfold f_X9_ready; rw [p_slot hs, bd_, p_act hs e1, bd_]
    simp (disch := omega) only [md_, jn_, bd_, bdE_, ixl, ix_, llN, lNl, tlN, tNl, eNl, lNN, tNN, eNN, aNl, alN, mlN, nI_add, pk_mul, neg_lt0, if_true, if_false, if_pos, if_neg, up2, uL1, cp2, gdT, gdb_, or_true, true_or, false_or, or_false, ifb0, ifb1, eq_self, t0, t1, t2, t3, t4, o10, o01, z139a, oc, oc2, upS]
    rfl
  · simp (disch := omega) only [md_, jn_, bd_, bdE_, ixl, ix_, llN, lNl, tlN, tNl, eNl, lNN, tNN, eNN, aNl, alN, mlN, nI_add, pk_mul, neg_lt0, if_true, if_false, if_pos, if_neg, up2, uL1, cp2, gdT, gdb_, or_true, true_or, false_or, or_false, ifb0, ifb1, eq_self, t0, t1, t2, t3, t4, o10, o01, z139a, f_X10_ready, q_slot hs, e2, upS, om, om2]
    rfl
  · refine R_slot2 hs hm (ag_up (ag_up (ag_up (ag_up (ag_rf _) (by omega)) (by omega)) (by omega)) (by omega)) (ag_up (ag_up (ag_up (ag_up (ag_rf _) (by omega)) (by omega)) (by omega)) (by omega)) ?_ ?_
    · refine ⟨n + 1, fun i => if i = n then s else o i, by omega, ?_, ?_, fun i hi => ?_, fun i j hi hj => ?_, fun t ht h2 => ?_⟩
      · rw [c1, if_pos ⟨rfl, rfl⟩]
      · rw [n1, if_pos ⟨rfl, rfl⟩]
      · by_cases ei : i = n
        · subst ei
          simp only [if_true]
          refine ⟨hs, ?_, ?_, ?_⟩
          · rw [c1, if_neg (by omega), if_pos ⟨rfl, rfl⟩]
          · rw [n1, if_neg (by omega), if_pos ⟨rfl, rfl⟩]
          · rw [c1, if_neg (by omega), if_neg (by omega), if_neg (by omega), if_pos ⟨rfl, rfl⟩]
        · simp only [ei, if_false]
          obtain ⟨q1, q2, q3, q4⟩ := o3 i (by omega)
          have q5 := hne i (by omega)
          refine ⟨q1, ?_, ?_, ?_⟩
          · rw [c1, if_neg (by omega), if_neg (by omega), if_neg (by omega), if_neg (by omega)]; exact q2
          · rw [n1, if_neg (by omega), if_neg (by omega), if_neg (by omega), if_neg (by omega), up1, if_neg (by omega)]; exact q3
          · rw [c1, if_neg (by omega), if_neg (by omega), if_neg (by omega), if_neg (by omega)]; exact q4
      · by_cases ei : i = n
        · by_cases ej : j = n
          · omega
          · simp only [ei, ej, if_true, if_false]
            intro q; exact absurd q.symm (hne j (by omega))
        · by_cases ej : j = n
          · simp only [ei, ej, if_true, if_false]
            intro q; exact absurd q (hne i (by omega))
          · simp only [ei, ej, if_false]
            exact o4 i j (by omega) (by omega)
      · by_cases et : t = s
        · exact ⟨n, by omega, by simp only [if_true]; exact et.symm⟩
        · rw [c1, if_neg (by omega), if_neg (by omega), if_neg (by omega), if_neg (by omega)] at h2
          obtain ⟨i, i1, i2⟩ := o5 t ht h2
          have : ¬ i = n := by omega
          exact ⟨i, by omega, by simp only [this, if_false]; exact i2⟩
    · refine ⟨2, 0, by decide, by decide, ?_, ?_, ?_, ?_, ?_, fun j hj => absurd hj (Nat.not_lt_zero j), fun h0 => absurd h0 (by decide)⟩
      · rw [c1, if_neg (by omega), if_neg (by omega), if_neg (by omega), if_pos ⟨rfl, rfl⟩]; rfl
      · rw [n1, if_neg (by omega), if_neg (by omega), if_neg (by omega), if_pos ⟨rfl, rfl⟩]; rfl
      · rw [c1, if_neg (by omega), if_neg (by omega), if_pos ⟨rfl, rfl⟩]; rfl
      · rw [n1, if_neg (by omega), if_neg (by omega), if_pos ⟨rfl, rfl⟩]; rfl
      · exact rChg_ag (ag_up (ag_up (ag_up (ag_up (ag_rf _) (by omega)) (by omega)) (by omega)) (by omega)) (ag_up (ag_up (ag_up (ag_up (ag_up (ag_rf _) (by omega)) (by omega)) (by omega)) (by omega)) (by omega)) e5
  · rw [n1, if_neg (by omega), if_neg (by omega), if_neg (by omega), if_neg (by omega)]; exact upS _ _ _ _
