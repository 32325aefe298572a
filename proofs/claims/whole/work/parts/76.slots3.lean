/-! PURE: mark, goBack, ready, abandon. -/
theorem clL {n : Nat} (h : (OfNat.ofNat n : Nat) < 2 ^ 31) : (no_index (OfNat.ofNat n) : Int32).toNatClampNeg = (OfNat.ofNat n : Nat) := nI_clamp h
def x_cpC (a a1 : Nat) (m : sM) : sM := s_uL (s_uL (s_cp m (a1 + 1) (a + 1) 0 0 64) a 1 (m.2 a1 1)) a 2 ((s_uL (s_cp m (a1 + 1) (a + 1) 0 0 64) a 1 (m.2 a1 1)).2 a1 2)
theorem p_cpC (a a1 : Nat) (m : sM) : f_X0_copyFrom a a1 m = some (.inl (), x_cpC a a1 m) := by
  unfold f_X0_copyFrom
  rw [gd_ ⟨by decide, by decide, by decide, by decide, by decide, fun _ _ => rfl⟩]
  rfl
theorem cpC1 (a a1 : Nat) (m : sM) (b j : Nat) : (x_cpC a a1 m).1 b j = if b = a + 1 ∧ j < 64 then m.1 (a1 + 1) j else m.1 b j := by
  unfold x_cpC
  rw [uL1, uL1, cp1]
  by_cases h : b = a + 1 ∧ j < 64
  · rw [if_pos ⟨h.1, by omega, by omega⟩, if_pos h, show 0 + (j - 0) = j by omega]
  · rw [if_neg (by omega), if_neg h]
theorem cpCT {a a1 : Nat} (h : a1 ≠ a) (m : sM) : (x_cpC a a1 m).2 a 1 = m.2 a1 1 ∧ (x_cpC a a1 m).2 a 2 = m.2 a1 2 := by
  unfold x_cpC
  refine ⟨?_, ?_⟩
  · rw [uL2, if_neg (by omega), uL2, if_pos ⟨rfl, rfl⟩]
  · rw [uL2, if_pos ⟨rfl, rfl⟩, uL2, if_neg (by omega)]; rfl
theorem cpC_ag {P : Nat → Nat → Prop} {a a1 : Nat} {m m1 : sM} (h : ag P m m1) (h1 : ¬ P a 1) (h2 : ¬ P a 2) (h3 : ∀ j, j < 64 → ¬ P (a + 1) j) : ag P m (x_cpC a a1 m1) := ag_uL (ag_uL (ag_cp h fun j _ q => h3 j (by omega)) h1) h2
/-- the reference's three copies -/
def y_cp3 (x y z x' y' z' sp dp : Nat) (m : sM) : sM := s_cp (s_cp (s_cp m x x' sp dp 64) y y' sp dp 64) z z' sp dp 64
theorem cp3_1 {x y z x' y' z' sp dp : Nat} (hd : x' ≠ y ∧ x' ≠ z ∧ y' ≠ z ∧ x' ≠ y' ∧ x' ≠ z' ∧ y' ≠ z') (m : sM) (b j : Nat) : (y_cp3 x y z x' y' z' sp dp m).1 b j = if b = z' ∧ dp ≤ j ∧ j < dp + 64 then m.1 z (sp + (j - dp)) else if b = y' ∧ dp ≤ j ∧ j < dp + 64 then m.1 y (sp + (j - dp)) else if b = x' ∧ dp ≤ j ∧ j < dp + 64 then m.1 x (sp + (j - dp)) else m.1 b j := by
  unfold y_cp3
  have e1 : ∀ i, (s_cp (s_cp m x x' sp dp 64) y y' sp dp 64).1 z i = m.1 z i := fun i => by rw [cp1, if_neg (fun q => hd.2.2.1 q.1.symm), cp1, if_neg (fun q => hd.2.1 q.1.symm)]
  have e2 : ∀ i, (s_cp m x x' sp dp 64).1 y i = m.1 y i := fun i => by rw [cp1, if_neg (fun q => hd.1 q.1.symm)]
  rw [cp1, e1, cp1, e2, cp1]
theorem cp3_ag {P : Nat → Nat → Prop} {x y z x' y' z' sp dp : Nat} {m m1 : sM} (h : ag P m m1) (hp : ∀ j, dp ≤ j → j < dp + 64 → ¬ P x' j ∧ ¬ P y' j ∧ ¬ P z' j) : ag P m (y_cp3 x y z x' y' z' sp dp m1) := ag_cp (ag_cp (ag_cp h fun j h1 h2 => (hp j h1 h2).1) fun j h1 h2 => (hp j h1 h2).2.1) fun j h1 h2 => (hp j h1 h2).2.2
/-- the relation of two sets goes over with their copies -/
theorem rChg_cp {mc mm mc' mm' : sM} {a a1 x y z x' y' z' sp dp : Nat} (h : rChg mc mm a1 x y z sp)
    (c1 : ∀ j, j < 64 → mc'.1 (a + 1) j = mc.1 (a1 + 1) j) (c2 : mc'.2 a 1 = mc.2 a1 1) (c3 : mc'.2 a 2 = mc.2 a1 2)
    (m1 : ∀ j, j < 64 → mm'.1 x' (dp + j) = mm.1 x (sp + j)) (m2 : ∀ j, j < 64 → mm'.1 y' (dp + j) = mm.1 y (sp + j)) (m3 : ∀ j, j < 64 → mm'.1 z' (dp + j) = mm.1 z (sp + j)) : rChg mc' mm' a x' y' z' dp := fun k hk => by
  rw [c1 k hk, c2, c3, m1 k hk, m2 k hk, m3 k hk]
  exact h k hk
theorem R_sl {mc mm : sM} (h : R mc mm) {s : Nat} (hs : s < 3) : rSlot mc mm s := h.2.2.2.2.1 s hs
theorem fitsC {mc mm : sM} {a x y z o : Nat} (h : rChg mc mm a x y z o) : (∀ i, i < 64 → fits .boolean (.int (mm.1 x (o + i))) = true) ∧ (∀ i, i < 64 → fits .boolean (.int (mm.1 y (o + i))) = true) :=
  ⟨fun i hi => by rw [(h i hi).1]; exact fitsBb _, fun i hi => fitsB (h i hi).2.1⟩
theorem q_cp3 {β : Type} {x y z x' y' z' N M sp dp : Nat} {m : sM} {K : sM → Option β} (hd : x' ≠ y ∧ x' ≠ z ∧ y' ≠ z ∧ x' ≠ y' ∧ x' ≠ z' ∧ y' ≠ z') (h1 : sp + 64 ≤ N) (h2 : dp + 64 ≤ M) (h3 : N < 2 ^ 31) (h4 : M < 2 ^ 31)
    (f1 : ∀ i, i < 64 → fits .boolean (.int (m.1 x (sp + i))) = true) (f2 : ∀ i, i < 64 → fits .boolean (.int (m.1 y (sp + i))) = true) :
    s_gd (¬ nI sp < 0 ∧ ¬ nI dp < 0 ∧ ¬ (64 : Int32) < 0 ∧ (nI sp).toNatClampNeg + (64 : Int32).toNatClampNeg ≤ N ∧ (nI dp).toNatClampNeg + (64 : Int32).toNatClampNeg ≤ M ∧ ∀ i, i < (64 : Int32).toNatClampNeg → fits .boolean (.int (m.1 x ((nI sp).toNatClampNeg + i))) = true)
      (s_md (s_cp m x x' (nI sp).toNatClampNeg (nI dp).toNatClampNeg (64 : Int32).toNatClampNeg) fun m5 => s_gd (¬ nI sp < 0 ∧ ¬ nI dp < 0 ∧ ¬ (64 : Int32) < 0 ∧ (nI sp).toNatClampNeg + (64 : Int32).toNatClampNeg ≤ N ∧ (nI dp).toNatClampNeg + (64 : Int32).toNatClampNeg ≤ M ∧ ∀ i, i < (64 : Int32).toNatClampNeg → fits .boolean (.int (m5.1 y ((nI sp).toNatClampNeg + i))) = true)
        (s_md (s_cp m5 y y' (nI sp).toNatClampNeg (nI dp).toNatClampNeg (64 : Int32).toNatClampNeg) fun m6 => s_gd (¬ nI sp < 0 ∧ ¬ nI dp < 0 ∧ ¬ (64 : Int32) < 0 ∧ (nI sp).toNatClampNeg + (64 : Int32).toNatClampNeg ≤ N ∧ (nI dp).toNatClampNeg + (64 : Int32).toNatClampNeg ≤ M ∧ ∀ i, i < (64 : Int32).toNatClampNeg → fits .int (.int (m6.1 z ((nI sp).toNatClampNeg + i))) = true)
          (s_md (s_cp m6 z z' (nI sp).toNatClampNeg (nI dp).toNatClampNeg (64 : Int32).toNatClampNeg) K))) = K (y_cp3 x y z x' y' z' sp dp m) := by
  have e64 : (64 : Int32).toNatClampNeg = 64 := by decide
  have es : (nI sp).toNatClampNeg = sp := nI_clamp (by omega)
  have ed : (nI dp).toNatClampNeg = dp := nI_clamp (by omega)
  rw [es, ed, e64]
  have e2 : ∀ i, (s_cp m x x' sp dp 64).1 y i = m.1 y i := fun i => by rw [cp1, if_neg (fun q => hd.1 q.1.symm)]
  rw [gd_ ⟨nI_pos (by omega), nI_pos (by omega), by decide, h1, h2, f1⟩, md_, gd_ ⟨nI_pos (by omega), nI_pos (by omega), by decide, h1, h2, fun i hi => by rw [e2]; exact f2 i hi⟩, md_, gd_ ⟨nI_pos (by omega), nI_pos (by omega), by decide, h1, h2, fun _ _ => rfl⟩, md_]
  rfl
set_option maxHeartbeats 2000000 in
theorem k_mark {mc mm : sM} (h : R mc mm) (p1 : Int32) : Agr [eIO, eIS] (f_X9_mark p1 mc) (f_X10_mark p1 mm) := by
  rcases bad_or 3 (by decide) p1 with hb | ⟨s, hs, rfl⟩
  · refine Agr_ex (v := 0) 0 (mc' := mc) (mm' := s_up mm 110 0 1) ?_ ?_ (R_thr h) rfl (upS _ _ _ _)
    · unfold f_X9_mark; rw [p_slotE hb, bdE_]
    · simp (disch := omega) only [md_, jn_, bd_, bdE_, ixl, ix_, llN, lNl, tlN, tNl, eNl, lNN, tNN, eNN, aNl, alN, mlN, nI_add, pk_mul, neg_lt0, if_true, if_false, if_pos, if_neg, up2, uL1, cp2, gdT, gdb_, or_true, true_or, false_or, or_false, ifb0, ifb1, eq_self, t0, t1, t2, t3, t4, o10, o01, z139a, f_X10_mark, q_slotE hb, upS]
  obtain ⟨st, c, hst, hc3, e1, e2, e3, e4, e5, e6, e7⟩ := R_sl h hs
  by_cases ha : st = 1
  case neg =>
    have h9 : ¬ mc.1 (54 + 10 * s) 3 = 1 := by rw [e1]; exact fun q => ha ((nI_eq (by omega) (by decide : 1 < 2 ^ 31)).mp q)
    refine Agr_ex (v := 0) 1 (mc' := mc) (mm' := s_up mm 110 0 2) ?_ ?_ (R_thr h) rfl (upS _ _ _ _)
    · unfold f_X9_mark; rw [p_slot hs, bd_, p_actE hs h9, bdE_]
    · simp (disch := omega) only [md_, jn_, bd_, bdE_, ixl, ix_, llN, lNl, tlN, tNl, eNl, lNN, tNN, eNN, aNl, alN, mlN, nI_add, pk_mul, neg_lt0, if_true, if_false, if_pos, if_neg, up2, uL1, cp2, gdT, gdb_, or_true, true_or, false_or, or_false, ifb0, ifb1, eq_self, t0, t1, t2, t3, t4, o10, o01, z139a, f_X10_mark, q_slot hs, e2, upS]
  subst ha
  by_cases hc : c = 3
  · subst hc
    refine Agr_ex (v := 0) 1 (mc' := mc) (mm' := s_up mm 110 0 2) ?_ ?_ (R_thr h) rfl (upS _ _ _ _)
    · unfold f_X9_mark; rw [p_slot hs, bd_, p_act hs e1, bd_]; simp (disch := omega) only [md_, jn_, bd_, bdE_, ixl, ix_, llN, lNl, tlN, tNl, eNl, lNN, tNN, eNN, aNl, alN, mlN, nI_add, pk_mul, neg_lt0, if_true, if_false, if_pos, if_neg, up2, uL1, cp2, gdT, gdb_, or_true, true_or, false_or, or_false, ifb0, ifb1, eq_self, t0, t1, t2, t3, t4, o10, o01, z139a, e3]
    · simp (disch := omega) only [md_, jn_, bd_, bdE_, ixl, ix_, llN, lNl, tlN, tNl, eNl, lNN, tNN, eNN, aNl, alN, mlN, nI_add, pk_mul, neg_lt0, if_true, if_false, if_pos, if_neg, up2, uL1, cp2, gdT, gdb_, or_true, true_or, false_or, or_false, ifb0, ifb1, eq_self, t0, t1, t2, t3, t4, o10, o01, z139a, f_X10_mark, q_slot hs, e2, e4, upS]
  have hm := R_thr (t := 0) h
  have g4 : (s_up mm 110 0 0).1 122 s = nI c := by rw [up1, if_neg (by omega)]; exact e4
  have hch := rSlot_c (R_sl hm hs)
  have hq := q_cp3 (β := sR Int32) (x := 119) (y := 120) (z := 121) (x' := 123) (y' := 124) (z' := 125) (N := 192) (M := 576) (sp := 64 * s) (dp := 64 * (3 * s + c)) (m := s_up mm 110 0 0) (by decide) (by omega) (by omega) (by decide) (by decide) (fitsC hch).1 (fitsC hch).2 (K := fun m7 => s_ix (nI s) 3 fun j8 => s_ix (nI s) 3 fun j9 => s_md (s_up m7 122 j9 ((m7.1 122 j8) + 1)) fun m10 => s_ix (nI s) 3 fun j11 => some (.inl (m10.1 122 j11), m10))
  have g5 : (y_cp3 119 120 121 123 124 125 (64 * s) (64 * (3 * s + c)) (s_up mm 110 0 0)).1 122 s = nI c := by rw [cp3_1 (by decide), if_neg (by omega), if_neg (by omega), if_neg (by omega)]; exact g4
  have g6 : (x_cpC (54 + 10 * s + 4 + 2 * c) (54 + 10 * s + 1) mc).1 (54 + 10 * s) 2 = nI c := by rw [cpC1, if_neg (by omega)]; exact e3
  refine Agr_ok (v := nI (c + 1)) (mc' := s_up (x_cpC (54 + 10 * s + 4 + 2 * c) (54 + 10 * s + 1) mc) (54 + 10 * s) 2 (nI (c + 1))) (mm' := s_up (y_cp3 119 120 121 123 124 125 (64 * s) (64 * (3 * s + c)) (s_up mm 110 0 0)) 122 s (nI (c + 1))) ?_ ?_ ?_ ?_
  · unfold f_X9_mark; rw [p_slot hs, bd_, p_act hs e1, bd_]; simp (disch := omega) only [md_, jn_, bd_, bdE_, ixl, ix_, llN, lNl, tlN, tNl, eNl, lNN, tNN, eNN, aNl, alN, mlN, nI_add, pk_mul, neg_lt0, if_true, if_false, if_pos, if_neg, up2, uL1, cp2, gdT, gdb_, or_true, true_or, false_or, or_false, ifb0, ifb1, eq_self, t0, t1, t2, t3, t4, o10, o01, z139a, e3, f_X7_setMark, p_cpC, g6, upS]
  · simp (disch := omega) only [md_, jn_, bd_, bdE_, ixl, ix_, llN, lNl, tlN, tNl, eNl, lNN, tNN, eNN, aNl, alN, mlN, nI_add, pk_mul, neg_lt0, if_true, if_false, if_pos, if_neg, up2, uL1, cp2, gdT, gdb_, or_true, true_or, false_or, or_false, ifb0, ifb1, eq_self, t0, t1, t2, t3, t4, o10, o01, z139a, f_X10_mark, q_slot hs, e2, e4, upS, g4]
    simp (disch := omega) only [md_, jn_, bd_, bdE_, ixl, ix_, llN, lNl, tlN, tNl, eNl, lNN, tNN, eNN, aNl, alN, mlN, nI_add, pk_mul, neg_lt0, if_true, if_false, if_pos, if_neg, up2, uL1, cp2, gdT, gdb_, or_true, true_or, false_or, or_false, ifb0, ifb1, eq_self, t0, t1, t2, t3, t4, o10, o01, z139a, upS] at hq
    rw [hq]
    simp (disch := omega) only [md_, jn_, bd_, bdE_, ixl, ix_, llN, lNl, tlN, tNl, eNl, lNN, tNN, eNN, aNl, alN, mlN, nI_add, pk_mul, neg_lt0, if_true, if_false, if_pos, if_neg, up2, uL1, cp2, gdT, gdb_, or_true, true_or, false_or, or_false, ifb0, ifb1, eq_self, t0, t1, t2, t3, t4, o10, o01, z139a, g5, upS]
  · refine R_slot hs hm (ag_up (cpC_ag (ag_rf _) (by omega) (by omega) (by intro j hj; omega)) (by omega)) ?_ (ag_up (cp3_ag (ag_rf _) (by intro j h1 h2; omega)) (by omega)) ?_
    · rw [up1, if_neg (by omega), cpC1, if_neg (by omega)]
    · obtain ⟨st, c', s1, c1, g1, g2, g3, g4', g5', g6', g7⟩ := R_sl hm hs
      have hcc : c' = c := by
        rw [e3] at g3
        exact ((nI_eq (by omega) (by omega)).mp g3).symm
      subst hcc
      refine ⟨st, c' + 1, s1, by omega, ?_, ?_, upS _ _ _ _, upS _ _ _ _, ?_, fun j hj => ?_, fun h0 => ?_⟩
      · rw [up1, if_neg (by omega), cpC1, if_neg (by omega)]; exact g1
      · rw [up1, if_neg (by omega), cp3_1 (by decide), if_neg (by omega), if_neg (by omega), if_neg (by omega)]; exact g2
      · exact rChg_ag (ag_up (cpC_ag (ag_rf _) (by omega) (by omega) (by intro j hj; omega)) (by omega)) (ag_up (cp3_ag (ag_rf _) (by intro j h1 h2; omega)) (by omega)) g5'
      · by_cases ej : j = c'
        · subst ej
          refine rChg_cp (sp := 64 * s) g5' (fun i hi => ?_) ?_ ?_ (fun i hi => ?_) (fun i hi => ?_) (fun i hi => ?_)
          · rw [up1, if_neg (by omega), cpC1, if_pos ⟨rfl, hi⟩]
          · exact (cpCT (by omega) mc).1
          · exact (cpCT (by omega) mc).2
          · rw [up1, if_neg (by omega), cp3_1 (by decide), if_neg (by omega), if_neg (by omega), if_pos (by omega), Nat.add_sub_cancel_left]
          · rw [up1, if_neg (by omega), cp3_1 (by decide), if_neg (by omega), if_pos (by omega), Nat.add_sub_cancel_left]
          · rw [up1, if_neg (by omega), cp3_1 (by decide), if_pos (by omega), Nat.add_sub_cancel_left]
        · exact rChg_ag (ag_up (cpC_ag (ag_rf _) (by omega) (by omega) (by intro j hj; omega)) (by omega)) (ag_up (cp3_ag (ag_rf _) (by intro j h1 h2; omega)) (by omega)) (g6' j (by omega))
      · rw [h0, e1] at g1
        exact absurd ((nI_eq (by omega) (by omega)).mp g1) (by decide)
  · rw [up1, if_neg (by omega), cp3_1 (by decide), if_neg (by omega), if_neg (by omega), if_neg (by omega)]; exact upS _ _ _ _
set_option maxHeartbeats 2000000 in
theorem k_goBack {mc mm : sM} (h : R mc mm) (p1 : Int32) : Agr [eIO, eIS, eNS] (f_X9_goBack p1 mc) (f_X10_goBack p1 mm) := by
  rcases bad_or 3 (by decide) p1 with hb | ⟨s, hs, rfl⟩
  · refine Agr_ex (v := 0) 0 (mc' := mc) (mm' := s_up mm 110 0 1) ?_ ?_ (R_thr h) rfl (upS _ _ _ _)
    · unfold f_X9_goBack; rw [p_slotE hb, bdE_]
    · simp (disch := omega) only [md_, jn_, bd_, bdE_, ixl, ix_, llN, lNl, tlN, tNl, eNl, lNN, tNN, eNN, aNl, alN, mlN, nI_add, pk_mul, neg_lt0, if_true, if_false, if_pos, if_neg, up2, uL1, cp2, gdT, gdb_, or_true, true_or, false_or, or_false, ifb0, ifb1, eq_self, t0, t1, t2, t3, t4, o10, o01, z139a, f_X10_goBack, q_slotE hb, upS]
  obtain ⟨st, c, hst, hc3, e1, e2, e3, e4, e5, e6, e7⟩ := R_sl h hs
  by_cases ha : st = 1
  case neg =>
    have h9 : ¬ mc.1 (54 + 10 * s) 3 = 1 := by rw [e1]; exact fun q => ha ((nI_eq (by omega) (by decide : 1 < 2 ^ 31)).mp q)
    refine Agr_ex (v := 0) 1 (mc' := mc) (mm' := s_up mm 110 0 2) ?_ ?_ (R_thr h) rfl (upS _ _ _ _)
    · unfold f_X9_goBack; rw [p_slot hs, bd_, p_actE hs h9, bdE_]
    · simp (disch := omega) only [md_, jn_, bd_, bdE_, ixl, ix_, llN, lNl, tlN, tNl, eNl, lNN, tNN, eNN, aNl, alN, mlN, nI_add, pk_mul, neg_lt0, if_true, if_false, if_pos, if_neg, up2, uL1, cp2, gdT, gdb_, or_true, true_or, false_or, or_false, ifb0, ifb1, eq_self, t0, t1, t2, t3, t4, o10, o01, z139a, f_X10_goBack, q_slot hs, e2, upS]
  subst ha
  by_cases hc : c = 0
  · subst hc
    refine Agr_ex (v := 0) 2 (mc' := mc) (mm' := s_up mm 110 0 3) ?_ ?_ (R_thr h) rfl (upS _ _ _ _)
    · unfold f_X9_goBack; rw [p_slot hs, bd_, p_act hs e1, bd_]; simp (disch := omega) only [md_, jn_, bd_, bdE_, ixl, ix_, llN, lNl, tlN, tNl, eNl, lNN, tNN, eNN, aNl, alN, mlN, nI_add, pk_mul, neg_lt0, if_true, if_false, if_pos, if_neg, up2, uL1, cp2, gdT, gdb_, or_true, true_or, false_or, or_false, ifb0, ifb1, eq_self, t0, t1, t2, t3, t4, o10, o01, z139a, e3]
    · simp (disch := omega) only [md_, jn_, bd_, bdE_, ixl, ix_, llN, lNl, tlN, tNl, eNl, lNN, tNN, eNN, aNl, alN, mlN, nI_add, pk_mul, neg_lt0, if_true, if_false, if_pos, if_neg, up2, uL1, cp2, gdT, gdb_, or_true, true_or, false_or, or_false, ifb0, ifb1, eq_self, t0, t1, t2, t3, t4, o10, o01, z139a, f_X10_goBack, q_slot hs, e2, e4, upS]
  obtain ⟨d, rfl⟩ : ∃ d, c = d + 1 := ⟨c - 1, by omega⟩
  have hm := R_thr (t := 0) h
  have g4 : (s_up mm 110 0 0).1 122 s = nI (d + 1) := by rw [up1, if_neg (by omega)]; exact e4
  have hch : rChg mc (s_up (s_up mm 110 0 0) 122 s (nI d)) (54 + 10 * s + 4 + 2 * d) 123 124 125 (64 * (3 * s + d)) :=
    rChg_ag (ag_rf _) (ag_up (ag_up (ag_rf _) (by omega)) (by omega)) (e6 d (by omega))
  have hq := q_cp3 (β := sR Int32) (x := 123) (y := 124) (z := 125) (x' := 119) (y' := 120) (z' := 121) (N := 576) (M := 192) (sp := 64 * (3 * s + d)) (dp := 64 * s) (m := s_up (s_up mm 110 0 0) 122 s (nI d)) (by decide) (by omega) (by omega) (by decide) (by decide) (fitsC hch).1 (fitsC hch).2 (K := fun m10 => s_bd (f_X10_changesOf (nI s) m10) fun r11 m12 => some (.inl r11, m12))
  let mm' : sM := y_cp3 123 124 125 119 120 121 (64 * (3 * s + d)) (64 * s) (s_up (s_up mm 110 0 0) 122 s (nI d))
  let mc' : sM := x_cpC (54 + 10 * s + 1) (54 + 10 * s + 4 + 2 * d) (s_up mc (54 + 10 * s) 2 (nI d))
  have hnew : rChg mc' mm' (54 + 10 * s + 1) 119 120 121 (64 * s) := by
    refine rChg_cp (sp := 64 * (3 * s + d)) (e6 d (by omega)) (fun i hi => ?_) ?_ ?_ (fun i hi => ?_) (fun i hi => ?_) (fun i hi => ?_)
    · show (x_cpC _ _ _).1 _ _ = _
      rw [cpC1, if_pos ⟨rfl, hi⟩, up1, if_neg (by omega)]
    · exact (cpCT (by omega) _).1
    · exact (cpCT (by omega) _).2
    · show (y_cp3 _ _ _ _ _ _ _ _ _).1 _ _ = _
      rw [cp3_1 (by decide), if_neg (by omega), if_neg (by omega), if_pos (by omega), Nat.add_sub_cancel_left, up1, if_neg (by omega), up1, if_neg (by omega)]
    · show (y_cp3 _ _ _ _ _ _ _ _ _).1 _ _ = _
      rw [cp3_1 (by decide), if_neg (by omega), if_pos (by omega), Nat.add_sub_cancel_left, up1, if_neg (by omega), up1, if_neg (by omega)]
    · show (y_cp3 _ _ _ _ _ _ _ _ _).1 _ _ = _
      rw [cp3_1 (by decide), if_pos (by omega), Nat.add_sub_cancel_left, up1, if_neg (by omega), up1, if_neg (by omega)]
  have hct : f_X10_changesOf (nI s) mm' = some (.inl (nI (fb_ct (lb (mc'.2 (54 + 10 * s + 1) 1)) 64)), mm') := q_changesOf hs fun k hk => (hnew k hk).1
  refine Agr_ok (v := nI (fb_ct (lb (mc'.2 (54 + 10 * s + 1) 1)) 64)) (mc' := mc') (mm' := mm') ?_ ?_ ?_ ?_
  · unfold f_X9_goBack; rw [p_slot hs, bd_, p_act hs e1, bd_]
    have hsub : nI (d + 1) - 1 = nI d := nI_pred d
    simp (disch := omega) only [md_, jn_, bd_, bdE_, ixl, ix_, llN, lNl, tlN, tNl, eNl, lNN, tNN, eNN, aNl, alN, mlN, nI_add, pk_mul, neg_lt0, if_true, if_false, if_pos, if_neg, up2, uL1, cp2, gdT, gdb_, or_true, true_or, false_or, or_false, ifb0, ifb1, eq_self, t0, t1, t2, t3, t4, o10, o01, z139a, e3, f_X7_takeMark, hsub, upS, p_cpC, p_count]
    rfl
  · have hsub : nI (d + 1) - 1 = nI d := nI_pred d
    simp (disch := omega) only [md_, jn_, bd_, bdE_, ixl, ix_, llN, lNl, tlN, tNl, eNl, lNN, tNN, eNN, aNl, alN, mlN, nI_add, pk_mul, neg_lt0, if_true, if_false, if_pos, if_neg, up2, uL1, cp2, gdT, gdb_, or_true, true_or, false_or, or_false, ifb0, ifb1, eq_self, t0, t1, t2, t3, t4, o10, o01, z139a, f_X10_goBack, q_slot hs, e2, e4, upS, g4, hsub]
    simp (disch := omega) only [md_, jn_, bd_, bdE_, ixl, ix_, llN, lNl, tlN, tNl, eNl, lNN, tNN, eNN, aNl, alN, mlN, nI_add, pk_mul, neg_lt0, if_true, if_false, if_pos, if_neg, up2, uL1, cp2, gdT, gdb_, or_true, true_or, false_or, or_false, ifb0, ifb1, eq_self, t0, t1, t2, t3, t4, o10, o01, z139a, upS] at hq
    rw [hq]
    show s_bd (f_X10_changesOf (nI s) mm') _ = _
    rw [hct, bd_]
  · have hcag : ∀ {P : Nat → Nat → Prop}, ¬ P (54 + 10 * s) 2 → ¬ P (54 + 10 * s + 1) 1 → ¬ P (54 + 10 * s + 1) 2 → (∀ j, j < 64 → ¬ P (54 + 10 * s + 1 + 1) j) → ag P mc mc' := fun q1 q2 q3 q4 => cpC_ag (ag_up (ag_rf _) q1) q2 q3 q4
    have hmag : ∀ {P : Nat → Nat → Prop}, ¬ P 122 s → (∀ j, 64 * s ≤ j → j < 64 * s + 64 → ¬ P 119 j ∧ ¬ P 120 j ∧ ¬ P 121 j) → ag P (s_up mm 110 0 0) mm' := fun q1 q2 => cp3_ag (ag_up (ag_rf _) q1) q2
    have c1 : ∀ b j, b = 54 + 10 * s → mc'.1 b j = (s_up mc (54 + 10 * s) 2 (nI d)).1 b j := fun b j hb => by
      show (x_cpC _ _ _).1 _ _ = _
      rw [cpC1, if_neg (by omega)]
    have n1 : ∀ b j, b = 118 ∨ b = 122 → mm'.1 b j = (s_up (s_up mm 110 0 0) 122 s (nI d)).1 b j := fun b j hb => by
      show (y_cp3 _ _ _ _ _ _ _ _ _).1 _ _ = _
      rw [cp3_1 (by decide), if_neg (by omega), if_neg (by omega), if_neg (by omega)]
    refine R_slot hs hm (hcag (by omega) (by omega) (by omega) (by intro j hj; omega)) ?_ (hmag (by omega) (by intro j h1 h2; omega)) ?_
    · rw [c1 _ _ rfl, up1, if_neg (by omega)]
    · refine ⟨1, d, by decide, by omega, ?_, ?_, ?_, ?_, hnew, fun j hj => ?_, fun h0 => absurd h0 (by decide)⟩
      · rw [c1 _ _ rfl, up1, if_neg (by omega)]; exact e1
      · rw [n1 _ _ (Or.inl rfl), up1, if_neg (by omega), up1, if_neg (by omega)]; exact e2
      · rw [c1 _ _ rfl]; exact upS _ _ _ _
      · rw [n1 _ _ (Or.inr rfl)]; exact upS _ _ _ _
      · exact rChg_ag (hcag (by omega) (by omega) (by omega) (by intro j hj; omega)) (ag_tr (ag_up (ag_rf _) (by omega)) (hmag (by omega) (by intro j h1 h2; omega))) (e6 j (by omega))
  · show (y_cp3 _ _ _ _ _ _ _ _ _).1 _ _ = _
    rw [cp3_1 (by decide), if_neg (by omega), if_neg (by omega), if_neg (by omega), up1, if_neg (by omega)]; exact upS _ _ _ _
