/-! PURE: adopt and salvage. -/
def adC (s : Nat) (m : sM) : Nat → sM
  | 0 => m
  | i + 1 => if lb (m.2 104 3) i then x_ren (54 + 10 * s + 1) i (m.1 105 i) (adC s m i) else adC s m i
def adM (s : Nat) (p : Nat → Bool) (m : sM) : Nat → sM
  | 0 => m
  | i + 1 => if p i then y_chg s i (m.1 132 i) (adM s p m i) else adM s p m i
set_option maxRecDepth 100000 in
set_option maxHeartbeats 4000000 in
theorem adC_ag {P : Nat → Nat → Prop} {s : Nat} {m : sM} (h1 : ¬ P (54 + 10 * s + 1) 1) (h2 : ¬ P (54 + 10 * s + 1) 2) (h3 : ∀ j, ¬ P (54 + 10 * s + 1 + 1) j) : ∀ i, ag P m (adC s m i)
  | 0 => ag_rf m
  | i + 1 => by
    rw [adC]
    split
    · exact ren_ag (adC_ag h1 h2 h3 i) h1 h2 (h3 i)
    · exact adC_ag h1 h2 h3 i
set_option maxRecDepth 100000 in
set_option maxHeartbeats 4000000 in
theorem adM_ag {P : Nat → Nat → Prop} {s : Nat} {p : Nat → Bool} {m : sM} : ∀ i, i ≤ 64 → (∀ j, 64 * s ≤ j → j < 64 * s + 64 → ¬ P 119 j ∧ ¬ P 120 j ∧ ¬ P 121 j) → ag P m (adM s p m i)
  | 0, _, _ => ag_rf m
  | i + 1, hi, h => by
    rw [adM]
    split
    · exact chg_ag (adM_ag i (by omega) h) (h _ (by omega) (by omega)).1 (h _ (by omega) (by omega)).2.1 (h _ (by omega) (by omega)).2.2
    · exact adM_ag i (by omega) h
set_option maxRecDepth 100000 in
set_option maxHeartbeats 4000000 in
theorem ad_rel {mc mm : sM} {s : Nat} (h : rChg mc mm (54 + 10 * s + 1) 119 120 121 (64 * s)) (hs : rSalv mc mm) : ∀ i, i ≤ 64 → rChg (adC s mc i) (adM s (lb (mc.2 104 3)) mm i) (54 + 10 * s + 1) 119 120 121 (64 * s)
  | 0, _ => h
  | i + 1, hi => by
    have ih := ad_rel h hs i (by omega)
    rw [adC, adM]
    cases hb : lb (mc.2 104 3) i
    · rw [if_neg (by decide), if_neg (by decide)]; exact ih
    · rw [if_pos rfl, if_pos rfl, ((hs i (by omega)).2 hb).1]
      exact rChg_ren (by omega) _ ih
set_option maxRecDepth 100000 in
set_option maxHeartbeats 4000000 in
theorem p_adL {s : Nat} (hs : s < 3) (m : sM) (e : sM → Option (sR Int32)) : f_X9_adopt_L11 (nI s) e 5000 0 m = e (adC s m 64) := by
  refine lpE (fun g i (z : sM) => f_X9_adopt_L11 (nI s) e g (nI i) z) (fun i z => z = adC s m i) _ 64 ?_ ?_ 64 0 _ 5000 rfl (by decide) rfl
  · intro i z g hi hz ih
    have := ih _ rfl
    subst hz
    have hag := @adC_ag (fun a _ => a = 104 ∨ a = 105) s m (by omega) (by omega) (by intro j; omega) i
    have e1 : (adC s m i).2 104 3 = m.2 104 3 := (hag 104 3 (Or.inl rfl)).2
    have e2 : (adC s m i).1 105 i = m.1 105 i := (hag 105 i (Or.inr rfl)).1
    rw [adC] at this
    cases hb : lb (m.2 104 3) i
    · rw [hb, if_neg (by decide)] at this
      simp (disch := omega) only [md_, jn_, bd_, bdE_, ixl, ix_, llN, lNl, tlN, tNl, eNl, lNN, tNN, eNN, aNl, alN, mlN, nI_add, pk_mul, neg_lt0, if_true, if_false, if_pos, if_neg, up2, uL1, cp2, gdT, gdb_, or_true, true_or, false_or, or_false, and_true, true_and, and_false, false_and, ifb0, ifb1, eq_self, t0, t1, t2, t3, t4, o10, o01, z139a, f_X9_adopt_L11, e1, p_isIn, hb, bi_f]
      exact this
    · rw [hb, if_pos rfl] at this
      simp (disch := omega) only [md_, jn_, bd_, bdE_, ixl, ix_, llN, lNl, tlN, tNl, eNl, lNN, tNN, eNN, aNl, alN, mlN, nI_add, pk_mul, neg_lt0, if_true, if_false, if_pos, if_neg, up2, uL1, cp2, gdT, gdb_, or_true, true_or, false_or, or_false, and_true, true_and, and_false, false_and, ifb0, ifb1, eq_self, t0, t1, t2, t3, t4, o10, o01, z139a, f_X9_adopt_L11, e1, e2, p_isIn, hb, bi_t, p_ren]
      exact this
  · intro z g hz
    subst hz
    simp (disch := omega) only [md_, jn_, bd_, bdE_, ixl, ix_, llN, lNl, tlN, tNl, eNl, lNN, tNN, eNN, aNl, alN, mlN, nI_add, pk_mul, neg_lt0, if_true, if_false, if_pos, if_neg, up2, uL1, cp2, gdT, gdb_, or_true, true_or, false_or, or_false, and_true, true_and, and_false, false_and, ifb0, ifb1, eq_self, t0, t1, t2, t3, t4, o10, o01, z139a, f_X9_adopt_L11]
set_option maxRecDepth 100000 in
set_option maxHeartbeats 4000000 in
theorem q_adL {s : Nat} (hs : s < 3) {p : Nat → Bool} {m : sM} (hp : ∀ k, k < 64 → m.1 131 k = bi (p k)) (ht : m.1 110 0 = 0) (e : Int32 → sM → Option (sR Int32)) : f_X10_adopt_L34 (nI s) e 5000 0 0 m = e (nI (fb_ct p 64)) (adM s p m 64) := by
  refine lpE (fun g i (z : Int32 × sM) => f_X10_adopt_L34 (nI s) e g z.1 (nI i) z.2) (fun i z => z = (nI (fb_ct p i), adM s p m i)) _ 64 ?_ ?_ 64 0 (0, m) 5000 rfl (by decide) rfl
  · intro i z g hi hz ih
    have := ih _ rfl
    subst hz
    have hag := @adM_ag (fun a _ => a = 131 ∨ a = 132 ∨ a = 110) s p m i (by omega) (by intro j _ _; omega)
    have e1 : (adM s p m i).1 131 i = m.1 131 i := (hag 131 i (Or.inl rfl)).1
    have e2 : (adM s p m i).1 132 i = m.1 132 i := (hag 132 i (Or.inr (Or.inl rfl))).1
    have e3 : (adM s p m i).1 110 0 = 0 := ((hag 110 0 (Or.inr (Or.inr rfl))).1).trans ht
    have hc := hp i hi
    rw [adM, fb_ct_succ] at this
    cases hb : p i
    · rw [hb] at this hc
      rw [if_neg (by decide), if_neg (by decide)] at this
      simp (disch := omega) only [md_, jn_, bd_, bdE_, ixl, ix_, llN, lNl, tlN, tNl, eNl, lNN, tNN, eNN, aNl, alN, mlN, nI_add, pk_mul, neg_lt0, if_true, if_false, if_pos, if_neg, up2, uL1, cp2, gdT, gdb_, or_true, true_or, false_or, or_false, and_true, true_and, and_false, false_and, ifb0, ifb1, eq_self, t0, t1, t2, t3, t4, o10, o01, z139a, f_X10_adopt_L34, e1, e3, hc, bi_f]
      exact this
    · rw [hb] at this hc
      rw [if_pos rfl, if_pos rfl] at this
      simp (disch := omega) only [md_, jn_, bd_, bdE_, ixl, ix_, llN, lNl, tlN, tNl, eNl, lNN, tNN, eNN, aNl, alN, mlN, nI_add, pk_mul, neg_lt0, if_true, if_false, if_pos, if_neg, up2, uL1, cp2, gdT, gdb_, or_true, true_or, false_or, or_false, and_true, true_and, and_false, false_and, ifb0, ifb1, eq_self, t0, t1, t2, t3, t4, o10, o01, z139a, f_X10_adopt_L34, e1, e2, e3, hc, bi_t, q_chg]
      exact this
  · intro z g hz
    subst hz
    simp (disch := omega) only [md_, jn_, bd_, bdE_, ixl, ix_, llN, lNl, tlN, tNl, eNl, lNN, tNN, eNN, aNl, alN, mlN, nI_add, pk_mul, neg_lt0, if_true, if_false, if_pos, if_neg, up2, uL1, cp2, gdT, gdb_, or_true, true_or, false_or, or_false, and_true, true_and, and_false, false_and, ifb0, ifb1, eq_self, t0, t1, t2, t3, t4, o10, o01, z139a, f_X10_adopt_L34]
set_option maxRecDepth 100000 in
set_option maxHeartbeats 4000000 in
theorem q_adLE {s : Int32} {m : sM} (ht : ¬ m.1 110 0 = 0) (e : Int32 → sM → Option (sR Int32)) : f_X10_adopt_L34 s e 5000 0 0 m = e 0 m := by
  refine lpE (fun g i (z : Int32) => f_X10_adopt_L34 s e g 0 (nI i) m) (fun i z => i = 0) _ 0 (fun i _ g hi => absurd hi (Nat.not_lt_zero i)) ?_ 0 0 (0 : Int32) 5000 rfl (by decide) rfl
  intro z g hz
  simp (disch := omega) only [md_, jn_, bd_, bdE_, ixl, ix_, llN, lNl, tlN, tNl, eNl, lNN, tNN, eNN, aNl, alN, mlN, nI_add, pk_mul, neg_lt0, if_true, if_false, if_pos, if_neg, up2, uL1, cp2, gdT, gdb_, or_true, true_or, false_or, or_false, and_true, true_and, and_false, false_and, ifb0, ifb1, eq_self, t0, t1, t2, t3, t4, o10, o01, z139a, f_X10_adopt_L34, ht]
set_option maxRecDepth 100000 in
set_option maxHeartbeats 4000000 in
theorem k_adopt {mc mm : sM} (h : R mc mm) (p1 : Int32) : Agr [eIO, eIS] (f_X9_adopt p1 mc) (f_X10_adopt p1 mm) := by
  have u1 : ¬ (s_up mm 110 0 1).1 110 0 = 0 := by rw [upS]; exact n10
  have u2 : ¬ (s_up mm 110 0 2).1 110 0 = 0 := by rw [upS]; exact n20
  rcases bad_or 3 (by decide) p1 with hb | ⟨s, hs, rfl⟩
  · refine Agr_ex (v := 0) 0 (mc' := mc) (mm' := s_up mm 110 0 1) ?_ ?_ (R_thr h) rfl (upS _ _ _ _)
    · unfold f_X9_adopt; rw [p_slotE hb, bdE_]
    · simp (disch := omega) only [md_, jn_, bd_, bdE_, ixl, ix_, llN, lNl, tlN, tNl, eNl, lNN, tNN, eNN, aNl, alN, mlN, nI_add, pk_mul, neg_lt0, if_true, if_false, if_pos, if_neg, up2, uL1, cp2, gdT, gdb_, or_true, true_or, false_or, or_false, and_true, true_and, and_false, false_and, ifb0, ifb1, eq_self, t0, t1, t2, t3, t4, o10, o01, z139a, f_X10_adopt, q_slotE hb, q_adLE u1]
  obtain ⟨st, hst, e1, e2⟩ := R_st h hs
  by_cases ha : st = 1
  case neg =>
    have h9 : ¬ mc.1 (54 + 10 * s) 3 = 1 := by rw [e1]; exact fun q => ha ((nI_eq (by omega) (by decide : 1 < 2 ^ 31)).mp q)
    refine Agr_ex (v := 0) 1 (mc' := mc) (mm' := s_up mm 110 0 2) ?_ ?_ (R_thr h) rfl (upS _ _ _ _)
    · unfold f_X9_adopt; rw [p_slot hs, bd_, p_actE hs h9, bdE_]
    · simp (disch := omega) only [md_, jn_, bd_, bdE_, ixl, ix_, llN, lNl, tlN, tNl, eNl, lNN, tNN, eNN, aNl, alN, mlN, nI_add, pk_mul, neg_lt0, if_true, if_false, if_pos, if_neg, up2, uL1, cp2, gdT, gdb_, or_true, true_or, false_or, or_false, and_true, true_and, and_false, false_and, ifb0, ifb1, eq_self, t0, t1, t2, t3, t4, o10, o01, z139a, f_X10_adopt, q_slot hs, e2, q_adLE u2]
  subst ha
  have hm := R_thr (t := 0) h
  have hsv := hm.2.2.2.2.2.2.2.2.2.2
  have hag := @adC_ag (fun a _ => a = 104) s mc (by omega) (by omega) (by intro j; omega) 64
  have hk : (adC s mc 64).2 104 3 = mc.2 104 3 := (hag 104 3 rfl).2
  refine Agr_ok (v := nI (fb_ct (lb (mc.2 104 3)) 64)) (mc' := adC s mc 64) (mm' := adM s (lb (mc.2 104 3)) (s_up mm 110 0 0) 64) ?_ ?_ ?_ ?_
  · unfold f_X9_adopt; rw [p_slot hs, bd_, p_act hs e1, bd_, jn_, p_adL hs, p_bits, bd_, hk]
  · simp (disch := omega) only [md_, jn_, bd_, bdE_, ixl, ix_, llN, lNl, tlN, tNl, eNl, lNN, tNN, eNN, aNl, alN, mlN, nI_add, pk_mul, neg_lt0, if_true, if_false, if_pos, if_neg, up2, uL1, cp2, gdT, gdb_, or_true, true_or, false_or, or_false, and_true, true_and, and_false, false_and, ifb0, ifb1, eq_self, t0, t1, t2, t3, t4, o10, o01, z139a, f_X10_adopt, q_slot hs, e2, q_adL hs (fun k hk => (hsv k hk).1) (upS mm 110 0 0)]
  · have hst : (adC s mc 64).1 (54 + 10 * s) 3 = mc.1 (54 + 10 * s) 3 := (@adC_ag (fun a j => a = 54 + 10 * s) s mc (by omega) (by omega) (by intro j; omega) 64 _ 3 rfl).1
    refine R_slot hs hm (adC_ag (by omega) (by omega) (by intro j; omega) 64) hst (adM_ag 64 (Nat.le_refl _) (by intro j h1 h2; omega)) (rSlot_chg (R_sl hm hs) (by rw [e1]; decide) (adC_ag (by omega) (by omega) (by intro j; omega) 64) (adM_ag 64 (Nat.le_refl _) (by intro j h1 h2; omega)) (ad_rel (rSlot_c (R_sl hm hs)) hsv 64 (Nat.le_refl _)))
  · have := (@adM_ag (fun a j => a = 110) s (lb (mc.2 104 3)) (s_up mm 110 0 0) 64 (Nat.le_refl _) (by intro j h1 h2; omega) 110 0 rfl).1
    rw [this]; exact upS _ _ _ _
/-! bits of a cell -/
def ib (x : Int32) (i : Nat) : Bool := lb (Int32.toInt64 x) i
set_option maxRecDepth 100000 in
set_option maxHeartbeats 4000000 in
theorem ib_e {x : Int32} {i : Nat} (hi : i < 32) : ib x i = x.toBitVec.getLsbD i := by
  unfold ib lb
  show (x.toBitVec.signExtend 64).getLsbD i = _
  rw [BitVec.getLsbD_signExtend, decide_eq_true (by omega : i < 64), Bool.true_and, if_pos hi]
set_option maxRecDepth 100000 in
set_option maxHeartbeats 4000000 in
theorem ib_sh {x : Int32} {i : Nat} (hi : i < 8) : (((x >>> (nI i &&& 31)) &&& 1) = 1) = (ib x i = true) := by
  have h8 : ∀ i, i < 8 → ((nI i &&& 31).toBitVec.smod 32).toNat = i := by decide
  rw [pk_and (x >>> (nI i &&& 31)) (m := 1) 1 (by decide), ib_e (by omega)]
  have e : (x >>> (nI i &&& 31)).toBitVec.toNat % 2 ^ 1 = if x.toBitVec.getLsbD i then 1 else 0 := by
    have q : (x >>> (nI i &&& 31)).toBitVec.getLsbD 0 = x.toBitVec.getLsbD i := by
      rw [Int32.toBitVec_shiftRight]
      show (x.toBitVec.sshiftRight ((nI i &&& 31).toBitVec.smod 32).toNat).getLsbD 0 = _
      rw [h8 i hi, BitVec.getLsbD_sshiftRight]
      rw [decide_eq_false (by decide : ¬ 32 ≤ 0), Bool.not_false, Bool.true_and, Nat.add_zero, if_pos (by omega)]
    rw [← q, Nat.pow_one]
    have := Nat.testBit_zero (x >>> (nI i &&& 31)).toBitVec.toNat
    rw [BitVec.testBit_toNat] at this
    rw [this]
    rcases Nat.mod_two_eq_zero_or_one (x >>> (nI i &&& 31)).toBitVec.toNat with w | w
    · rw [w, decide_eq_false (by decide)]; rfl
    · rw [w, decide_eq_true rfl]; rfl
  rw [e]
  apply propext
  cases x.toBitVec.getLsbD i
  · exact ⟨fun q => absurd q (by decide), fun q => absurd q (by decide)⟩
  · exact ⟨fun _ => rfl, fun _ => rfl⟩
set_option maxRecDepth 100000 in
set_option maxHeartbeats 4000000 in
theorem p_ibIn {x : Int32} {i : Nat} (hi : i < 64) (m : sM) : f_X9_isIn (Int32.toInt64 x) (nI i) m = some (.inl (bi (ib x i)), m) := p_isIn _ hi m
