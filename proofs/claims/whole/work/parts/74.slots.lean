/-! PURE: the calls on slots. -/
theorem upS (m : sM) (a k : Nat) (v : Int32) : (s_up m a k v).1 a k = v := by rw [up1, if_pos ⟨rfl, rfl⟩]
def Agr (es : List String) (x y : Option (sR Int32)) : Prop := ∃ r mc' v mm', x = some (r, mc') ∧ y = some (.inl v, mm') ∧ R mc' mm' ∧
  ((r = .inl v ∧ mm'.1 110 0 = 0) ∨ ∃ E c, r = .inr E ∧ es[c]? = some E ∧ mm'.1 110 0 = nI (c + 1))
theorem Agr_ok {es : List String} {x y : Option (sR Int32)} {v : Int32} {mc' mm' : sM} (hx : x = some (.inl v, mc')) (hy : y = some (.inl v, mm')) (hR : R mc' mm') (h0 : mm'.1 110 0 = 0) : Agr es x y := ⟨_, mc', v, mm', hx, hy, hR, Or.inl ⟨rfl, h0⟩⟩
theorem Agr_ex {es : List String} {x y : Option (sR Int32)} {v : Int32} {E : String} {mc' mm' : sM} (c : Nat) (hx : x = some (.inr E, mc')) (hy : y = some (.inl v, mm')) (hR : R mc' mm') (hE : es[c]? = some E) (ht : mm'.1 110 0 = nI (c + 1)) : Agr es x y := ⟨_, mc', v, mm', hx, hy, hR, Or.inr ⟨E, c, rfl, hE, ht⟩⟩
abbrev eIO : String := "java/lang/IndexOutOfBoundsException"
abbrev eIA : String := "java/lang/IllegalArgumentException"
abbrev eIS : String := "java/lang/IllegalStateException"
abbrev eNS : String := "java/util/NoSuchElementException"
abbrev eUO : String := "java/lang/UnsupportedOperationException"
theorem R_slot {mc mc' mm mm' : sM} {s : Nat} (hs : s < 3) (h : R mc mm) (hc : ag (fun a j => dcAll a j ∧ ¬ dcSlot s a j) mc mc') (hst : mc'.1 (54 + 10 * s) 3 = mc.1 (54 + 10 * s) 3) (hm : ag (fun a j => dmAll a j ∧ ¬ dmSlot s a j) mm mm') (hs' : rSlot mc' mm' s) : R mc' mm' := by
  obtain ⟨h1, h2, h3, h4, h5, h6, h7, h8, h9, h10, h11⟩ := h
  refine ⟨rDisk_ag (ag_mo hc ?_) (ag_mo hm ?_) h1, rOpen_ag (ag_mo hc ?_) (ag_mo hm ?_) h2, rPres_ag (ag_mo hc ?_) (ag_mo hm ?_) h3, rPins_ag (ag_mo hc ?_) (ag_mo hm ?_) h4, fun t ht => ?_, rOrd_ag ?_ (ag_mo hm ?_) h6, rIn_ag (ag_mo hc ?_) (ag_mo hm ?_) h7, rOut_ag (ag_mo hc ?_) (ag_mo hm ?_) h8, rLog_ag (ag_mo hc ?_) (ag_mo hm ?_) h9, rStat_ag (ag_mo hc ?_) (ag_mo hm ?_) h10, rSalv_ag (ag_mo hc ?_) (ag_mo hm ?_) h11⟩
  case refine_9 =>
    by_cases e : t = s
    · subst e; exact hs'
    · exact rSlot_ag (ag_mo hc (by intro a j q; omega)) (ag_mo hm (by intro a j q; omega)) (h5 t ht)
  case refine_10 =>
    intro a j q
    by_cases e : a = 54 + 10 * s
    · subst e
      have : j = 3 := by omega
      subst this
      exact hst
    · exact (hc a j (by omega)).1
  all_goals (intro a j q; omega)
theorem q_sees {s k : Nat} {t r h : Bool} {m : sM} (hs : s < 3) (hk : k < 64) (h1 : m.1 119 (64 * s + k) = bi t) (h2 : t = true → m.1 120 (64 * s + k) = bi r) (h3 : m.1 115 k = bi h) : f_X10_sees (nI s) (nI k) m = some (.inl (bi (if t then !r else h)), m) := by
  cases t
  · simp (disch := omega) only [md_, jn_, bd_, bdE_, ixl, ix_, llN, lNl, tlN, tNl, eNl, lNN, tNN, eNN, aNl, alN, mlN, nI_add, pk_mul, neg_lt0, if_true, if_false, if_pos, if_neg, up2, uL1, cp2, gdT, gdb_, or_true, true_or, false_or, or_false, ifb0, ifb1, eq_self, t0, t1, t2, t3, t4, o10, o01, z139a, f_X10_sees, h1, h3, bi_f]
    rfl
  · have h2 := h2 rfl
    cases r <;> (simp (disch := omega) only [md_, jn_, bd_, bdE_, ixl, ix_, llN, lNl, tlN, tNl, eNl, lNN, tNN, eNN, aNl, alN, mlN, nI_add, pk_mul, neg_lt0, if_true, if_false, if_pos, if_neg, up2, uL1, cp2, gdT, gdb_, or_true, true_or, false_or, or_false, ifb0, ifb1, eq_self, t0, t1, t2, t3, t4, o10, o01, z139a, f_X10_sees, h1, h2, bi_t, bi_f] <;> rfl)
theorem q_seen {s k : Nat} {t : Bool} {m : sM} (hs : s < 3) (hk : k < 64) (h1 : m.1 119 (64 * s + k) = bi t) : f_X10_seen (nI s) (nI k) m = some (.inl (if t then m.1 121 (64 * s + k) else m.1 116 k), m) := by
  cases t
  · simp (disch := omega) only [md_, jn_, bd_, bdE_, ixl, ix_, llN, lNl, tlN, tNl, eNl, lNN, tNN, eNN, aNl, alN, mlN, nI_add, pk_mul, neg_lt0, if_true, if_false, if_pos, if_neg, up2, uL1, cp2, gdT, gdb_, or_true, true_or, false_or, or_false, ifb0, ifb1, eq_self, t0, t1, t2, t3, t4, o10, o01, z139a, f_X10_seen, h1, bi_f]
    try rfl
  · simp (disch := omega) only [md_, jn_, bd_, bdE_, ixl, ix_, llN, lNl, tlN, tNl, eNl, lNN, tNN, eNN, aNl, alN, mlN, nI_add, pk_mul, neg_lt0, if_true, if_false, if_pos, if_neg, up2, uL1, cp2, gdT, gdb_, or_true, true_or, false_or, or_false, ifb0, ifb1, eq_self, t0, t1, t2, t3, t4, o10, o01, z139a, f_X10_seen, h1, bi_t]
/-- what the reference's slot sees -/
theorem R_sees {mc mm : sM} (h : R mc mm) {s k : Nat} (hs : s < 3) (hk : k < 64) : f_X10_sees (nI s) (nI k) mm = some (.inl (bi (vw mc s k)), mm) := by
  obtain ⟨st, c, -, -, -, -, -, -, hc, -⟩ := h.2.2.2.2.1 s hs
  obtain ⟨c1, -, -, c4, -⟩ := hc k hk
  have hv := (h.2.2.1.1.2.2.2.2 k hk).1
  rw [Nat.mul_zero, Nat.zero_add] at hv
  exact q_sees hs hk c1 c4 hv
theorem R_seen {mc mm : sM} (h : R mc mm) {s k : Nat} (hs : s < 3) (hk : k < 64) (hv : vw mc s k = true) : f_X10_seen (nI s) (nI k) mm = some (.inl (if lb (mc.2 (54 + 10 * s + 1) 1) k then mc.1 (54 + 10 * s + 1 + 1) k else mc.1 38 k), mm) := by
  obtain ⟨st, c, -, -, -, -, -, -, hc, -⟩ := h.2.2.2.2.1 s hs
  obtain ⟨c1, -, -, c4, c5⟩ := hc k hk
  have hp := (h.2.2.1.1.2.2.2.2 k hk).2
  rw [Nat.mul_zero, Nat.zero_add] at hp
  rw [q_seen hs hk c1]
  unfold vw at hv
  cases ht : lb (mc.2 (54 + 10 * s + 1) 1) k
  · rw [ht] at hv
    rw [if_neg (by decide), if_neg (by decide)]
    rw [hp hv]
  · rw [ht, if_pos rfl] at hv
    rw [if_pos rfl, if_pos rfl, c5 ht (by simpa using hv)]
theorem rSlot_c {mc mm : sM} {s : Nat} (h : rSlot mc mm s) : rChg mc mm (54 + 10 * s + 1) 119 120 121 (64 * s) := by
  obtain ⟨st, c, -, -, -, -, -, -, hc, -⟩ := h
  exact hc
theorem rSlot_chg {mc mc' mm mm' : sM} {s : Nat} (h : rSlot mc mm s) (hst : ¬ mc.1 (54 + 10 * s) 3 = 0) (hc : ag (fun a j => dcSlot s a j ∧ (a = 54 + 10 * s ∨ 54 + 10 * s + 4 ≤ a)) mc mc') (hm : ag (fun a j => dmSlot s a j ∧ ¬ (a = 119 ∨ a = 120 ∨ a = 121)) mm mm') (hr : rChg mc' mm' (54 + 10 * s + 1) 119 120 121 (64 * s)) : rSlot mc' mm' s := by
  obtain ⟨st, c, s1, c1, h1, h2, h3, h4, h5, h6, h7⟩ := h
  refine ⟨st, c, s1, c1, (hc _ 3 (by omega)).1.trans h1, (hm 118 s (by omega)).1.trans h2, (hc _ 2 (by omega)).1.trans h3, (hm 122 s (by omega)).1.trans h4, hr, fun j hj => rChg_ag (ag_mo hc (by intro a j q; omega)) (ag_mo hm (by intro a j q; omega)) (h6 j hj), fun h0 => absurd ?_ hst⟩
  rw [h1, h0]
  rfl
/-- a slot's state -/
theorem R_st {mc mm : sM} (h : R mc mm) {s : Nat} (hs : s < 3) : ∃ st, st < 3 ∧ mc.1 (54 + 10 * s) 3 = nI st ∧ mm.1 118 s = nI st := by
  obtain ⟨st, c, s1, -, h1, h2, -⟩ := h.2.2.2.2.1 s hs
  exact ⟨st, s1, h1, h2⟩
set_option maxHeartbeats 2000000 in
theorem k_put {mc mm : sM} (h : R mc mm) (p1 p2 p3 : Int32) : Agr [eIO, eIA, eIS] (f_X9_put p1 p2 p3 mc) (f_X10_put p1 p2 p3 mm) := by
  rcases bad_or 3 (by decide) p1 with hb | ⟨s, hs, rfl⟩
  · refine Agr_ex (v := 0) 0 (mc' := mc) (mm' := s_up mm 110 0 1) ?_ ?_ (R_thr h) rfl (upS _ _ _ _)
    · unfold f_X9_put; rw [p_slotE hb, bdE_]
    · simp (disch := omega) only [md_, jn_, bd_, bdE_, ixl, ix_, llN, lNl, tlN, tNl, eNl, lNN, tNN, eNN, aNl, alN, mlN, nI_add, pk_mul, neg_lt0, if_true, if_false, if_pos, if_neg, up2, uL1, cp2, gdT, gdb_, or_true, true_or, false_or, or_false, ifb0, ifb1, eq_self, t0, t1, t2, t3, t4, o10, o01, z139a, f_X10_put, q_slotE hb, upS]
  rcases bad_or 64 (by decide) p2 with hb | ⟨k, hk, rfl⟩
  · refine Agr_ex (v := 0) 1 (mc' := mc) (mm' := s_up mm 110 0 2) ?_ ?_ (R_thr h) rfl (upS _ _ _ _)
    · unfold f_X9_put; rw [p_slot hs, bd_, p_keyE hb, bdE_]
    · simp (disch := omega) only [md_, jn_, bd_, bdE_, ixl, ix_, llN, lNl, tlN, tNl, eNl, lNN, tNN, eNN, aNl, alN, mlN, nI_add, pk_mul, neg_lt0, if_true, if_false, if_pos, if_neg, up2, uL1, cp2, gdT, gdb_, or_true, true_or, false_or, or_false, ifb0, ifb1, eq_self, t0, t1, t2, t3, t4, o10, o01, z139a, f_X10_put, q_slot hs, q_keyE hb, upS]
  by_cases h1 : p3 < -9999
  · refine Agr_ex (v := 0) 1 (mc' := mc) (mm' := s_up mm 110 0 2) ?_ ?_ (R_thr h) rfl (upS _ _ _ _)
    · unfold f_X9_put; rw [p_slot hs, bd_, p_key hk, bd_, jn_, if_pos h1]
    · simp (disch := omega) only [md_, jn_, bd_, bdE_, ixl, ix_, llN, lNl, tlN, tNl, eNl, lNN, tNN, eNN, aNl, alN, mlN, nI_add, pk_mul, neg_lt0, if_true, if_false, if_pos, if_neg, up2, uL1, cp2, gdT, gdb_, or_true, true_or, false_or, or_false, ifb0, ifb1, eq_self, t0, t1, t2, t3, t4, o10, o01, z139a, f_X10_put, q_slot hs, q_key hk, q_inF (Or.inl h1), upS]
  by_cases h2 : p3 ≤ 9999
  case neg =>
    have h3 : (9999 : Int32) < p3 := Int32.not_le.mp h2
    refine Agr_ex (v := 0) 1 (mc' := mc) (mm' := s_up mm 110 0 2) ?_ ?_ (R_thr h) rfl (upS _ _ _ _)
    · unfold f_X9_put; rw [p_slot hs, bd_, p_key hk, bd_, jn_, if_neg h1, if_neg h2]
    · simp (disch := omega) only [md_, jn_, bd_, bdE_, ixl, ix_, llN, lNl, tlN, tNl, eNl, lNN, tNN, eNN, aNl, alN, mlN, nI_add, pk_mul, neg_lt0, if_true, if_false, if_pos, if_neg, up2, uL1, cp2, gdT, gdb_, or_true, true_or, false_or, or_false, ifb0, ifb1, eq_self, t0, t1, t2, t3, t4, o10, o01, z139a, f_X10_put, q_slot hs, q_key hk, q_inF (p := p3) (a := -9999) (Or.inr h3), upS]
  have h3 := nlt_of_le h2
  obtain ⟨st, hst, e1, e2⟩ := R_st h hs
  by_cases ha : st = 1
  case neg =>
    have h9 : ¬ mc.1 (54 + 10 * s) 3 = 1 := by rw [e1]; exact fun q => ha ((nI_eq (by omega) (by decide : 1 < 2 ^ 31)).mp q)
    refine Agr_ex (v := 0) 2 (mc' := mc) (mm' := s_up mm 110 0 3) ?_ ?_ (R_thr h) rfl (upS _ _ _ _)
    · unfold f_X9_put; rw [p_slot hs, bd_, p_key hk, bd_, jn_, if_neg h1, if_pos h2, p_actE hs h9, bdE_]
    · simp (disch := omega) only [md_, jn_, bd_, bdE_, ixl, ix_, llN, lNl, tlN, tNl, eNl, lNN, tNN, eNN, aNl, alN, mlN, nI_add, pk_mul, neg_lt0, if_true, if_false, if_pos, if_neg, up2, uL1, cp2, gdT, gdb_, or_true, true_or, false_or, or_false, ifb0, ifb1, eq_self, t0, t1, t2, t3, t4, o10, o01, z139a, f_X10_put, q_slot hs, q_key hk, q_inT h1 h3, e2, upS]
  subst ha
  have hm := R_thr (t := 0) h
  refine Agr_ok (v := bi (vw mc s k)) (mc' := x_ren (54 + 10 * s + 1) k p3 mc) (mm' := y_chg s k p3 (s_up mm 110 0 0)) ?_ ?_ ?_ ?_
  · unfold f_X9_put; rw [p_slot hs, bd_, p_key hk, bd_, jn_, if_neg h1, if_pos h2, p_act hs e1, bd_, p_inView hs hk, bd_, ix_ _ hs (by decide), p_ren hk, bd_, gdb_]
  · simp (disch := omega) only [md_, jn_, bd_, bdE_, ixl, ix_, llN, lNl, tlN, tNl, eNl, lNN, tNN, eNN, aNl, alN, mlN, nI_add, pk_mul, neg_lt0, if_true, if_false, if_pos, if_neg, up2, uL1, cp2, gdT, gdb_, or_true, true_or, false_or, or_false, ifb0, ifb1, eq_self, t0, t1, t2, t3, t4, o10, o01, z139a, f_X10_put, q_slot hs, q_key hk, q_inT h1 h3, e2, upS, R_sees hm hs hk, q_chg hs hk]
  · refine R_slot hs hm (ren_ag (ag_rf _) (by omega) (by omega) (by omega)) ?_ (chg_ag (ag_rf _) (by omega) (by omega) (by omega)) (rSlot_chg (hm.2.2.2.2.1 s hs) (by rw [e1]; decide) (ren_ag (ag_rf _) (by omega) (by omega) (by omega)) (chg_ag (ag_rf _) (by omega) (by omega) (by omega)) (rChg_ren hk p3 (rSlot_c (hm.2.2.2.2.1 s hs))))
    rw [ren1, if_neg (by omega)]
  · rw [chg1, if_neg (by omega), if_neg (by omega), if_neg (by omega)]; exact upS _ _ _ _
set_option maxHeartbeats 2000000 in
theorem k_remove {mc mm : sM} (h : R mc mm) (p1 p2 : Int32) : Agr [eIO, eIA, eIS, eNS] (f_X9_remove p1 p2 mc) (f_X10_remove p1 p2 mm) := by
  rcases bad_or 3 (by decide) p1 with hb | ⟨s, hs, rfl⟩
  · refine Agr_ex (v := 0) 0 (mc' := mc) (mm' := s_up mm 110 0 1) ?_ ?_ (R_thr h) rfl (upS _ _ _ _)
    · unfold f_X9_remove; rw [p_slotE hb, bdE_]
    · simp (disch := omega) only [md_, jn_, bd_, bdE_, ixl, ix_, llN, lNl, tlN, tNl, eNl, lNN, tNN, eNN, aNl, alN, mlN, nI_add, pk_mul, neg_lt0, if_true, if_false, if_pos, if_neg, up2, uL1, cp2, gdT, gdb_, or_true, true_or, false_or, or_false, ifb0, ifb1, eq_self, t0, t1, t2, t3, t4, o10, o01, z139a, f_X10_remove, q_slotE hb, upS]
  rcases bad_or 64 (by decide) p2 with hb | ⟨k, hk, rfl⟩
  · refine Agr_ex (v := 0) 1 (mc' := mc) (mm' := s_up mm 110 0 2) ?_ ?_ (R_thr h) rfl (upS _ _ _ _)
    · unfold f_X9_remove; rw [p_slot hs, bd_, p_keyE hb, bdE_]
    · simp (disch := omega) only [md_, jn_, bd_, bdE_, ixl, ix_, llN, lNl, tlN, tNl, eNl, lNN, tNN, eNN, aNl, alN, mlN, nI_add, pk_mul, neg_lt0, if_true, if_false, if_pos, if_neg, up2, uL1, cp2, gdT, gdb_, or_true, true_or, false_or, or_false, ifb0, ifb1, eq_self, t0, t1, t2, t3, t4, o10, o01, z139a, f_X10_remove, q_slot hs, q_keyE hb, upS]
  obtain ⟨st, hst, e1, e2⟩ := R_st h hs
  by_cases ha : st = 1
  case neg =>
    have h9 : ¬ mc.1 (54 + 10 * s) 3 = 1 := by rw [e1]; exact fun q => ha ((nI_eq (by omega) (by decide : 1 < 2 ^ 31)).mp q)
    refine Agr_ex (v := 0) 2 (mc' := mc) (mm' := s_up mm 110 0 3) ?_ ?_ (R_thr h) rfl (upS _ _ _ _)
    · unfold f_X9_remove; rw [p_slot hs, bd_, p_key hk, bd_, p_actE hs h9, bdE_]
    · simp (disch := omega) only [md_, jn_, bd_, bdE_, ixl, ix_, llN, lNl, tlN, tNl, eNl, lNN, tNN, eNN, aNl, alN, mlN, nI_add, pk_mul, neg_lt0, if_true, if_false, if_pos, if_neg, up2, uL1, cp2, gdT, gdb_, or_true, true_or, false_or, or_false, ifb0, ifb1, eq_self, t0, t1, t2, t3, t4, o10, o01, z139a, f_X10_remove, q_slot hs, q_key hk, e2, upS]
  subst ha
  cases hv : vw mc s k
  · refine Agr_ex (v := 0) 3 (mc' := mc) (mm' := s_up mm 110 0 4) ?_ ?_ (R_thr h) rfl (upS _ _ _ _)
    · unfold f_X9_remove; rw [p_slot hs, bd_, p_key hk, bd_, p_act hs e1, bd_, p_reqViewE hs hk hv, bdE_]
    · simp (disch := omega) only [md_, jn_, bd_, bdE_, ixl, ix_, llN, lNl, tlN, tNl, eNl, lNN, tNN, eNN, aNl, alN, mlN, nI_add, pk_mul, neg_lt0, if_true, if_false, if_pos, if_neg, up2, uL1, cp2, gdT, gdb_, or_true, true_or, false_or, or_false, ifb0, ifb1, eq_self, t0, t1, t2, t3, t4, o10, o01, z139a, f_X10_remove, q_slot hs, q_key hk, e2, upS, R_sees h hs hk, hv, bi_f]
  have hm := R_thr (t := 0) h
  refine Agr_ok (v := if lb (mc.2 (54 + 10 * s + 1) 1) k then mc.1 (54 + 10 * s + 1 + 1) k else mc.1 38 k) (mc' := x_drp (54 + 10 * s + 1) k mc) (mm' := y_drp s k (s_up mm 110 0 0)) ?_ ?_ ?_ ?_
  · unfold f_X9_remove; rw [p_slot hs, bd_, p_key hk, bd_, p_act hs e1, bd_, p_reqView hs hk hv, bd_, p_valView hs hk, bd_, ix_ _ hs (by decide), p_drp, bd_]
  · simp (disch := omega) only [md_, jn_, bd_, bdE_, ixl, ix_, llN, lNl, tlN, tNl, eNl, lNN, tNN, eNN, aNl, alN, mlN, nI_add, pk_mul, neg_lt0, if_true, if_false, if_pos, if_neg, up2, uL1, cp2, gdT, gdb_, or_true, true_or, false_or, or_false, ifb0, ifb1, eq_self, t0, t1, t2, t3, t4, o10, o01, z139a, f_X10_remove, q_slot hs, q_key hk, e2, upS, R_sees h hs hk, hv, bi_t, R_seen hm hs hk hv, q_drp hs hk]
  · refine R_slot hs hm (drp_ag (ag_rf _) (by omega) (by omega)) ?_ (ydrp_ag (ag_rf _) (by omega) (by omega)) (rSlot_chg (hm.2.2.2.2.1 s hs) (by rw [e1]; decide) (drp_ag (ag_rf _) (by omega) (by omega)) (ydrp_ag (ag_rf _) (by omega) (by omega)) (rChg_drp hk (rSlot_c (hm.2.2.2.2.1 s hs))))
    rw [drp1]
  · rw [ydrp1, if_neg (by omega), if_neg (by omega)]; exact upS _ _ _ _
set_option maxHeartbeats 2000000 in
theorem k_get {mc mm : sM} (h : R mc mm) (p1 p2 : Int32) : Agr [eIO, eIA, eIS, eNS] (f_X9_get p1 p2 mc) (f_X10_get p1 p2 mm) := by
  rcases bad_or 3 (by decide) p1 with hb | ⟨s, hs, rfl⟩
  · refine Agr_ex (v := 0) 0 (mc' := mc) (mm' := s_up mm 110 0 1) ?_ ?_ (R_thr h) rfl (upS _ _ _ _)
    · unfold f_X9_get; rw [p_slotE hb, bdE_]
    · simp (disch := omega) only [md_, jn_, bd_, bdE_, ixl, ix_, llN, lNl, tlN, tNl, eNl, lNN, tNN, eNN, aNl, alN, mlN, nI_add, pk_mul, neg_lt0, if_true, if_false, if_pos, if_neg, up2, uL1, cp2, gdT, gdb_, or_true, true_or, false_or, or_false, ifb0, ifb1, eq_self, t0, t1, t2, t3, t4, o10, o01, z139a, f_X10_get, q_slotE hb, upS]
  rcases bad_or 64 (by decide) p2 with hb | ⟨k, hk, rfl⟩
  · refine Agr_ex (v := 0) 1 (mc' := mc) (mm' := s_up mm 110 0 2) ?_ ?_ (R_thr h) rfl (upS _ _ _ _)
    · unfold f_X9_get; rw [p_slot hs, bd_, p_keyE hb, bdE_]
    · simp (disch := omega) only [md_, jn_, bd_, bdE_, ixl, ix_, llN, lNl, tlN, tNl, eNl, lNN, tNN, eNN, aNl, alN, mlN, nI_add, pk_mul, neg_lt0, if_true, if_false, if_pos, if_neg, up2, uL1, cp2, gdT, gdb_, or_true, true_or, false_or, or_false, ifb0, ifb1, eq_self, t0, t1, t2, t3, t4, o10, o01, z139a, f_X10_get, q_slot hs, q_keyE hb, upS]
  obtain ⟨st, hst, e1, e2⟩ := R_st h hs
  by_cases ha : st = 0
  · subst ha
    refine Agr_ex (v := 0) 2 (mc' := mc) (mm' := s_up mm 110 0 3) ?_ ?_ (R_thr h) rfl (upS _ _ _ _)
    · unfold f_X9_get; rw [p_slot hs, bd_, p_key hk, bd_, p_nidE hs e1, bdE_]
    · simp (disch := omega) only [md_, jn_, bd_, bdE_, ixl, ix_, llN, lNl, tlN, tNl, eNl, lNN, tNN, eNN, aNl, alN, mlN, nI_add, pk_mul, neg_lt0, if_true, if_false, if_pos, if_neg, up2, uL1, cp2, gdT, gdb_, or_true, true_or, false_or, or_false, ifb0, ifb1, eq_self, t0, t1, t2, t3, t4, o10, o01, z139a, f_X10_get, q_slot hs, q_key hk, e2, upS]
  have h9 : ¬ mc.1 (54 + 10 * s) 3 = 0 := by rw [e1]; exact fun q => ha ((nI_eq (by omega) (by decide : 0 < 2 ^ 31)).mp q)
  cases hv : vw mc s k
  · refine Agr_ex (v := 0) 3 (mc' := mc) (mm' := s_up mm 110 0 4) ?_ ?_ (R_thr h) rfl (upS _ _ _ _)
    · unfold f_X9_get; rw [p_slot hs, bd_, p_key hk, bd_, p_nid hs h9, bd_, p_reqViewE hs hk hv, bdE_]
    · simp (disch := omega) only [md_, jn_, bd_, bdE_, ixl, ix_, llN, lNl, tlN, tNl, eNl, lNN, tNN, eNN, aNl, alN, mlN, nI_add, pk_mul, neg_lt0, if_true, if_false, if_pos, if_neg, up2, uL1, cp2, gdT, gdb_, or_true, true_or, false_or, or_false, ifb0, ifb1, eq_self, t0, t1, t2, t3, t4, o10, o01, z139a, f_X10_get, q_slot hs, q_key hk, e2, upS, R_sees h hs hk, hv, bi_f]
  have hm := R_thr (t := 0) h
  refine Agr_ok (v := if lb (mc.2 (54 + 10 * s + 1) 1) k then mc.1 (54 + 10 * s + 1 + 1) k else mc.1 38 k) (mc' := mc) (mm' := s_up mm 110 0 0) ?_ ?_ hm (upS _ _ _ _)
  · unfold f_X9_get; rw [p_slot hs, bd_, p_key hk, bd_, p_nid hs h9, bd_, p_reqView hs hk hv, bd_, p_valView hs hk, bd_]
  · simp (disch := omega) only [md_, jn_, bd_, bdE_, ixl, ix_, llN, lNl, tlN, tNl, eNl, lNN, tNN, eNN, aNl, alN, mlN, nI_add, pk_mul, neg_lt0, if_true, if_false, if_pos, if_neg, up2, uL1, cp2, gdT, gdb_, or_true, true_or, false_or, or_false, ifb0, ifb1, eq_self, t0, t1, t2, t3, t4, o10, o01, z139a, f_X10_get, q_slot hs, q_key hk, e2, upS, R_sees h hs hk, hv, bi_t, R_seen hm hs hk hv]
