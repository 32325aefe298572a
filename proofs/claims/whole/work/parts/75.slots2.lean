/-! PURE: more calls on slots. -/
theorem lpE {β σ : Type} (F : Nat → Nat → σ → β) (Inv : Nat → σ → Prop) (res : β) (n : Nat)
    (step : ∀ i s g, i < n → Inv i s → (∀ s', Inv (i + 1) s' → F g (i + 1) s' = res) → F (g + 1) i s = res)
    (exit : ∀ s g, Inv n s → F (g + 1) n s = res) :
    ∀ d i s g, i + d = n → d < g → Inv i s → F g i s = res := by
  intro d
  induction d with
  | zero =>
    intro i s g h1 h2 hI
    obtain ⟨g, rfl⟩ : ∃ g', g = g' + 1 := ⟨g - 1, by omega⟩
    have : i = n := by omega
    subst this
    exact exit s g hI
  | succ d ih =>
    intro i s g h1 h2 hI
    obtain ⟨g, rfl⟩ : ∃ g', g = g' + 1 := ⟨g - 1, by omega⟩
    exact step i s g (by omega) hI (fun s' hI' => ih (i + 1) s' g (by omega) (by omega) hI')
theorem p_count (a : Nat) (m : sM) : f_X0_count a m = some (.inl (nI (fb_ct (lb (m.2 a 1)) 64)), m) := by
  unfold f_X0_count
  rw [p_bits, bd_]
theorem q_changesOf {s : Nat} (hs : s < 3) {m : sM} {p : Nat → Bool} (hp : ∀ k, k < 64 → m.1 119 (64 * s + k) = bi (p k)) : f_X10_changesOf (nI s) m = some (.inl (nI (fb_ct p 64)), m) := by
  unfold f_X10_changesOf
  rw [jn_]
  refine lpE (fun g i (x : Int32) => f_X10_changesOf_L4 (nI s) m (fun x2 => some (.inl x2, m)) g x (nI i)) (fun i x => x = nI (fb_ct p i)) _ 64 ?_ ?_ 64 0 0 5000 rfl (by decide) rfl
  · intro i x g hi hx ih
    subst hx
    have hc := hp i hi
    have := ih _ rfl
    cases hpi : p i
    · rw [hpi] at hc
      rw [fb_ct_succ, hpi] at this
      simp (disch := omega) only [md_, jn_, bd_, bdE_, ixl, ix_, llN, lNl, tlN, tNl, eNl, lNN, tNN, eNN, aNl, alN, mlN, nI_add, pk_mul, neg_lt0, if_true, if_false, if_pos, if_neg, up2, uL1, cp2, gdT, gdb_, or_true, true_or, false_or, or_false, ifb0, ifb1, eq_self, t0, t1, t2, t3, t4, o10, o01, z139a, f_X10_changesOf_L4, hc, bi_f]
      exact this
    · rw [hpi] at hc
      rw [fb_ct_succ, hpi] at this
      simp (disch := omega) only [md_, jn_, bd_, bdE_, ixl, ix_, llN, lNl, tlN, tNl, eNl, lNN, tNN, eNN, aNl, alN, mlN, nI_add, pk_mul, neg_lt0, if_true, if_false, if_pos, if_neg, up2, uL1, cp2, gdT, gdb_, or_true, true_or, false_or, or_false, ifb0, ifb1, eq_self, t0, t1, t2, t3, t4, o10, o01, z139a, f_X10_changesOf_L4, hc, bi_t]
      exact this
  · intro x g hx
    subst hx
    simp (disch := omega) only [md_, jn_, bd_, bdE_, ixl, ix_, llN, lNl, tlN, tNl, eNl, lNN, tNN, eNN, aNl, alN, mlN, nI_add, pk_mul, neg_lt0, if_true, if_false, if_pos, if_neg, up2, uL1, cp2, gdT, gdb_, or_true, true_or, false_or, or_false, ifb0, ifb1, eq_self, t0, t1, t2, t3, t4, o10, o01, z139a, f_X10_changesOf_L4]
theorem R_count {mc mm : sM} (h : R mc mm) {s : Nat} (hs : s < 3) : f_X10_changesOf (nI s) mm = some (.inl (nI (fb_ct (lb (mc.2 (54 + 10 * s + 1) 1)) 64)), mm) :=
  q_changesOf hs fun k hk => (rSlot_c (h.2.2.2.2.1 s hs) k hk).1
theorem k_changes {mc mm : sM} (h : R mc mm) (p1 : Int32) : Agr [eIO] (f_X9_changes p1 mc) (f_X10_changes p1 mm) := by
  rcases bad_or 3 (by decide) p1 with hb | ⟨s, hs, rfl⟩
  · refine Agr_ex (v := 0) 0 (mc' := mc) (mm' := s_up mm 110 0 1) ?_ ?_ (R_thr h) rfl (upS _ _ _ _)
    · unfold f_X9_changes; rw [p_slotE hb, bdE_]
    · simp (disch := omega) only [md_, jn_, bd_, bdE_, ixl, ix_, llN, lNl, tlN, tNl, eNl, lNN, tNN, eNN, aNl, alN, mlN, nI_add, pk_mul, neg_lt0, if_true, if_false, if_pos, if_neg, up2, uL1, cp2, gdT, gdb_, or_true, true_or, false_or, or_false, ifb0, ifb1, eq_self, t0, t1, t2, t3, t4, o10, o01, z139a, f_X10_changes, q_slotE hb, upS]
  have hm := R_thr (t := 0) h
  refine Agr_ok (v := nI (fb_ct (lb (mc.2 (54 + 10 * s + 1) 1)) 64)) (mc' := mc) (mm' := s_up mm 110 0 0) ?_ ?_ hm (upS _ _ _ _)
  · unfold f_X9_changes; rw [p_slot hs, bd_, ix_ _ hs (by decide), p_count, bd_]
  · simp (disch := omega) only [md_, jn_, bd_, bdE_, ixl, ix_, llN, lNl, tlN, tNl, eNl, lNN, tNN, eNN, aNl, alN, mlN, nI_add, pk_mul, neg_lt0, if_true, if_false, if_pos, if_neg, up2, uL1, cp2, gdT, gdb_, or_true, true_or, false_or, or_false, ifb0, ifb1, eq_self, t0, t1, t2, t3, t4, o10, o01, z139a, f_X10_changes, q_slot hs, upS, R_count hm hs]
theorem k_slotState {mc mm : sM} (h : R mc mm) (p1 : Int32) : Agr [eIO] (f_X9_slotState p1 mc) (f_X10_slotState p1 mm) := by
  rcases bad_or 3 (by decide) p1 with hb | ⟨s, hs, rfl⟩
  · refine Agr_ex (v := 0) 0 (mc' := mc) (mm' := s_up mm 110 0 1) ?_ ?_ (R_thr h) rfl (upS _ _ _ _)
    · unfold f_X9_slotState; rw [p_slotE hb, bdE_]
    · simp (disch := omega) only [md_, jn_, bd_, bdE_, ixl, ix_, llN, lNl, tlN, tNl, eNl, lNN, tNN, eNN, aNl, alN, mlN, nI_add, pk_mul, neg_lt0, if_true, if_false, if_pos, if_neg, up2, uL1, cp2, gdT, gdb_, or_true, true_or, false_or, or_false, ifb0, ifb1, eq_self, t0, t1, t2, t3, t4, o10, o01, z139a, f_X10_slotState, q_slotE hb, upS]
  have hm := R_thr (t := 0) h
  obtain ⟨st, hst, e1, e2⟩ := R_st hm hs
  refine Agr_ok (v := nI st) (mc' := mc) (mm' := s_up mm 110 0 0) ?_ ?_ hm (upS _ _ _ _)
  · unfold f_X9_slotState; rw [p_slot hs, bd_, ix_ _ hs (by decide), e1]
  · simp (disch := omega) only [md_, jn_, bd_, bdE_, ixl, ix_, llN, lNl, tlN, tNl, eNl, lNN, tNN, eNN, aNl, alN, mlN, nI_add, pk_mul, neg_lt0, if_true, if_false, if_pos, if_neg, up2, uL1, cp2, gdT, gdb_, or_true, true_or, false_or, or_false, ifb0, ifb1, eq_self, t0, t1, t2, t3, t4, o10, o01, z139a, f_X10_slotState, q_slot hs, upS, e2]
/-! the standing of a slot changes -/
theorem R_slot2 {mc mc' mm mm' : sM} {s : Nat} (hs : s < 3) (h : R mc mm) (hc : ag (fun a j => dcAll a j ∧ ¬ dcSlot s a j ∧ ¬ (a = 0 ∧ j = 7) ∧ a ≠ 84) mc mc') (hm : ag (fun a j => dmAll a j ∧ ¬ dmSlot s a j ∧ ¬ dmOrd a j) mm mm') (ho : rOrd mc' mm') (hs' : rSlot mc' mm' s) : R mc' mm' := by
  obtain ⟨h1, h2, h3, h4, h5, h6, h7, h8, h9, h10, h11⟩ := h
  refine ⟨rDisk_ag (ag_mo hc ?_) (ag_mo hm ?_) h1, rOpen_ag (ag_mo hc ?_) (ag_mo hm ?_) h2, rPres_ag (ag_mo hc ?_) (ag_mo hm ?_) h3, rPins_ag (ag_mo hc ?_) (ag_mo hm ?_) h4, fun t ht => ?_, ho, rIn_ag (ag_mo hc ?_) (ag_mo hm ?_) h7, rOut_ag (ag_mo hc ?_) (ag_mo hm ?_) h8, rLog_ag (ag_mo hc ?_) (ag_mo hm ?_) h9, rStat_ag (ag_mo hc ?_) (ag_mo hm ?_) h10, rSalv_ag (ag_mo hc ?_) (ag_mo hm ?_) h11⟩
  case refine_9 =>
    by_cases e : t = s
    · subst e; exact hs'
    · exact rSlot_ag (ag_mo hc (by intro a j q; omega)) (ag_mo hm (by intro a j q; omega)) (h5 t ht)
  all_goals (intro a j q; omega)
theorem rOrd_st {mc mc' mm mm' : sM} {s : Nat} (hs : s < 3) (h : rOrd mc mm) (h1 : ¬ mc.1 (54 + 10 * s) 3 = 2) (h2 : ¬ mc'.1 (54 + 10 * s) 3 = 2) (hc : ∀ a j, dcOrd a j → a ≠ 54 + 10 * s → mc'.1 a j = mc.1 a j) (hm : ag dmOrd mm mm') : rOrd mc' mm' := by
  obtain ⟨n, o, n3, g1, g2, g3, g4, g5⟩ := h
  refine ⟨n, o, n3, (hc 0 7 (by omega) (by omega)).trans g1, (hm 110 19 (by omega)).1.trans g2, fun i hi => ?_, g4, fun t ht h3 => ?_⟩
  · obtain ⟨q1, q2, q3, q4⟩ := g3 i hi
    have hne : o i ≠ s := fun e => h1 (e ▸ q4)
    exact ⟨q1, (hc 84 i (by omega) (by omega)).trans q2, (hm 126 i (by omega)).1.trans q3, (hc _ 3 (by omega) (by omega)).trans q4⟩
  · by_cases e : t = s
    · subst e; exact absurd h3 h2
    · rw [hc _ 3 (by omega) (by omega)] at h3
      exact g5 t ht h3
def x_rst (a : Nat) (p : Int32) (m : sM) : sM := s_uL (s_uL (s_up (s_up m a 3 p) a 2 0) (a + 1) 1 0) (a + 1) 2 0
theorem p_rst (a : Nat) (p : Int32) (m : sM) : f_X7_reset a p m = some (.inl (), x_rst a p m) := rfl
theorem rst_ag {P : Nat → Nat → Prop} {a : Nat} {p : Int32} {m m1 : sM} (h : ag P m m1) (h1 : ¬ P a 3) (h2 : ¬ P a 2) (h3 : ¬ P (a + 1) 1) (h4 : ¬ P (a + 1) 2) : ag P m (x_rst a p m1) := ag_uL (ag_uL (ag_up (ag_up h h1) h2) h3) h4
theorem rst1 (a : Nat) (p : Int32) (m : sM) (b j : Nat) : (x_rst a p m).1 b j = if b = a ∧ j = 2 then 0 else if b = a ∧ j = 3 then p else m.1 b j := by
  unfold x_rst
  rw [uL1, uL1, up1, up1]
theorem rstT (a : Nat) (p : Int32) (m : sM) : (x_rst a p m).2 (a + 1) 1 = 0 ∧ (x_rst a p m).2 (a + 1) 2 = 0 := by
  unfold x_rst
  refine ⟨?_, ?_⟩
  · rw [uL2, if_neg (by omega), uL2, if_pos ⟨rfl, rfl⟩]
  · rw [uL2, if_pos ⟨rfl, rfl⟩]
/-- a slot that is emptied, on both sides -/
theorem rSlot_mt {mc' mm' : sM} {s st : Nat} (hst : st < 3) (h1 : mc'.1 (54 + 10 * s) 3 = nI st) (h2 : mm'.1 118 s = nI st) (h3 : mc'.1 (54 + 10 * s) 2 = 0) (h4 : mm'.1 122 s = 0) (h5 : mc'.2 (54 + 10 * s + 1) 1 = 0) (h6 : mc'.2 (54 + 10 * s + 1) 2 = 0) (h7 : ∀ k, k < 64 → mm'.1 119 (64 * s + k) = 0) (h8 : ∀ k, k < 64 → mm'.1 120 (64 * s + k) = 0 ∨ mm'.1 120 (64 * s + k) = 1) : rSlot mc' mm' s := by
  refine ⟨st, 0, hst, by decide, h1, h2, h3, h4, fun k hk => ?_, fun j hj => absurd hj (Nat.not_lt_zero j), fun _ => ⟨rfl, fun k _ => by rw [h5, lb_0]⟩⟩
  rw [h5, h6, h7 k hk, lb_0]
  exact ⟨rfl, h8 k hk, fun q => absurd q (by decide), fun q => absurd q (by decide), fun q => absurd q (by decide)⟩
theorem first3 (P : Nat → Prop) (n : Nat) : (∃ s, s < n ∧ P s ∧ ∀ t, t < s → ¬ P t) ∨ ∀ s, s < n → ¬ P s := by
  induction n with
  | zero => exact Or.inr fun s h => absurd h (Nat.not_lt_zero s)
  | succ n ih =>
    rcases ih with ⟨s, h1, h2, h3⟩ | h
    · exact Or.inl ⟨s, by omega, h2, h3⟩
    · by_cases hp : P n
      · exact Or.inl ⟨n, by omega, hp, h⟩
      · refine Or.inr fun s hs => ?_
        rcases Nat.lt_succ_iff_lt_or_eq.mp hs with q | rfl
        · exact h s q
        · exact hp
set_option maxHeartbeats 2000000 in
theorem k_begin {mc mm : sM} (h : R mc mm) : Agr [eIS] (f_X9_begin mc) (f_X10_begin mm) := by
  have hm := R_thr (t := 0) h
  obtain ⟨o, o1, o2⟩ := h.2.1
  cases o
  · refine Agr_ex (v := 0) 0 (mc' := mc) (mm' := s_up (s_up mm 110 0 0) 110 0 1) ?_ ?_ (R_thr hm) rfl (upS _ _ _ _)
    · unfold f_X9_begin; rw [p_openE o1, bdE_]
    · have o3 : (s_up mm 110 0 0).1 110 2 = 0 := by rw [up1, if_neg (by omega)]; exact o2
      unfold f_X10_begin
      rw [md_, jn_, jn_]
      refine lpE (fun g i (_ : Unit) => f_X10_begin_L7 (s_up mm 110 0 0) _ _ g (nI i)) (fun _ _ => True) _ 0 (fun i _ g hi => absurd hi (Nat.not_lt_zero i)) ?_ 0 0 () 5000 (by omega) (by omega) trivial
      intro _ g _
      simp (disch := omega) only [md_, jn_, bd_, bdE_, ixl, ix_, llN, lNl, tlN, tNl, eNl, lNN, tNN, eNN, aNl, alN, mlN, nI_add, pk_mul, neg_lt0, if_true, if_false, if_pos, if_neg, up2, uL1, cp2, gdT, gdb_, or_true, true_or, false_or, or_false, ifb0, ifb1, eq_self, t0, t1, t2, t3, t4, o10, o01, z139a, f_X10_begin_L7, o3, f_X10_fails]
  rw [bi_t] at o1 o2
  have o3 : (s_up mm 110 0 0).1 110 2 = 1 := by rw [up1, if_neg (by omega)]; exact o2
  rcases first3 (fun s => mc.1 (54 + 10 * s) 3 = 0) 3 with ⟨s, hs, e0, hl⟩ | hn
  · obtain ⟨st, hst, e1, e2⟩ := R_st hm hs
    have hst0 : st = 0 := by
      rw [e1] at e0
      exact (nI_eq (by omega) (by decide : 0 < 2 ^ 31)).mp e0
    subst hst0
    refine Agr_ok (v := nI s) (mc' := x_rst (54 + 10 * s) 1 mc) (mm' := s_up (s_up mm 110 0 0) 118 s 1) ?_ ?_ ?_ ?_
    · unfold f_X9_begin
      rw [p_open o1, bd_, jn_, jn_]
      refine lpE (fun g i (_ : Unit) => f_X9_begin_L6 mc _ _ g (nI i)) (fun _ _ => True) _ s ?_ ?_ s 0 () 5000 (by omega) (by omega) trivial
      · intro i _ g hi _ ih
        have := ih () trivial
        have hne := hl i hi
        simp (disch := omega) only [md_, jn_, bd_, bdE_, ixl, ix_, llN, lNl, tlN, tNl, eNl, lNN, tNN, eNN, aNl, alN, mlN, nI_add, pk_mul, neg_lt0, if_true, if_false, if_pos, if_neg, up2, uL1, cp2, gdT, gdb_, or_true, true_or, false_or, or_false, ifb0, ifb1, eq_self, t0, t1, t2, t3, t4, o10, o01, z139a, f_X9_begin_L6, hne]
        exact this
      · intro _ g _
        simp (disch := omega) only [md_, jn_, bd_, bdE_, ixl, ix_, llN, lNl, tlN, tNl, eNl, lNN, tNN, eNN, aNl, alN, mlN, nI_add, pk_mul, neg_lt0, if_true, if_false, if_pos, if_neg, up2, uL1, cp2, gdT, gdb_, or_true, true_or, false_or, or_false, ifb0, ifb1, eq_self, t0, t1, t2, t3, t4, o10, o01, z139a, f_X9_begin_L6, e1, nI_0, p_rst]
    · unfold f_X10_begin
      rw [md_, jn_, jn_]
      refine lpE (fun g i (_ : Unit) => f_X10_begin_L7 (s_up mm 110 0 0) _ _ g (nI i)) (fun _ _ => True) _ s ?_ ?_ s 0 () 5000 (by omega) (by omega) trivial
      · intro i _ g hi _ ih
        have := ih () trivial
        obtain ⟨u, hu, u1, u2⟩ := R_st hm (show i < 3 by omega)
        have hne : ¬ u = 0 := fun q => hl i hi (by rw [u1, q]; rfl)
        simp (disch := omega) only [md_, jn_, bd_, bdE_, ixl, ix_, llN, lNl, tlN, tNl, eNl, lNN, tNN, eNN, aNl, alN, mlN, nI_add, pk_mul, neg_lt0, if_true, if_false, if_pos, if_neg, up2, uL1, cp2, gdT, gdb_, or_true, true_or, false_or, or_false, ifb0, ifb1, eq_self, t0, t1, t2, t3, t4, o10, o01, z139a, f_X10_begin_L7, u2, o3]
        exact this
      · intro _ g _
        simp (disch := omega) only [md_, jn_, bd_, bdE_, ixl, ix_, llN, lNl, tlN, tNl, eNl, lNN, tNN, eNN, aNl, alN, mlN, nI_add, pk_mul, neg_lt0, if_true, if_false, if_pos, if_neg, up2, uL1, cp2, gdT, gdb_, or_true, true_or, false_or, or_false, ifb0, ifb1, eq_self, t0, t1, t2, t3, t4, o10, o01, z139a, f_X10_begin_L7, e2, nI_0, o3]
    · have hsl := hm.2.2.2.2.1 s hs
      refine R_slot2 hs hm (rst_ag (ag_rf _) (by omega) (by omega) (by omega) (by omega)) (ag_up (ag_rf _) (by omega)) (rOrd_st hs hm.2.2.2.2.2.1 (by rw [e1]; decide) (by rw [rst1, if_neg (by omega), if_pos ⟨rfl, rfl⟩]; decide) (fun a j q q2 => by rw [rst1, if_neg (by omega), if_neg (by omega)]) (ag_up (ag_rf _) (by omega))) ?_
      obtain ⟨st, c, s1, c1, g1, g2, g3, g4, g5, g6, g7⟩ := hsl
      have hst0 : st = 0 := by
        rw [e1] at g1
        exact ((nI_eq (by decide) (by omega)).mp g1).symm
      obtain ⟨hc0, ht0⟩ := g7 hst0
      subst hc0
      refine rSlot_mt (st := 1) (by decide) ?_ ?_ ?_ ?_ (rstT _ _ _).1 (rstT _ _ _).2 (fun k hk => ?_) (fun k hk => ?_)
      · rw [rst1, if_neg (by omega), if_pos ⟨rfl, rfl⟩]; rfl
      · exact upS _ _ _ _
      · rw [rst1, if_pos ⟨rfl, rfl⟩]
      · rw [up1, if_neg (by omega)]; exact g4
      · rw [up1, if_neg (by omega), (g5 k hk).1, ht0 k hk]; rfl
      · rw [up1, if_neg (by omega)]; exact (g5 k hk).2.1
    · rw [up1, if_neg (by omega)]; exact upS _ _ _ _
  · refine Agr_ex (v := 0) 0 (mc' := mc) (mm' := s_up (s_up mm 110 0 0) 110 0 1) ?_ ?_ (R_thr hm) rfl (upS _ _ _ _)
    · unfold f_X9_begin
      rw [p_open o1, bd_, jn_, jn_]
      refine lpE (fun g i (_ : Unit) => f_X9_begin_L6 mc _ _ g (nI i)) (fun _ _ => True) _ 3 ?_ ?_ 3 0 () 5000 (by omega) (by omega) trivial
      · intro i _ g hi _ ih
        have := ih () trivial
        have hne := hn i hi
        simp (disch := omega) only [md_, jn_, bd_, bdE_, ixl, ix_, llN, lNl, tlN, tNl, eNl, lNN, tNN, eNN, aNl, alN, mlN, nI_add, pk_mul, neg_lt0, if_true, if_false, if_pos, if_neg, up2, uL1, cp2, gdT, gdb_, or_true, true_or, false_or, or_false, ifb0, ifb1, eq_self, t0, t1, t2, t3, t4, o10, o01, z139a, f_X9_begin_L6, hne]
        exact this
      · intro _ g _
        simp (disch := omega) only [md_, jn_, bd_, bdE_, ixl, ix_, llN, lNl, tlN, tNl, eNl, lNN, tNN, eNN, aNl, alN, mlN, nI_add, pk_mul, neg_lt0, if_true, if_false, if_pos, if_neg, up2, uL1, cp2, gdT, gdb_, or_true, true_or, false_or, or_false, ifb0, ifb1, eq_self, t0, t1, t2, t3, t4, o10, o01, z139a, f_X9_begin_L6]
    · unfold f_X10_begin
      rw [md_, jn_, jn_]
      refine lpE (fun g i (_ : Unit) => f_X10_begin_L7 (s_up mm 110 0 0) _ _ g (nI i)) (fun _ _ => True) _ 3 ?_ ?_ 3 0 () 5000 (by omega) (by omega) trivial
      · intro i _ g hi _ ih
        have := ih () trivial
        obtain ⟨u, hu, u1, u2⟩ := R_st hm hi
        have hne : ¬ u = 0 := fun q => hn i hi (by rw [u1, q]; rfl)
        simp (disch := omega) only [md_, jn_, bd_, bdE_, ixl, ix_, llN, lNl, tlN, tNl, eNl, lNN, tNN, eNN, aNl, alN, mlN, nI_add, pk_mul, neg_lt0, if_true, if_false, if_pos, if_neg, up2, uL1, cp2, gdT, gdb_, or_true, true_or, false_or, or_false, ifb0, ifb1, eq_self, t0, t1, t2, t3, t4, o10, o01, z139a, f_X10_begin_L7, u2, o3]
        exact this
      · intro _ g _
        simp (disch := omega) only [md_, jn_, bd_, bdE_, ixl, ix_, llN, lNl, tlN, tNl, eNl, lNN, tNN, eNN, aNl, alN, mlN, nI_add, pk_mul, neg_lt0, if_true, if_false, if_pos, if_neg, up2, uL1, cp2, gdT, gdb_, or_true, true_or, false_or, or_false, ifb0, ifb1, eq_self, t0, t1, t2, t3, t4, o10, o01, z139a, f_X10_begin_L7, o3, f_X10_fails]
