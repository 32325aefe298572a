/-! PURE: a commit's writing, the pages, the table and the root on both sides. -/
set_option maxRecDepth 100000 in
set_option maxHeartbeats 1000000 in
theorem Nxt_ag {z y u : sM} (h : Nxt z y) (ha : ag (fun a _ => a = 135 ∨ a = 136 ∨ a = 137) y u) : Nxt z u :=
  ⟨fun k hk => by rw [(ha 136 k (by omega)).1, (ha 137 k (by omega)).1]; exact h.1 k hk, fun p hp => by rw [(ha 135 p (by omega)).1]; exact h.2 p hp⟩
def y_cd (k c : Int32) (y : sM) : sM := s_up (s_up (x_fil 138 0 13 0 y) 138 0 k) 138 1 c
set_option maxRecDepth 100000 in
set_option maxHeartbeats 1000000 in
theorem q_cd' (k c : Int32) (y : sM) : f_X10_clearDraft k c y = some (.inl (), y_cd k c y) := q_cd k c y
set_option maxRecDepth 100000 in
set_option maxHeartbeats 1000000 in
theorem ycd1 (k c : Int32) (y : sM) (j : Nat) (hj : j < 13) : (y_cd k c y).1 138 j = if j = 1 then c else if j = 0 then k else 0 := cd1 k c y j hj
set_option maxRecDepth 100000 in
set_option maxHeartbeats 1000000 in
theorem ycd_ag {P : Nat → Nat → Prop} {k c : Int32} {m y : sM} (h : ag P m y) (hp : ∀ j, ¬ P 138 j) : ag P m (y_cd k c y) := cd_ag h hp
abbrev agS (a _k : Nat) : Prop := a ≠ 3 ∧ ¬ (4 ≤ a ∧ a < 36) ∧ a ≠ 52
abbrev agU (a k : Nat) : Prop := a ≠ 111 ∧ a ≠ 138 ∧ a ≠ 139 ∧ ¬ (a = 110 ∧ k = 37)
set_option maxRecDepth 100000 in
set_option maxHeartbeats 1000000 in
theorem dPage_cong {n : Int32} {p : Nat} {f f' : Nat → Bool} {v v' : Nat → Int32} (hf : f = f') (hv : v = v') (c : Nat) : dPage n p f v c = dPage n p f' v' c := by rw [hf, hv]
set_option maxRecDepth 100000 in
set_option maxHeartbeats 1000000 in
theorem wr_loop {mc mm z z3 y y0 : sM} {B : Nat → Nat} {L : Int32} {P c : Nat} (h : R mc mm) (hN : Nxt z y) (hB : isBk mc (fb_ct (wpg z) 8) B) (hL : Lim L P (fb_ct (wpg z) 8 + 2))
    (z3a : ag (fun a k => a ≠ 40 ∧ ¬ (a = 39 ∧ k = 5) ∧ a ≠ 52) z z3) (z40 : ∀ q, q < 8 → z3.1 40 q = plc z B q) (z393 : z.1 39 3 = nI c) (zp : ∀ q, q < 8 → z.1 40 q = mc.1 37 q)
    (ya : ag (fun a _ => a ≠ 135 ∧ a ≠ 136 ∧ a ≠ 137) mm y) (y0a : ag (fun a k => a ≠ 139 ∧ ¬ (a = 110 ∧ k = 37)) y y0) (hd : rDisk z3 y0) (hp : Pw L P 0 z3 y0) (y1 y2 y3 : Int32) :
    ∃ s x u xn, (∀ e, f_X9_writeNext_L10 e 5000 0 z3 = e s) ∧ (∀ e, f_X10_commit_L126 y1 y2 y3 (nI c) e 5000 2 0 y0 = e x u) ∧ ag agS z3 s ∧ ag agU y0 u ∧ rDisk s u ∧ Pw L P (fb_ct (wpg z) 8) s u ∧ x = nI xn ∧ fb_ct (frB mc) xn = fb_ct (wpg z) 8 ∧ ∀ q, q < 8 → u.1 139 q = plc z B q := by
  have hcnt8 : fb_ct (wpg z) 8 ≤ 8 := fb_ct_le _ _
  have st0 : fb_ct (frB mc) 2 = 0 := fb_ct_zero.mpr fun b hb => fre_lo mc hb 2
  have y0m : ag (fun a _ => 112 ≤ a ∧ a ≤ 117) mm y0 := ag_tr (ag_mo ya (by intro a j q; omega)) (ag_mo y0a (by intro a j q; omega))
  have hN0 : Nxt z y0 := Nxt_ag hN (ag_mo y0a (by intro a j q; omega))
  refine Exists.elim (lq2 (fun e g i (s : sM) => f_X9_writeNext_L10 e g (nI i) s) (fun e g i (t : Int32 × sM) => f_X10_commit_L126 y1 y2 y3 (nI c) (fun a m => e (a, m)) g t.1 (nI i) t.2)
    (fun p s t => ag agS z3 s ∧ ag agU y0 t.2 ∧ rDisk s t.2 ∧ Pw L P (fb_ct (wpg z) p) s t.2 ∧ (∃ xn, t.1 = nI xn ∧ fb_ct (frB mc) xn = fb_ct (wpg z) p) ∧ ∀ q, q < p → t.2.1 139 q = plc z B q) 8 ?_ ?_ 8 0 z3 (2, y0) 5000 rfl (by decide) ⟨ag_rf z3, ag_rf y0, hd, hp, ⟨2, rfl, st0⟩, fun q h => absurd h (Nat.not_lt_zero _)⟩) ?_
  rotate_right
  · rintro s ⟨⟨x, u⟩, ⟨j1, j2, j3, j4, ⟨xn, j5, j6⟩, j7⟩, e1, e2⟩
    exact ⟨s, x, u, xn, e1, fun e => e2 (fun t => e t.1 t.2), j1, j2, j3, j4, j5, j6, j7⟩
  · rintro p s ⟨x, u⟩ hp8 ⟨j1, j2, j3, j4, ⟨xn, j5, j6⟩, j7⟩
    dsimp only at j2 j3 j4 j5 j6 j7
    subst j5
    have zs : ag (fun a k => a = 50 ∨ (a = 39 ∧ k = 2)) z s := ag_tr (ag_mo z3a (by intro a k q; omega)) (ag_mo j1 (by intro a k q; omega))
    obtain ⟨w1, w2⟩ := wpg_ag zs p
    have hpw := p_ptw hp8 s
    rw [w2] at hpw
    have um : ag (fun a _ => 112 ≤ a ∧ a ≤ 117) mm u := ag_tr y0m (ag_mo j2 (by intro a j q; omega))
    have hNu : Nxt z u := Nxt_ag hN0 (ag_mo j2 (by intro a j q; omega))
    have e135 := hNu.2 p hp8
    have e114 : u.1 114 p = mc.1 37 p := by
      have := (h.2.2.1.1.2.2.2.1 p hp8).1
      rw [Nat.mul_zero, Nat.zero_add] at this
      rw [(um 114 p (by omega)).1]; exact this.symm
    have hnew : ∀ v, f_X10_isNewPage (nI p) (s_up u 139 p v) = some (.inl (bi (wpg z p)), s_up u 139 p v) := fun v => q_new (Nxt_ag hNu (ag_up (ag_rf u) (by omega))) hp8
    have hsc : fb_ct (wpg z) (p + 1) = fb_ct (wpg z) p + (if wpg z p = true then 1 else 0) := fb_ct_succ _ _
    have hmono := fb_ct_mono (wpg z) (show p + 1 ≤ 8 by omega)
    cases hw : wpg z p
    · rw [hw] at hpw hsc
      rw [if_neg (by decide), Nat.add_zero] at hsc
      rw [hw, bi_f] at hnew
      have fin : ∀ v, v = plc z B p → ag agS z3 s ∧ ag agU y0 (s_up u 139 p v) ∧ rDisk s (s_up u 139 p v) ∧ Pw L P (fb_ct (wpg z) (p + 1)) s (s_up u 139 p v) ∧ (∃ xn', nI xn = nI xn' ∧ fb_ct (frB mc) xn' = fb_ct (wpg z) (p + 1)) ∧ ∀ q, q < p + 1 → (s_up u 139 p v).1 139 q = plc z B q := fun v hv => by
        rw [hsc]
        refine ⟨j1, ag_up j2 (by omega), rDisk_ag (ag_rf _) (ag_up (ag_rf u) (by omega)) j3, ⟨j4.1, j4.2.1, j4.2.2.1, by rw [up1, if_neg (by omega)]; exact j4.2.2.2⟩, ⟨xn, rfl, j6⟩, fun q hq => ?_⟩
        rw [up1]
        by_cases e : q = p
        · rw [if_pos ⟨rfl, e⟩, e]; exact hv
        · rw [if_neg (by omega)]; exact j7 q (by omega)
      cases htg : tpg z p
      · rw [htg] at e135
        refine ⟨s, (nI xn, s_up u 139 p (mc.1 37 p)), fin _ (by unfold plc; rw [hw, htg, if_neg (by decide), if_neg (by decide), zp p hp8]), fun e g => ?_, fun e g => ?_⟩
        · simp (disch := omega) only [md_, jn_, bd_, bdE_, ixl, ix_, llN, lNl, tlN, tNl, eNl, lNN, tNN, eNN, aNl, alN, mlN, nI_add, pk_mul, neg_lt0, if_true, if_false, if_pos, if_neg, up2, uL1, cp2, gdT, gdb_, or_true, true_or, false_or, or_false, and_true, true_and, and_false, false_and, ifb0, ifb1, eq_self, t0, t1, t2, t3, t4, o10, o01, z139a, Bool.false_eq_true, f_X9_writeNext_L10, hpw, bi_f]
        · simp (disch := omega) only [md_, jn_, bd_, bdE_, ixl, ix_, llN, lNl, tlN, tNl, eNl, lNN, tNN, eNN, aNl, alN, mlN, nI_add, pk_mul, neg_lt0, if_true, if_false, if_pos, if_neg, up2, uL1, cp2, gdT, gdb_, or_true, true_or, false_or, or_false, and_true, true_and, and_false, false_and, ifb0, ifb1, eq_self, t0, t1, t2, t3, t4, o10, o01, z139a, Bool.false_eq_true, f_X10_commit_L126, e135, e114, hnew, bi_f]
      · rw [htg] at e135
        refine ⟨s, (nI xn, s_up u 139 p (-1)), fin _ (by unfold plc; rw [hw, htg, if_neg (by decide), if_pos rfl]), fun e g => ?_, fun e g => ?_⟩
        · simp (disch := omega) only [md_, jn_, bd_, bdE_, ixl, ix_, llN, lNl, tlN, tNl, eNl, lNN, tNN, eNN, aNl, alN, mlN, nI_add, pk_mul, neg_lt0, if_true, if_false, if_pos, if_neg, up2, uL1, cp2, gdT, gdb_, or_true, true_or, false_or, or_false, and_true, true_and, and_false, false_and, ifb0, ifb1, eq_self, t0, t1, t2, t3, t4, o10, o01, z139a, Bool.false_eq_true, f_X9_writeNext_L10, hpw, bi_f]
        · simp (disch := omega) only [md_, jn_, bd_, bdE_, ixl, ix_, llN, lNl, tlN, tNl, eNl, lNN, tNN, eNN, aNl, alN, mlN, nI_add, pk_mul, neg_lt0, if_true, if_false, if_pos, if_neg, up2, uL1, cp2, gdT, gdb_, or_true, true_or, false_or, or_false, and_true, true_and, and_false, false_and, ifb0, ifb1, eq_self, t0, t1, t2, t3, t4, o10, o01, z139a, Bool.false_eq_true, f_X10_commit_L126, e135, hnew, bi_f, bi_t]
    · rw [hw] at hpw hsc
      rw [if_pos rfl] at hsc
      rw [hw, bi_t] at hnew
      have htg : tpg z p = true := by
        unfold wpg at hw
        rw [Bool.and_eq_true_iff] at hw
        exact hw.1
      rw [htg] at e135
      obtain ⟨b1, b2, b3⟩ := hB (fb_ct (wpg z) p) (by omega)
      have hpl : plc z B p = nI (B (fb_ct (wpg z) p)) := by unfold plc; rw [hw, if_pos rfl]
      -- the class's draft
      obtain ⟨s1, p1, p2, p3⟩ := p_dp hp8 s
      have s40 : s1.1 40 p = nI (B (fb_ct (wpg z) p)) := by rw [(p2 40 p (by omega)).1, (j1 40 p (by omega)).1, z40 p hp8, hpl]
      -- the reference's draft
      obtain ⟨u2, hu2⟩ : ∃ u2, u2 = s_up (y_cd 3 (nI c) (s_up (s_up u 139 p (-1)) 139 p (nI (B (fb_ct (wpg z) p))))) 138 2 (nI p) := ⟨_, rfl⟩
      have u2a : ag (fun a _ => a ≠ 138 ∧ a ≠ 139) u u2 := by rw [hu2]; exact ag_up (ycd_ag (ag_up (ag_up (ag_rf u) (by omega)) (by omega)) (by intro j; omega)) (by omega)
      have u2d : ∀ j, j < 13 → u2.1 138 j = if j = 2 then nI p else if j = 1 then nI c else if j = 0 then 3 else 0 := fun j hj => by
        rw [hu2, up1, ycd1 _ _ _ _ hj]
        (repeat' split) <;> first | rfl | (exfalso; omega) | (simp only [Nat.zero_add, Nat.sub_zero]; done) | (simp only [Nat.zero_add, Nat.sub_zero]; omega) | (congr 1; omega)
      have u139 : ∀ q, u2.1 139 q = if q = p then nI (B (fb_ct (wpg z) p)) else u.1 139 q := fun q => by
        rw [hu2, up1, if_neg (by omega), (ycd_ag (P := fun a _ => a = 139) (ag_rf (s_up (s_up u 139 p (-1)) 139 p (nI (B (fb_ct (wpg z) p))))) (by intro j; omega) 139 q rfl).1, up1]
        by_cases e : q = p
        · rw [if_pos ⟨rfl, e⟩, if_pos e]
        · rw [if_neg (by omega), if_neg e, up1, if_neg (by omega)]
      obtain ⟨u3, q1, q2, q3⟩ := q_dp (Nxt_ag hNu (ag_mo u2a (by intro a j q; omega))) hp8 (nI c) y1 y2 y3 (nI c) (nI (B (fb_ct (wpg z) p))) (by rw [u2d 0 (by decide)]; rfl) (by rw [u2d 1 (by decide)]; rfl) (by rw [u2d 2 (by decide)]; rfl) (by rw [u2d 3 (by decide)]; rfl)
      have hdraft : ∀ k, k < 12 → s1.1 3 k = u3.1 138 k := fun k hk => by
        rw [p3 k hk, q3 k hk]
        have e393 : s.1 39 3 = nI c := by rw [(j1 39 3 (by omega)).1, (z3a 39 3 (by omega)).1]; exact z393
        have e392 : s.2 39 2 = z.2 39 2 := (zs 39 2 (by omega)).2
        have e41 : s.1 41 = z.1 41 := by
          funext k
          rw [(j1 41 k (by omega)).1, (z3a 41 k (by omega)).1]
        rw [e393, e392, e41]
      have hP3 : Pw L P (fb_ct (wpg z) p) s1 u3 := by
        obtain ⟨g0, g1, g2, g3⟩ := j4
        exact ⟨((p2 52 0 (by omega)).1).trans g0, ((p2 52 1 (by omega)).1).trans g1, ((p2 52 2 (by omega)).1).trans g2, by rw [(q2 110 37 (by omega)).1, (u2a 110 37 (by omega)).1]; exact g3⟩
      have hD3 : rDisk s1 u3 := rDisk_ag (ag_mo p2 (by intro a j q; omega)) (ag_tr (ag_mo u2a (by intro a j q; omega)) (ag_mo q2 (by intro a j q; omega))) j3
      obtain ⟨s4, u4, r1, r2, r3, r4, r5, r6⟩ := wr_one hL (by omega) (by omega) b1 hP3 hD3 hdraft
      have hsr := q_sr168 h (y := s_up u 139 p (-1)) (ag_up um (by omega)) j6 b1 b2 b3 y1 y2 y3 (nI c) (nI p)
      refine ⟨s4, (nI (B (fb_ct (wpg z) p) + 1), u4), ⟨ag_tr j1 (ag_tr (ag_mo p2 (by intro a j q; omega)) (ag_mo r5 (by intro a j q; omega))), ag_tr j2 (ag_tr (ag_mo u2a (by intro a j q; omega)) (ag_tr (ag_mo q2 (by intro a j q; omega)) (ag_mo r6 (by intro a j q; omega)))), r4, by rw [hsc]; exact r3, ⟨_, rfl, by rw [hsc, fb_ct_succ, b2, if_pos rfl, b3]⟩, fun q hq => ?_⟩, fun e g => ?_, fun e g => ?_⟩
      · show u4.1 139 q = _
        rw [(r6 139 q (by omega)).1, (q2 139 q (by omega)).1, u139]
        by_cases e : q = p
        · rw [if_pos e, e, hpl]
        · rw [if_neg e]; exact j7 q (by omega)
      · simp (disch := omega) only [md_, jn_, bd_, bdE_, ixl, ix_, llN, lNl, tlN, tNl, eNl, lNN, tNN, eNN, aNl, alN, mlN, nI_add, pk_mul, neg_lt0, if_true, if_false, if_pos, if_neg, up2, uL1, cp2, gdT, gdb_, or_true, true_or, false_or, or_false, and_true, true_and, and_false, false_and, ifb0, ifb1, eq_self, t0, t1, t2, t3, t4, o10, o01, z139a, Bool.false_eq_true, f_X9_writeNext_L10, hpw, bi_t, p1, s40, r1]
      · rw [hu2] at q1
        simp (disch := omega) only [md_, jn_, bd_, bdE_, ixl, ix_, llN, lNl, tlN, tNl, eNl, lNN, tNN, eNN, aNl, alN, mlN, nI_add, pk_mul, neg_lt0, if_true, if_false, if_pos, if_neg, up2, uL1, cp2, gdT, gdb_, or_true, true_or, false_or, or_false, and_true, true_and, and_false, false_and, ifb0, ifb1, eq_self, t0, t1, t2, t3, t4, o10, o01, z139a, Bool.false_eq_true, f_X10_commit_L126, e135, hnew, bi_t, hsr, q_cd', q1, r2]
  · rintro s ⟨x, u⟩ -
    refine ⟨fun e g => ?_, fun e g => ?_⟩
    · simp (disch := omega) only [md_, jn_, bd_, bdE_, ixl, ix_, llN, lNl, tlN, tNl, eNl, lNN, tNN, eNN, aNl, alN, mlN, nI_add, pk_mul, neg_lt0, if_true, if_false, if_pos, if_neg, up2, uL1, cp2, gdT, gdb_, or_true, true_or, false_or, or_false, and_true, true_and, and_false, false_and, ifb0, ifb1, eq_self, t0, t1, t2, t3, t4, o10, o01, z139a, Bool.false_eq_true, f_X9_writeNext_L10]
    · simp (disch := omega) only [md_, jn_, bd_, bdE_, ixl, ix_, llN, lNl, tlN, tNl, eNl, lNN, tNN, eNN, aNl, alN, mlN, nI_add, pk_mul, neg_lt0, if_true, if_false, if_pos, if_neg, up2, uL1, cp2, gdT, gdb_, or_true, true_or, false_or, or_false, and_true, true_and, and_false, false_and, ifb0, ifb1, eq_self, t0, t1, t2, t3, t4, o10, o01, z139a, Bool.false_eq_true, f_X10_commit_L126]
-- remark: the pages, the table, the root
set_option maxRecDepth 100000 in
set_option maxHeartbeats 1000000 in
theorem wr_all {mc mm z z2 y y0 : sM} {B : Nat → Nat} {L : Int32} {P c r : Nat} (h : R mc mm) (hN : Nxt z y) (hB : isBk mc (fb_ct (wpg z) 8) B) (hL : Lim L P (fb_ct (wpg z) 8 + 2)) (hr : r < 2)
    (z2a : ag (fun a k => a ≠ 40 ∧ ¬ (a = 39 ∧ k = 5)) z z2) (z40 : ∀ q, q < 8 → z2.1 40 q = plc z B q) (z395 : z2.1 39 5 = nI (B (fb_ct (wpg z) 8))) (z393 : z.1 39 3 = nI c) (z394 : z.1 39 4 = nI r) (zp : ∀ q, q < 8 → z.1 40 q = mc.1 37 q)
    (ya : ag (fun a _ => a ≠ 135 ∧ a ≠ 136 ∧ a ≠ 137) mm y) (y0a : ag (fun a k => a ≠ 139 ∧ ¬ (a = 110 ∧ k = 37)) y y0) (hd : rDisk z2 y0) (h37 : y0.1 110 37 = nI P) (y1 y2 y3 : Int32) :
    ∃ s' x u u3 u6, f_X9_writeNext L z2 = some (.inl (), s') ∧ (∀ e, f_X10_commit_L126 y1 y2 y3 (nI c) e 5000 2 0 y0 = e x u) ∧ (∀ e, f_X10_commit_L303 y1 y2 y3 (nI c) e 5000 x u = e (nI (B (fb_ct (wpg z) 8))) u) ∧
      f_X10_write (nI (B (fb_ct (wpg z) 8))) (s_cp (y_cd 2 (nI c) u) 139 138 0 4 8) = some (.inl (), u3) ∧ f_X10_write (nI r) (s_up (y_cd 1 (nI c) u3) 138 2 (nI (B (fb_ct (wpg z) 8)))) = some (.inl (), u6) ∧
      ag agS z2 s' ∧ ag agU y0 u6 ∧ rDisk s' u6 ∧ Pw L P (fb_ct (wpg z) 8 + 2) s' u6 ∧ ∀ q, q < 8 → u6.1 139 q = plc z B q := by
  have hcnt8 : fb_ct (wpg z) 8 ≤ 8 := fb_ct_le _ _
  obtain ⟨z3, hz3⟩ : ∃ z3, z3 = s_up (s_up (s_up z2 52 0 L) 52 1 0) 52 2 0 := ⟨_, rfl⟩
  have z3a : ag (fun a _ => a ≠ 52) z2 z3 := by rw [hz3]; exact ag_up (ag_up (ag_up (ag_rf z2) (by omega)) (by omega)) (by omega)
  have hP0 : Pw L P 0 z3 y0 := by
    refine ⟨?_, ?_, ?_, ?_⟩
    · rw [hz3, up1, if_neg (by omega), up1, if_neg (by omega)]; exact upS _ _ _ _
    · rw [hz3, up1, if_neg (by omega), upS, Nat.zero_min]; rfl
    · rw [hz3, upS, if_pos (Nat.zero_le _)]; rfl
    · rw [h37]; exact (Int32.sub_zero _).symm
  obtain ⟨s, x, u, xn, e1, e2, j1, j2, j3, j4, j5, j6, j7⟩ := wr_loop (L := L) (P := P) (c := c) (z3 := z3) (y0 := y0) h hN hB hL (ag_tr (ag_mo z2a (by intro a k q; omega)) (ag_mo z3a (by intro a k q; omega))) (fun q hq => by rw [(z3a 40 q (by omega)).1]; exact z40 q hq) z393 zp ya y0a (rDisk_ag (ag_mo z3a (by intro a k q; omega)) (ag_rf _) hd) hP0 y1 y2 y3
  obtain ⟨b1, b2, b3⟩ := hB (fb_ct (wpg z) 8) (Nat.le_refl _)
  have um : ag (fun a _ => 112 ≤ a ∧ a ≤ 117) mm u := ag_tr (ag_mo ya (by intro a j q; omega)) (ag_tr (ag_mo y0a (by intro a j q; omega)) (ag_mo j2 (by intro a j q; omega)))
  have hsr := q_sr303 h um j6 b1 b2 b3 y1 y2 y3 (nI c)
  rw [← j5] at hsr
  -- the class's states
  have sz : ∀ k, s.1 39 k = z2.1 39 k := fun k => by rw [(j1 39 k (by omega)).1, (z3a 39 k (by omega)).1]
  have s40 : ∀ q, q < 8 → s.1 40 q = plc z B q := fun q hq => by rw [(j1 40 q (by omega)).1, (z3a 40 q (by omega)).1]; exact z40 q hq
  have s393 : s.1 39 3 = nI c := by rw [sz, (z2a 39 3 (by omega)).1]; exact z393
  have s394 : s.1 39 4 = nI r := by rw [sz, (z2a 39 4 (by omega)).1]; exact z394
  have s395 : s.1 39 5 = nI (B (fb_ct (wpg z) 8)) := by rw [sz]; exact z395
  -- the table
  obtain ⟨S1, hS1⟩ : ∃ S1, S1 = x_row 3 13 (dTab (s.1 39 3) (s.1 (39 + 1))) s := ⟨_, rfl⟩
  have S1a : ag (fun a _ => a ≠ 3) s S1 := by rw [hS1]; exact row_ag (ag_rf s) (fun j _ => by omega)
  have cda : ag (fun a _ => a ≠ 138) u (s_cp (y_cd 2 (nI c) u) 139 138 0 4 8) := ag_cp (ycd_ag (ag_rf u) (by intro j; omega)) (by intro j _ _; omega)
  have dr1 : ∀ k, k < 12 → S1.1 3 k = (s_cp (y_cd 2 (nI c) u) 139 138 0 4 8).1 138 k := fun k hk => by
    rw [hS1, row1, if_pos ⟨rfl, by omega⟩, cp1]
    unfold dTab
    by_cases q : 4 ≤ k
    · have i1 : 138 = 138 ∧ 4 ≤ k ∧ k < 4 + 8 := ⟨rfl, q, by omega⟩
      rw [if_neg (show ¬ k = 0 by omega), if_neg (show ¬ k = 1 by omega), if_pos (show 4 ≤ k ∧ k < 12 from ⟨q, hk⟩), if_pos i1, s40 (k - 4) (by omega), (ycd_ag (P := fun a _ => a = 139) (ag_rf u) (by intro j; omega) 139 _ rfl).1, Nat.zero_add, j7 (k - 4) (by omega)]
    · rw [if_neg (show ¬ (138 = 138 ∧ 4 ≤ k ∧ k < 4 + 8) by omega), ycd1 _ _ _ _ (by omega), s393]
      (repeat' split) <;> first | rfl | (exfalso; omega) | (simp only [Nat.zero_add, Nat.sub_zero]; done) | (simp only [Nat.zero_add, Nat.sub_zero]; omega) | (congr 1; omega)
  have hPS : ∀ {S U : sM} {j : Nat}, Pw L P j s u → ag (fun a _ => a = 52) s S → ag (fun a k => a = 110 ∧ k = 37) u U → Pw L P j S U := fun hp ha hb => ⟨((ha 52 0 rfl).1).trans hp.1, ((ha 52 1 rfl).1).trans hp.2.1, ((ha 52 2 rfl).1).trans hp.2.2.1, ((hb 110 37 ⟨rfl, rfl⟩).1).trans hp.2.2.2⟩
  obtain ⟨S2, U2, r1, r2, r3, r4, r5, r6⟩ := wr_one hL (by omega) (by omega) b1 (hPS j4 (ag_mo S1a (by intro a k q; omega)) (ag_mo cda (by intro a k q; omega))) (rDisk_ag (ag_mo S1a (by intro a k q; omega)) (ag_mo cda (by intro a k q; omega)) j3) dr1
  have sS2 : ∀ k, S2.1 39 k = s.1 39 k := fun k => by rw [(r5 39 k (by omega)).1, (S1a 39 k (by omega)).1]
  -- the root
  obtain ⟨S3, hS3⟩ : ∃ S3, S3 = x_row 3 13 (dRoot (S2.1 39 3) (S2.1 39 5)) S2 := ⟨_, rfl⟩
  have S3a : ag (fun a _ => a ≠ 3) S2 S3 := by rw [hS3]; exact row_ag (ag_rf S2) (fun j _ => by omega)
  have cdb : ag (fun a _ => a ≠ 138) U2 (s_up (y_cd 1 (nI c) U2) 138 2 (nI (B (fb_ct (wpg z) 8)))) := ag_up (ycd_ag (ag_rf U2) (by intro j; omega)) (by omega)
  have dr2 : ∀ k, k < 12 → S3.1 3 k = (s_up (y_cd 1 (nI c) U2) 138 2 (nI (B (fb_ct (wpg z) 8)))).1 138 k := fun k hk => by
    rw [hS3, row1, if_pos ⟨rfl, by omega⟩, up1, ycd1 _ _ _ _ (by omega), sS2, sS2, s393, s395]
    unfold dRoot
    (repeat' split) <;> first | rfl | (exfalso; omega) | (simp only [Nat.zero_add, Nat.sub_zero]; done) | (simp only [Nat.zero_add, Nat.sub_zero]; omega) | (congr 1; omega)
  have hPS2 : Pw L P (fb_ct (wpg z) 8 + 1) S3 (s_up (y_cd 1 (nI c) U2) 138 2 (nI (B (fb_ct (wpg z) 8)))) := ⟨((S3a 52 0 (by omega)).1).trans r3.1, ((S3a 52 1 (by omega)).1).trans r3.2.1, ((S3a 52 2 (by omega)).1).trans r3.2.2.1, ((cdb 110 37 (by omega)).1).trans r3.2.2.2⟩
  obtain ⟨S4, U4, t1, t2, t3, t4, t5, t6⟩ := wr_one (b := r) hL (by omega) (by omega) (by omega) hPS2 (rDisk_ag (ag_mo S3a (by intro a k q; omega)) (ag_mo cdb (by intro a k q; omega)) r4) dr2
  refine ⟨S4, x, u, U2, U4, ?_, e2, hsr, r2, t2, ?_, ?_, t4, t3, fun q hq => ?_⟩
  · have e39 : S1.1 39 5 = nI (B (fb_ct (wpg z) 8)) := by rw [(S1a 39 5 (by omega)).1]; exact s395
    have e394 : S3.1 39 4 = nI r := by rw [(S3a 39 4 (by omega)).1, sS2]; exact s394
    have hstart : f_X5_start L z2 = some (.inl (), z3) := by rw [hz3]; rfl
    have hdt : f_X8_describeTable 39 3 s = some (.inl (), S1) := by rw [hS1]; exact p_dt (by omega) s
    have hdr : f_X8_describeRoot 39 3 S2 = some (.inl (), S3) := by rw [hS3]; exact p_dr (by omega) S2
    unfold f_X9_writeNext
    rw [hstart, bd_, jn_, e1, hdt, bd_, e39, r1, bd_, hdr, bd_, e394, t1, bd_]
  · exact ag_tr (ag_mo z3a (by intro a k q; omega)) (ag_tr j1 (ag_tr (ag_mo S1a (by intro a k q; omega)) (ag_tr (ag_mo r5 (by intro a k q; omega)) (ag_tr (ag_mo S3a (by intro a k q; omega)) (ag_mo t5 (by intro a k q; omega))))))
  · exact ag_tr j2 (ag_tr (ag_mo cda (by intro a k q; omega)) (ag_tr (ag_mo r6 (by intro a k q; omega)) (ag_tr (ag_mo cdb (by intro a k q; omega)) (ag_mo t6 (by intro a k q; omega)))))
  · rw [(t6 139 q (by omega)).1, (cdb 139 q (by omega)).1, (r6 139 q (by omega)).1, (cda 139 q (by omega)).1]; exact j7 q hq
