/-! PURE: pin; differences. -/
set_option maxRecDepth 100000 in
set_option maxHeartbeats 4000000 in
theorem gcI3 {α : Type} {dp n N M : Nat} {f : Nat → Int32} {x : Option α} (h1 : n ≤ N) (h2 : dp + n ≤ M) (h3 : N < 2 ^ 31) (h4 : M < 2 ^ 31) : s_gd (¬ (0 : Int32) < 0 ∧ ¬ nI dp < 0 ∧ ¬ nI n < 0 ∧ (0 : Int32).toNatClampNeg + (nI n).toNatClampNeg ≤ N ∧ (nI dp).toNatClampNeg + (nI n).toNatClampNeg ≤ M ∧ ∀ i, i < (nI n).toNatClampNeg → fits .int (.int (f ((0 : Int32).toNatClampNeg + i))) = true) x = x := by
  have e0 : (0 : Int32).toNatClampNeg = 0 := by decide
  rw [e0, nI_clamp (by omega), nI_clamp (by omega)]
  exact gd_ ⟨by decide, nI_pos (by omega), nI_pos (by omega), by omega, h2, fun _ _ => rfl⟩ x
set_option maxRecDepth 100000 in
set_option maxHeartbeats 4000000 in
theorem gcB3 {α : Type} {dp n N M : Nat} {f : Nat → Int32} {x : Option α} (h1 : n ≤ N) (h2 : dp + n ≤ M) (h3 : N < 2 ^ 31) (h4 : M < 2 ^ 31) (hf : ∀ i, i < n → fits .boolean (.int (f i)) = true) : s_gd (¬ (0 : Int32) < 0 ∧ ¬ nI dp < 0 ∧ ¬ nI n < 0 ∧ (0 : Int32).toNatClampNeg + (nI n).toNatClampNeg ≤ N ∧ (nI dp).toNatClampNeg + (nI n).toNatClampNeg ≤ M ∧ ∀ i, i < (nI n).toNatClampNeg → fits .boolean (.int (f ((0 : Int32).toNatClampNeg + i))) = true) x = x := by
  have e0 : (0 : Int32).toNatClampNeg = 0 := by decide
  rw [e0, nI_clamp (by omega), nI_clamp (by omega)]
  exact gd_ ⟨by decide, nI_pos (by omega), nI_pos (by omega), by omega, h2, fun i hi => by rw [Nat.zero_add]; exact hf i hi⟩ x
set_option maxRecDepth 100000 in
set_option maxHeartbeats 4000000 in
theorem q_pinW {p : Nat} (hp : p < 2) {m : sM} (hB : ∀ k, k < 64 → m.1 115 k = 0 ∨ m.1 115 k = 1) :
    (s_ix (nI p) 2 fun j4 => s_md (s_up m 117 j4 (vp_nar .boolean 1)) fun m5 => s_ix 0 3 fun j6 => s_ix (1 + nI p) 3 fun j7 => s_md (s_up m5 112 j7 (m5.1 112 j6)) fun m8 => s_ix 0 3 fun j9 => s_ix (1 + nI p) 3 fun j10 => s_md (s_up m8 113 j10 (m8.1 113 j9)) fun m11 => s_gd (¬ (0 : Int32) < 0 ∧ ¬ (8 * (1 + nI p)) < 0 ∧ ¬ (8 : Int32) < 0 ∧ (0 : Int32).toNatClampNeg + (8 : Int32).toNatClampNeg ≤ 24 ∧ (8 * (1 + nI p)).toNatClampNeg + (8 : Int32).toNatClampNeg ≤ 24 ∧ ∀ i, i < (8 : Int32).toNatClampNeg → fits .int (.int (m11.1 114 ((0 : Int32).toNatClampNeg + i))) = true) (s_md (s_cp m11 114 114 (0 : Int32).toNatClampNeg (8 * (1 + nI p)).toNatClampNeg (8 : Int32).toNatClampNeg) fun m12 => s_gd (¬ (0 : Int32) < 0 ∧ ¬ (64 * (1 + nI p)) < 0 ∧ ¬ (64 : Int32) < 0 ∧ (0 : Int32).toNatClampNeg + (64 : Int32).toNatClampNeg ≤ 192 ∧ (64 * (1 + nI p)).toNatClampNeg + (64 : Int32).toNatClampNeg ≤ 192 ∧ ∀ i, i < (64 : Int32).toNatClampNeg → fits .boolean (.int (m12.1 115 ((0 : Int32).toNatClampNeg + i))) = true) (s_md (s_cp m12 115 115 (0 : Int32).toNatClampNeg (64 * (1 + nI p)).toNatClampNeg (64 : Int32).toNatClampNeg) fun m13 => s_gd (¬ (0 : Int32) < 0 ∧ ¬ (64 * (1 + nI p)) < 0 ∧ ¬ (64 : Int32) < 0 ∧ (0 : Int32).toNatClampNeg + (64 : Int32).toNatClampNeg ≤ 192 ∧ (64 * (1 + nI p)).toNatClampNeg + (64 : Int32).toNatClampNeg ≤ 192 ∧ ∀ i, i < (64 : Int32).toNatClampNeg → fits .int (.int (m13.1 116 ((0 : Int32).toNatClampNeg + i))) = true) (s_md (s_cp m13 116 116 (0 : Int32).toNatClampNeg (64 * (1 + nI p)).toNatClampNeg (64 : Int32).toNatClampNeg) fun m14 => (some (.inl (nI p), m14) : Option (sR Int32)))))) = some (.inl (nI p), y_pin p m) := by
  have e1 : (1 : Int32) + nI p = nI (1 + p) := nI_add 1 p
  have e8 : (8 : Int32) * nI (1 + p) = nI (8 * (1 + p)) := pk_mul 8 (1 + p)
  have e64 : (64 : Int32) * nI (1 + p) = nI (64 * (1 + p)) := pk_mul 64 (1 + p)
  rw [e1, e8, e64, ix_ _ hp (by decide), md_, ixl _ (by decide) (by decide), ix_ _ (by omega) (by decide), md_, ixl _ (by decide) (by decide), ix_ _ (by omega) (by decide), md_]
  have g1 := fun f x => @gcI3 (sR Int32) (8 * (1 + p)) 8 24 24 f x (by decide) (by omega) (by decide) (by decide)
  have g2 := fun f x hf => @gcB3 (sR Int32) (64 * (1 + p)) 64 192 192 f x (by decide) (by omega) (by decide) (by decide) hf
  have g3 := fun f x => @gcI3 (sR Int32) (64 * (1 + p)) 64 192 192 f x (by decide) (by omega) (by decide) (by decide)
  refine (g1 _ _).trans ?_
  rw [md_]
  refine (g2 _ _ fun i hi => ?_).trans ?_
  · apply fitsB
    have ee : ∀ (z : sM), (s_cp z 114 114 (0 : Int32).toNatClampNeg (nI (8 * (1 + p))).toNatClampNeg (8 : Int32).toNatClampNeg).1 115 i = z.1 115 i := fun z => by rw [cp1, if_neg (by omega)]
    rw [ee, up1, if_neg (by omega), up1, if_neg (by omega), up1, if_neg (by omega)]
    exact hB i hi
  rw [md_]
  refine (g3 _ _).trans ?_
  rw [md_]
  have n0 : (0 : Int32).toNatClampNeg = 0 := by decide
  have n8 : (8 : Int32).toNatClampNeg = 8 := by decide
  have n64 : (64 : Int32).toNatClampNeg = 64 := by decide
  rw [n0, n8, n64, nI_clamp (by omega), nI_clamp (by omega), nar1, up1 m 117 p 1 112 _, if_neg (by omega), up1 _ 112, if_neg (by omega), up1 m 117 p 1 113, if_neg (by omega)]
  rfl
set_option maxRecDepth 100000 in
set_option maxHeartbeats 4000000 in
theorem q_pinL {m : sM} {p : Nat} (hp : p < 2) (o3 : m.1 110 2 = 1) (hl : ∀ i, i < p → m.1 117 i = 1) (e2 : m.1 117 p = 0) (e : Option (sR Int32)) (r : Int32 → Option (sR Int32)) : f_X10_pin_L7 m e r 5000 0 = r (nI p) := by
  refine lpE (fun g i (_ : Unit) => f_X10_pin_L7 m e r g (nI i)) (fun _ _ => True) _ p ?_ ?_ p 0 () 5000 (by omega) (by omega) trivial
  · intro i _ g hi _ ih
    have := ih () trivial
    have hne := hl i hi
    simp (disch := omega) only [md_, jn_, bd_, bdE_, ixl, ix_, llN, lNl, tlN, tNl, eNl, lNN, tNN, eNN, aNl, alN, mlN, nI_add, pk_mul, neg_lt0, if_true, if_false, if_pos, if_neg, up2, uL1, cp2, gdT, gdb_, or_true, true_or, false_or, or_false, and_true, true_and, and_false, false_and, ifb0, ifb1, eq_self, t0, t1, t2, t3, t4, o10, o01, z139a, f_X10_pin_L7, hne, o3]
    exact this
  · intro _ g _
    simp (disch := omega) only [md_, jn_, bd_, bdE_, ixl, ix_, llN, lNl, tlN, tNl, eNl, lNN, tNN, eNN, aNl, alN, mlN, nI_add, pk_mul, neg_lt0, if_true, if_false, if_pos, if_neg, up2, uL1, cp2, gdT, gdb_, or_true, true_or, false_or, or_false, and_true, true_and, and_false, false_and, ifb0, ifb1, eq_self, t0, t1, t2, t3, t4, o10, o01, z139a, f_X10_pin_L7, o3, e2]
set_option maxRecDepth 100000 in
set_option maxHeartbeats 4000000 in
theorem q_pinLN {m : sM} (o3 : m.1 110 2 = 1) (hl : ∀ i, i < 2 → m.1 117 i = 1) (e : Option (sR Int32)) (r : Int32 → Option (sR Int32)) : f_X10_pin_L7 m e r 5000 0 = e := by
  refine lpE (fun g i (_ : Unit) => f_X10_pin_L7 m e r g (nI i)) (fun _ _ => True) _ 2 ?_ ?_ 2 0 () 5000 (by omega) (by omega) trivial
  · intro i _ g hi _ ih
    have := ih () trivial
    have hne := hl i hi
    simp (disch := omega) only [md_, jn_, bd_, bdE_, ixl, ix_, llN, lNl, tlN, tNl, eNl, lNN, tNN, eNN, aNl, alN, mlN, nI_add, pk_mul, neg_lt0, if_true, if_false, if_pos, if_neg, up2, uL1, cp2, gdT, gdb_, or_true, true_or, false_or, or_false, and_true, true_and, and_false, false_and, ifb0, ifb1, eq_self, t0, t1, t2, t3, t4, o10, o01, z139a, f_X10_pin_L7, hne, o3]
    exact this
  · intro _ g _
    simp (disch := omega) only [md_, jn_, bd_, bdE_, ixl, ix_, llN, lNl, tlN, tNl, eNl, lNN, tNN, eNN, aNl, alN, mlN, nI_add, pk_mul, neg_lt0, if_true, if_false, if_pos, if_neg, up2, uL1, cp2, gdT, gdb_, or_true, true_or, false_or, or_false, and_true, true_and, and_false, false_and, ifb0, ifb1, eq_self, t0, t1, t2, t3, t4, o10, o01, z139a, f_X10_pin_L7, o3]
set_option maxRecDepth 100000 in
set_option maxHeartbeats 4000000 in
theorem k_pin {mc mm : sM} (h : R mc mm) : Agr [eIS] (f_X9_pin mc) (f_X10_pin mm) := by
  have hm := R_thr (t := 0) h
  rcases R_open h with ⟨o1, o2⟩ | ⟨o1, o2⟩
  · have o3 : (s_up mm 110 0 0).1 110 2 = 0 := by rw [up1, if_neg (by omega)]; exact o2
    refine Agr_ex (v := 0) 0 (mc' := mc) (mm' := s_up (s_up mm 110 0 0) 110 0 1) ?_ ?_ (R_thr hm) rfl (upS _ _ _ _)
    · unfold f_X9_pin; rw [p_openE o1, bdE_]
    · unfold f_X10_pin
      rw [md_, jn_, jn_]
      refine lpE (fun g i (_ : Unit) => f_X10_pin_L7 (s_up mm 110 0 0) _ _ g (nI i)) (fun _ _ => True) _ 0 (fun i _ g hi => absurd hi (Nat.not_lt_zero i)) ?_ 0 0 () 5000 (by omega) (by omega) trivial
      intro _ g _
      simp (disch := omega) only [md_, jn_, bd_, bdE_, ixl, ix_, llN, lNl, tlN, tNl, eNl, lNN, tNN, eNN, aNl, alN, mlN, nI_add, pk_mul, neg_lt0, if_true, if_false, if_pos, if_neg, up2, uL1, cp2, gdT, gdb_, or_true, true_or, false_or, or_false, and_true, true_and, and_false, false_and, ifb0, ifb1, eq_self, t0, t1, t2, t3, t4, o10, o01, z139a, f_X10_pin_L7, o3, f_X10_fails]
  have o3 : (s_up mm 110 0 0).1 110 2 = 1 := by rw [up1, if_neg (by omega)]; exact o2
  rcases first3 (fun p => mc.1 49 p = 0) 2 with ⟨p, hp, e0, hl⟩ | hn
  · have e2 : (s_up mm 110 0 0).1 117 p = 0 := by
      rcases R_pin hm hp with ⟨q, q2⟩ | ⟨q, -⟩
      · exact q2
      · rw [e0] at q; exact absurd q (by decide)
    have hB : ∀ k, k < 64 → (s_up mm 110 0 0).1 115 k = 0 ∨ (s_up mm 110 0 0).1 115 k = 1 := fun k hk => by rw [(R_has hm hk).1]; exact bi_01 _
    refine Agr_ok (v := nI p) (mc' := s_up (x_cpV (42 + 3 * p) 36 mc) 49 p 1) (mm' := y_pin p (s_up mm 110 0 0)) ?_ ?_ ?_ ?_
    · unfold f_X9_pin
      rw [p_open o1, bd_, jn_, jn_]
      refine lpE (fun g i (_ : Unit) => f_X9_pin_L6 mc _ _ g (nI i)) (fun _ _ => True) _ p ?_ ?_ p 0 () 5000 (by omega) (by omega) trivial
      · intro i _ g hi _ ih
        have := ih () trivial
        have hne := hl i hi
        simp (disch := omega) only [md_, jn_, bd_, bdE_, ixl, ix_, llN, lNl, tlN, tNl, eNl, lNN, tNN, eNN, aNl, alN, mlN, nI_add, pk_mul, neg_lt0, if_true, if_false, if_pos, if_neg, up2, uL1, cp2, gdT, gdb_, or_true, true_or, false_or, or_false, and_true, true_and, and_false, false_and, ifb0, ifb1, eq_self, t0, t1, t2, t3, t4, o10, o01, z139a, f_X9_pin_L6, hne]
        exact this
      · intro _ g _
        simp (disch := omega) only [md_, jn_, bd_, bdE_, ixl, ix_, llN, lNl, tlN, tNl, eNl, lNN, tNN, eNN, aNl, alN, mlN, nI_add, pk_mul, neg_lt0, if_true, if_false, if_pos, if_neg, up2, uL1, cp2, gdT, gdb_, or_true, true_or, false_or, or_false, and_true, true_and, and_false, false_and, ifb0, ifb1, eq_self, t0, t1, t2, t3, t4, o10, o01, z139a, f_X9_pin_L6, e0, p_cpV, nar1]
    · unfold f_X10_pin
      rw [md_, jn_, jn_]
      rw [q_pinL hp o3 (fun i hi => by
        rcases R_pin hm (show i < 2 by omega) with ⟨q, q2⟩ | ⟨q, q2, -⟩
        · exact absurd q (hl i hi)
        · exact q2) e2]
      exact q_pinW hp hB
    · refine R_pins hm (ag_up (cpV_ag (ag_rf _) (by intro b j h1 h2; omega)) (by omega)) (ypin_ag (ag_rf _) (by intro b j q; omega)) fun t ht => ?_
      have c1 : ∀ b j, (s_up (x_cpV (42 + 3 * p) 36 mc) 49 p 1).1 b j = if b = 49 ∧ j = p then 1 else (x_cpV (42 + 3 * p) 36 mc).1 b j := fun b j => up1 _ _ _ _ _ _
      by_cases q : t = p
      · subst q
        refine ⟨true, ?_, ?_, fun _ => ?_⟩
        · rw [c1, if_pos ⟨rfl, rfl⟩]; rfl
        · rw [ypin1 hp, if_neg (by omega), if_neg (by omega), if_neg (by omega), if_neg (by omega), if_neg (by omega), if_pos ⟨rfl, rfl⟩]; rfl
        · obtain ⟨v1, v2, ⟨z, z1, z2, z3⟩, v4, v5⟩ := hm.2.2.1.1
          refine ⟨?_, ?_, ⟨z, z1, z2, ?_⟩, fun i hi => ?_, fun k hk => ?_⟩
          · rw [c1, if_neg (by omega), cpV1 (by omega), if_pos (by omega), ypin1 hp, if_neg (by omega), if_neg (by omega), if_neg (by omega), if_neg (by omega), if_pos (by omega)]; exact v1
          · rw [c1, if_neg (by omega), cpV1 (by omega), if_pos (by omega), ypin1 hp, if_neg (by omega), if_neg (by omega), if_neg (by omega), if_pos (by omega)]; exact v2
          · rw [ypin1 hp, if_neg (by omega), if_neg (by omega), if_neg (by omega), if_pos (by omega)]; exact z3
          · have := v4 i hi
            rw [Nat.mul_zero, Nat.zero_add] at this
            rw [c1, if_neg (by omega), cpV1 (by omega), if_neg (by omega), if_neg (by omega), if_pos (by omega), ypin1 hp, if_neg (by omega), if_neg (by omega), if_pos (by omega), Nat.add_sub_cancel_left]
            exact this
          · have := v5 k hk
            rw [Nat.mul_zero, Nat.zero_add] at this
            rw [c1, if_neg (by omega), cpV1 (by omega), if_neg (by omega), if_pos (by omega), ypin1 hp, if_neg (by omega), if_pos (by omega), ypin1 hp, if_pos (by omega), Nat.add_sub_cancel_left, up2, cpV2]
            exact this
      · obtain ⟨b, b1, b2, b3⟩ := hm.2.2.2.1 t ht
        refine ⟨b, ?_, ?_, fun e => rVer_ag (ag_up (cpV_ag (ag_rf _) (by intro b j h1 h2; omega)) (by omega)) (ypin_ag (ag_rf _) (by intro b j q; omega)) (b3 e)⟩
        · rw [c1, if_neg (by omega), cpV1 (by omega), if_neg (by omega), if_neg (by omega), if_neg (by omega)]; exact b1
        · rw [ypin1 hp, if_neg (by omega), if_neg (by omega), if_neg (by omega), if_neg (by omega), if_neg (by omega), if_neg (by omega)]; exact b2
    · rw [ypin1 hp, if_neg (by omega), if_neg (by omega), if_neg (by omega), if_neg (by omega), if_neg (by omega), if_neg (by omega)]; exact upS _ _ _ _
  · refine Agr_ex (v := 0) 0 (mc' := mc) (mm' := s_up (s_up mm 110 0 0) 110 0 1) ?_ ?_ (R_thr hm) rfl (upS _ _ _ _)
    · unfold f_X9_pin
      rw [p_open o1, bd_, jn_, jn_]
      refine lpE (fun g i (_ : Unit) => f_X9_pin_L6 mc _ _ g (nI i)) (fun _ _ => True) _ 2 ?_ ?_ 2 0 () 5000 (by omega) (by omega) trivial
      · intro i _ g hi _ ih
        have := ih () trivial
        have hne := hn i hi
        simp (disch := omega) only [md_, jn_, bd_, bdE_, ixl, ix_, llN, lNl, tlN, tNl, eNl, lNN, tNN, eNN, aNl, alN, mlN, nI_add, pk_mul, neg_lt0, if_true, if_false, if_pos, if_neg, up2, uL1, cp2, gdT, gdb_, or_true, true_or, false_or, or_false, and_true, true_and, and_false, false_and, ifb0, ifb1, eq_self, t0, t1, t2, t3, t4, o10, o01, z139a, f_X9_pin_L6, hne]
        exact this
      · intro _ g _
        simp (disch := omega) only [md_, jn_, bd_, bdE_, ixl, ix_, llN, lNl, tlN, tNl, eNl, lNN, tNN, eNN, aNl, alN, mlN, nI_add, pk_mul, neg_lt0, if_true, if_false, if_pos, if_neg, up2, uL1, cp2, gdT, gdb_, or_true, true_or, false_or, or_false, and_true, true_and, and_false, false_and, ifb0, ifb1, eq_self, t0, t1, t2, t3, t4, o10, o01, z139a, f_X9_pin_L6]
    · unfold f_X10_pin
      rw [md_, jn_, jn_]
      rw [q_pinLN o3 (fun i hi => by
        rcases R_pin hm hi with ⟨q, q2⟩ | ⟨q, q2, -⟩
        · exact absurd q (hn i hi)
        · exact q2)]
      simp (disch := omega) only [md_, jn_, bd_, bdE_, ixl, ix_, llN, lNl, tlN, tNl, eNl, lNN, tNN, eNN, aNl, alN, mlN, nI_add, pk_mul, neg_lt0, if_true, if_false, if_pos, if_neg, up2, uL1, cp2, gdT, gdb_, or_true, true_or, false_or, or_false, and_true, true_and, and_false, false_and, ifb0, ifb1, eq_self, t0, t1, t2, t3, t4, o10, o01, z139a, f_X10_fails]
