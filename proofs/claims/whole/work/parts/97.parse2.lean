/-! PURE: the text that is read; the class's automaton. -/
set_option maxRecDepth 100000 in
set_option maxHeartbeats 1000000 in
theorem p_isDig (ch : Int32) (m : sM) : f_X2_isDigit ch m = some (.inl (bi (dgc ch)), m) := by
  unfold f_X2_isDigit dgc
  rw [jn_, jn_]
  by_cases q1 : ch < 48
  · rw [if_pos q1, decide_eq_true q1]; exact gd0 _
  · rw [if_neg q1, decide_eq_false q1]
    by_cases q2 : 57 < ch
    · rw [if_pos q2, decide_eq_true q2]; exact gd0 _
    · rw [if_neg q2, decide_eq_false q2]; exact gd1 _
def flw (st : Nat) (ch : Int32) : Int32 := if dgc ch = true then (if st = 0 then 1 else if st = 2 ∨ st = 8 ∨ st = 11 then -1 else if st = 3 ∨ st = 4 then 5 else nI (st + 1)) else if ch = 44 ∧ ((5 ≤ st ∧ st ≤ 8) ∨ st = 10 ∨ st = 11) then 0 else if ch = 61 ∧ (st = 1 ∨ st = 2) then 3 else if ch = 45 ∧ st = 0 then 9 else if ch = 45 ∧ st = 3 then 4 else -1
set_option maxRecDepth 100000 in
set_option maxHeartbeats 1000000 in
theorem p_flw {st : Nat} (hst : st < 12) (ch : Int32) (m : sM) : f_X2_follow (nI st) ch m = some (.inl (flw st ch), m) := by
  have n1 : ((44 : Int32) = 61) = False := eq_false (by decide)
  have n2 : ((44 : Int32) = 45) = False := eq_false (by decide)
  have n3 : ((61 : Int32) = 45) = False := eq_false (by decide)
  cases hd : dgc ch
  · have key : ∀ (Q44 Q61 Q45 : Prop) (_ : (ch = 44) = Q44) (_ : (ch = 61) = Q61) (_ : (ch = 45) = Q45), True := fun _ _ _ _ _ _ => trivial
    by_cases q44 : ch = 44
    · have Q44 := eq_true q44
      have Q61 : (ch = 61) = False := by rw [q44]; exact n1
      have Q45 : (ch = 45) = False := by rw [q44]; exact n2
      obtain rfl | rfl | rfl | rfl | rfl | rfl | rfl | rfl | rfl | rfl | rfl | rfl : st = 0 ∨ st = 1 ∨ st = 2 ∨ st = 3 ∨ st = 4 ∨ st = 5 ∨ st = 6 ∨ st = 7 ∨ st = 8 ∨ st = 9 ∨ st = 10 ∨ st = 11 := by omega
      all_goals
        simp (disch := omega) only [md_, jn_, bd_, bdE_, ixl, ix_, llN, lNl, tlN, tNl, eNl, lNN, tNN, eNN, aNl, alN, mlN, nI_add, pk_mul, neg_lt0, if_true, if_false, if_pos, if_neg, up2, uL1, cp2, gdT, gdb_, or_true, true_or, false_or, or_false, and_true, true_and, and_false, false_and, ifb0, ifb1, eq_self, t0, t1, t2, t3, t4, o10, o01, z139a, Bool.false_eq_true, f_X2_follow, f_X2_mayEnd, flw, p_isDig, hd, bi_f, Q44, Q61, Q45, Bool.false_eq_true, gd1, gd0]
    by_cases q61 : ch = 61
    · have Q44 := eq_false q44
      have Q61 := eq_true q61
      have Q45 : (ch = 45) = False := by rw [q61]; exact n3
      obtain rfl | rfl | rfl | rfl | rfl | rfl | rfl | rfl | rfl | rfl | rfl | rfl : st = 0 ∨ st = 1 ∨ st = 2 ∨ st = 3 ∨ st = 4 ∨ st = 5 ∨ st = 6 ∨ st = 7 ∨ st = 8 ∨ st = 9 ∨ st = 10 ∨ st = 11 := by omega
      all_goals
        simp (disch := omega) only [md_, jn_, bd_, bdE_, ixl, ix_, llN, lNl, tlN, tNl, eNl, lNN, tNN, eNN, aNl, alN, mlN, nI_add, pk_mul, neg_lt0, if_true, if_false, if_pos, if_neg, up2, uL1, cp2, gdT, gdb_, or_true, true_or, false_or, or_false, and_true, true_and, and_false, false_and, ifb0, ifb1, eq_self, t0, t1, t2, t3, t4, o10, o01, z139a, Bool.false_eq_true, f_X2_follow, f_X2_mayEnd, flw, p_isDig, hd, bi_f, Q44, Q61, Q45, Bool.false_eq_true, gd1, gd0]
    · have Q44 := eq_false q44
      have Q61 := eq_false q61
      by_cases q45 : ch = 45
      · have Q45 := eq_true q45
        obtain rfl | rfl | rfl | rfl | rfl | rfl | rfl | rfl | rfl | rfl | rfl | rfl : st = 0 ∨ st = 1 ∨ st = 2 ∨ st = 3 ∨ st = 4 ∨ st = 5 ∨ st = 6 ∨ st = 7 ∨ st = 8 ∨ st = 9 ∨ st = 10 ∨ st = 11 := by omega
        all_goals
          simp (disch := omega) only [md_, jn_, bd_, bdE_, ixl, ix_, llN, lNl, tlN, tNl, eNl, lNN, tNN, eNN, aNl, alN, mlN, nI_add, pk_mul, neg_lt0, if_true, if_false, if_pos, if_neg, up2, uL1, cp2, gdT, gdb_, or_true, true_or, false_or, or_false, and_true, true_and, and_false, false_and, ifb0, ifb1, eq_self, t0, t1, t2, t3, t4, o10, o01, z139a, Bool.false_eq_true, f_X2_follow, f_X2_mayEnd, flw, p_isDig, hd, bi_f, Q44, Q61, Q45, Bool.false_eq_true, gd1, gd0]
      · have Q45 := eq_false q45
        obtain rfl | rfl | rfl | rfl | rfl | rfl | rfl | rfl | rfl | rfl | rfl | rfl : st = 0 ∨ st = 1 ∨ st = 2 ∨ st = 3 ∨ st = 4 ∨ st = 5 ∨ st = 6 ∨ st = 7 ∨ st = 8 ∨ st = 9 ∨ st = 10 ∨ st = 11 := by omega
        all_goals
          simp (disch := omega) only [md_, jn_, bd_, bdE_, ixl, ix_, llN, lNl, tlN, tNl, eNl, lNN, tNN, eNN, aNl, alN, mlN, nI_add, pk_mul, neg_lt0, if_true, if_false, if_pos, if_neg, up2, uL1, cp2, gdT, gdb_, or_true, true_or, false_or, or_false, and_true, true_and, and_false, false_and, ifb0, ifb1, eq_self, t0, t1, t2, t3, t4, o10, o01, z139a, Bool.false_eq_true, f_X2_follow, f_X2_mayEnd, flw, p_isDig, hd, bi_f, Q44, Q61, Q45, Bool.false_eq_true, gd1, gd0]
  · obtain rfl | rfl | rfl | rfl | rfl | rfl | rfl | rfl | rfl | rfl | rfl | rfl : st = 0 ∨ st = 1 ∨ st = 2 ∨ st = 3 ∨ st = 4 ∨ st = 5 ∨ st = 6 ∨ st = 7 ∨ st = 8 ∨ st = 9 ∨ st = 10 ∨ st = 11 := by omega
    all_goals
      simp (disch := omega) only [md_, jn_, bd_, bdE_, ixl, ix_, llN, lNl, tlN, tNl, eNl, lNN, tNN, eNN, aNl, alN, mlN, nI_add, pk_mul, neg_lt0, if_true, if_false, if_pos, if_neg, up2, uL1, cp2, gdT, gdb_, or_true, true_or, false_or, or_false, and_true, true_and, and_false, false_and, ifb0, ifb1, eq_self, t0, t1, t2, t3, t4, o10, o01, z139a, Bool.false_eq_true, f_X2_follow, f_X2_followDigit, flw, p_isDig, hd, bi_t]
-- remark: the class's input, and its entries so far
def PG (s : Nat → Int32) (n c : Nat) (m : sM) : Prop := m.1 85 1 = nI n ∧ (∀ i, i < n → m.1 86 i = s i) ∧ m.1 85 6 = nI c
def mEnd (st : Nat) : Bool := decide (5 ≤ st ∧ st ≤ 8) || (decide (st = 10) || decide (st = 11))
set_option maxRecDepth 100000 in
set_option maxHeartbeats 1000000 in
theorem p_mEnd {st : Nat} (hst : st < 12) (m : sM) : f_X2_mayEnd (nI st) m = some (.inl (bi (mEnd st)), m) := by
  obtain rfl | rfl | rfl | rfl | rfl | rfl | rfl | rfl | rfl | rfl | rfl | rfl : st = 0 ∨ st = 1 ∨ st = 2 ∨ st = 3 ∨ st = 4 ∨ st = 5 ∨ st = 6 ∨ st = 7 ∨ st = 8 ∨ st = 9 ∨ st = 10 ∨ st = 11 := by omega
  all_goals
    simp (disch := omega) only [md_, jn_, bd_, bdE_, ixl, ix_, llN, lNl, tlN, tNl, eNl, lNN, tNN, eNN, aNl, alN, mlN, nI_add, pk_mul, neg_lt0, if_true, if_false, if_pos, if_neg, up2, uL1, cp2, gdT, gdb_, or_true, true_or, false_or, or_false, and_true, true_and, and_false, false_and, ifb0, ifb1, eq_self, t0, t1, t2, t3, t4, o10, o01, z139a, Bool.false_eq_true, f_X2_mayEnd, gd1, gd0]
    rfl
noncomputable abbrev E70 : Int32 → sM → Option (sR Int32) := fun (x1_70 : Int32) (m70_ : sM) => s_bd (f_X2_mayEnd x1_70 m70_) fun r2 m3 => s_jn (fun (s0_88 : Int32) (m88_ : sM) => some (.inl s0_88, m88_)) fun k88 => if r2 = 0 then (k88 (m3.1 85 1) m3) else (s_bd (f_X2_placeOfGreatKey m3) fun r4 m5 => k88 r4 m5)
abbrev E35 : Int32 → sM → Option (sR Int32) := fun (x3_35 : Int32) (m35_ : sM) => some (.inl x3_35, m35_)
set_option maxRecDepth 100000 in
set_option maxHeartbeats 1000000 in
theorem p_stop {s : Nat → Int32} {n c st : Nat} {m : sM} (h : PG s n c m) (hn : n ≤ 60) (hst : st < 12) (hm : mEnd st = false) (fac : Int32) (g : Nat) : f_X2_parse_L11 E70 E35 (g + 1) (nI st) fac (nI n) m = some (.inl (nI n), m) := by
  rw [f_X2_parse_L11, h.1, if_pos (nI_le (Nat.le_refl _) (by omega))]
  show s_bd (f_X2_mayEnd (nI st) m) _ = _
  rw [p_mEnd hst, bd_, hm, jn_, if_pos bi_f, h.1]
set_option maxRecDepth 100000 in
set_option maxHeartbeats 1000000 in
theorem p_good {s : Nat → Int32} {n c st : Nat} {m : sM} (h : PG s n c m) (hn : n ≤ 60) (hst : st < 12) (hm : mEnd st = true) (fac : Int32) (g : Nat) : f_X2_parse_L11 E70 E35 (g + 1) (nI st) fac (nI n) m = f_X2_placeOfGreatKey m := by
  rw [f_X2_parse_L11, h.1, if_pos (nI_le (Nat.le_refl _) (by omega))]
  show s_bd (f_X2_mayEnd (nI st) m) _ = _
  rw [p_mEnd hst, bd_, hm, jn_, if_neg (by decide)]
  cases f_X2_placeOfGreatKey m with
  | none => rfl
  | some r =>
    obtain ⟨r, m2⟩ := r
    cases r <;> rfl
set_option maxRecDepth 100000 in
set_option maxHeartbeats 1000000 in
theorem p_step {s : Nat → Int32} {n c st i : Nat} {m : sM} (h : PG s n c m) (hn : n ≤ 60) (hi : i < n) (hst : st < 12) (fac : Int32) (g : Nat) : f_X2_parse_L11 E70 E35 (g + 1) (nI st) fac (nI i) m = if flw st (s i) = -1 then some (.inl (nI i), m) else if flw st (s i) = 3 then f_X2_parse_L11 E70 E35 g (flw st (s i)) 1 (nI (i + 1)) m else if flw st (s i) = 4 then f_X2_parse_L11 E70 E35 g (flw st (s i)) (-1) (nI (i + 1)) m else s_bd (f_X2_takeDigit (flw st (s i)) (nI i) fac m) fun _ m10 => f_X2_parse_L11 E70 E35 g (flw st (s i)) fac (nI (i + 1)) m10 := by
  have i1 : nI i + 1 = nI (i + 1) := nI_add i 1
  rw [f_X2_parse_L11, h.1, if_neg (nI_ge hi (by omega)), ix_ _ (by omega) (by decide), h.2.1 i hi, p_flw hst, bd_]
  by_cases q1 : flw st (s i) = -1
  · rw [if_pos q1, if_pos q1]
  · rw [if_neg q1, if_neg q1, jn_]
    by_cases q3 : flw st (s i) = 3
    · rw [if_pos q3, if_pos q3, i1]
    · rw [if_neg q3, if_neg q3]
      by_cases q4 : flw st (s i) = 4
      · rw [if_pos q4, if_pos q4, i1]
      · rw [if_neg q4, if_neg q4, i1]
set_option maxRecDepth 100000 in
set_option maxHeartbeats 1000000 in
theorem td0 {i : Nat} (hi : i < 60) (fac : Int32) (m : sM) : f_X2_takeDigit 0 (nI i) fac m = some (.inl (), m) ∧ f_X2_takeDigit 9 (nI i) fac m = some (.inl (), m) := by
  have a1 : ((0 : Int32) = 10) = False := eq_false (by decide)
  have a2 : ((0 : Int32) = 2) = False := eq_false (by decide)
  have a3 : ((0 : Int32) = 11) = False := eq_false (by decide)
  have a4 : ((0 : Int32) < 5) = True := eq_true (by decide)
  have b0 : ((9 : Int32) = 1) = False := eq_false (by decide)
  have b1 : ((9 : Int32) = 10) = False := eq_false (by decide)
  have b2 : ((9 : Int32) = 2) = False := eq_false (by decide)
  have b3 : ((9 : Int32) = 11) = False := eq_false (by decide)
  have b4 : ((9 : Int32) < 5) = False := eq_false (by decide)
  have b5 : ((8 : Int32) < 9) = True := eq_true (by decide)
  by_cases q : m.1 85 6 ≤ 0
  · refine ⟨?_, ?_⟩
    · simp (disch := omega) only [md_, jn_, bd_, bdE_, ixl, ix_, llN, lNl, tlN, tNl, eNl, lNN, tNN, eNN, aNl, alN, mlN, nI_add, pk_mul, neg_lt0, if_true, if_false, if_pos, if_neg, up2, uL1, cp2, gdT, gdb_, or_true, true_or, false_or, or_false, and_true, true_and, and_false, false_and, ifb0, ifb1, eq_self, t0, t1, t2, t3, t4, o10, o01, z139a, Bool.false_eq_true, f_X2_takeDigit, q, a1, ite_self]
    · simp (disch := omega) only [md_, jn_, bd_, bdE_, ixl, ix_, llN, lNl, tlN, tNl, eNl, lNN, tNN, eNN, aNl, alN, mlN, nI_add, pk_mul, neg_lt0, if_true, if_false, if_pos, if_neg, up2, uL1, cp2, gdT, gdb_, or_true, true_or, false_or, or_false, and_true, true_and, and_false, false_and, ifb0, ifb1, eq_self, t0, t1, t2, t3, t4, o10, o01, z139a, Bool.false_eq_true, f_X2_takeDigit, q, b0, b1, ite_self]
  · refine ⟨?_, ?_⟩
    · simp (disch := omega) only [md_, jn_, bd_, bdE_, ixl, ix_, llN, lNl, tlN, tNl, eNl, lNN, tNN, eNN, aNl, alN, mlN, nI_add, pk_mul, neg_lt0, if_true, if_false, if_pos, if_neg, up2, uL1, cp2, gdT, gdb_, or_true, true_or, false_or, or_false, and_true, true_and, and_false, false_and, ifb0, ifb1, eq_self, t0, t1, t2, t3, t4, o10, o01, z139a, Bool.false_eq_true, f_X2_takeDigit, q, a1, a2, a3, a4, ite_self]
    · simp (disch := omega) only [md_, jn_, bd_, bdE_, ixl, ix_, llN, lNl, tlN, tNl, eNl, lNN, tNN, eNN, aNl, alN, mlN, nI_add, pk_mul, neg_lt0, if_true, if_false, if_pos, if_neg, up2, uL1, cp2, gdT, gdb_, or_true, true_or, false_or, or_false, and_true, true_and, and_false, false_and, ifb0, ifb1, eq_self, t0, t1, t2, t3, t4, o10, o01, z139a, Bool.false_eq_true, f_X2_takeDigit, q, b0, b1, b2, b3, b4, b5, ite_self]
def x_td1 (s : Nat → Int32) (c i : Nat) (r : Bool) (m : sM) : sM := s_up (s_up (s_up (s_up (s_up m 87 c (s i - 48)) 88 c (nI i)) 89 c 0) 90 c (bi r)) 85 6 (nI (c + 1))
set_option maxRecDepth 100000 in
set_option maxHeartbeats 1000000 in
theorem td1 {s : Nat → Int32} {n c i : Nat} {m : sM} (h : PG s n c m) (hn : n ≤ 60) (hi : i < n) (hc : c < 60) (fac : Int32) : f_X2_takeDigit 1 (nI i) fac m = some (.inl (), x_td1 s c i false m) ∧ f_X2_takeDigit 10 (nI i) fac m = some (.inl (), x_td1 s c i true m) := by
  have a1 : ((1 : Int32) = 10) = False := eq_false (by decide)
  have b1 : ((10 : Int32) = 1) = False := eq_false (by decide)
  have hc1 : (60 ≤ c) = False := eq_false (by omega)
  have h6 : ∀ x, (s_up m 87 c x).1 85 6 = nI c := fun x => by rw [up1, if_neg (by omega)]; exact h.2.2
  have h7 : ∀ x y, (s_up (s_up m 87 c x) 88 c y).1 85 6 = nI c := fun x y => by rw [up1, if_neg (by omega)]; exact h6 x
  have h8 : ∀ x y z, (s_up (s_up (s_up m 87 c x) 88 c y) 89 c z).1 85 6 = nI c := fun x y z => by rw [up1, if_neg (by omega)]; exact h7 x y
  have h9 : ∀ x y z w, (s_up (s_up (s_up (s_up m 87 c x) 88 c y) 89 c z) 90 c w).1 85 6 = nI c := fun x y z w => by rw [up1, if_neg (by omega)]; exact h8 x y z
  have hs := h.2.1 i hi
  refine ⟨?_, ?_⟩
  · simp (disch := omega) only [md_, jn_, bd_, bdE_, ixl, ix_, llN, lNl, tlN, tNl, eNl, lNN, tNN, eNN, aNl, alN, mlN, nI_add, pk_mul, neg_lt0, if_true, if_false, if_pos, if_neg, up2, uL1, cp2, gdT, gdb_, or_true, true_or, false_or, or_false, and_true, true_and, and_false, false_and, ifb0, ifb1, eq_self, t0, t1, t2, t3, t4, o10, o01, z139a, Bool.false_eq_true, f_X2_takeDigit, h.2.2, hs, a1, hc1, h6, h7, h8, h9, nar0]
    rfl
  · simp (disch := omega) only [md_, jn_, bd_, bdE_, ixl, ix_, llN, lNl, tlN, tNl, eNl, lNN, tNN, eNN, aNl, alN, mlN, nI_add, pk_mul, neg_lt0, if_true, if_false, if_pos, if_neg, up2, uL1, cp2, gdT, gdb_, or_true, true_or, false_or, or_false, and_true, true_and, and_false, false_and, ifb0, ifb1, eq_self, t0, t1, t2, t3, t4, o10, o01, z139a, Bool.false_eq_true, f_X2_takeDigit, h.2.2, hs, b1, hc1, h6, h7, h8, h9, nar1]
    rfl
set_option maxRecDepth 100000 in
set_option maxHeartbeats 1000000 in
theorem td2 {s : Nat → Int32} {n c i : Nat} {m : sM} (h : PG s n (c + 1) m) (hn : n ≤ 60) (hi : i < n) (hc : c < 60) (fac : Int32) : f_X2_takeDigit 2 (nI i) fac m = some (.inl (), s_up m 87 c (10 * m.1 87 c + (s i - 48))) ∧ f_X2_takeDigit 11 (nI i) fac m = some (.inl (), s_up m 87 c (10 * m.1 87 c + (s i - 48))) := by
  have a0 : ((2 : Int32) = 1) = False := eq_false (by decide)
  have a1 : ((2 : Int32) = 10) = False := eq_false (by decide)
  have b0 : ((11 : Int32) = 1) = False := eq_false (by decide)
  have b1 : ((11 : Int32) = 10) = False := eq_false (by decide)
  have b2 : ((11 : Int32) = 2) = False := eq_false (by decide)
  have h6 : (nI (c + 1) ≤ 0) = False := eq_false (nI_ge (a := 0) (b := c + 1) (by omega) (by omega))
  have hp : nI (c + 1) - 1 = nI c := nI_pred c
  have hs := h.2.1 i hi
  refine ⟨?_, ?_⟩
  · simp (disch := omega) only [md_, jn_, bd_, bdE_, ixl, ix_, llN, lNl, tlN, tNl, eNl, lNN, tNN, eNN, aNl, alN, mlN, nI_add, pk_mul, neg_lt0, if_true, if_false, if_pos, if_neg, up2, uL1, cp2, gdT, gdb_, or_true, true_or, false_or, or_false, and_true, true_and, and_false, false_and, ifb0, ifb1, eq_self, t0, t1, t2, t3, t4, o10, o01, z139a, Bool.false_eq_true, f_X2_takeDigit, h.2.2, hs, a0, a1, h6, hp, ite_self]
  · simp (disch := omega) only [md_, jn_, bd_, bdE_, ixl, ix_, llN, lNl, tlN, tNl, eNl, lNN, tNN, eNN, aNl, alN, mlN, nI_add, pk_mul, neg_lt0, if_true, if_false, if_pos, if_neg, up2, uL1, cp2, gdT, gdb_, or_true, true_or, false_or, or_false, and_true, true_and, and_false, false_and, ifb0, ifb1, eq_self, t0, t1, t2, t3, t4, o10, o01, z139a, Bool.false_eq_true, f_X2_takeDigit, h.2.2, hs, b0, b1, b2, h6, hp, ite_self]
set_option maxRecDepth 100000 in
set_option maxHeartbeats 1000000 in
theorem tdv {s : Nat → Int32} {n c i st : Nat} {m : sM} (h : PG s n (c + 1) m) (hn : n ≤ 60) (hi : i < n) (hc : c < 60) (h5 : 5 ≤ st) (h8 : st ≤ 8) (fac : Int32) : f_X2_takeDigit (nI st) (nI i) fac m = some (.inl (), s_up m 89 c (10 * m.1 89 c + fac * (s i - 48))) := by
  have h6 : (nI (c + 1) ≤ 0) = False := eq_false (nI_ge (a := 0) (b := c + 1) (by omega) (by omega))
  have hp : nI (c + 1) - 1 = nI c := nI_pred c
  have hs := h.2.1 i hi
  have e1 : (st = 1) = False := eq_false (by omega)
  have e2 : (st = 10) = False := eq_false (by omega)
  have e3 : (st = 2) = False := eq_false (by omega)
  have e4 : (st = 11) = False := eq_false (by omega)
  have e5 : (st < 5) = False := eq_false (by omega)
  have e6 : (8 < st) = False := eq_false (by omega)
  simp (disch := omega) only [md_, jn_, bd_, bdE_, ixl, ix_, llN, lNl, tlN, tNl, eNl, lNN, tNN, eNN, aNl, alN, mlN, nI_add, pk_mul, neg_lt0, if_true, if_false, if_pos, if_neg, up2, uL1, cp2, gdT, gdb_, or_true, true_or, false_or, or_false, and_true, true_and, and_false, false_and, ifb0, ifb1, eq_self, t0, t1, t2, t3, t4, o10, o01, z139a, Bool.false_eq_true, f_X2_takeDigit, h.2.2, hs, e1, e2, e3, e4, e5, e6, h6, hp, ite_self]
set_option maxRecDepth 100000 in
set_option maxHeartbeats 1000000 in
theorem PG_ag {s : Nat → Int32} {n c : Nat} {m m' : sM} (h : PG s n c m) (ha : ag (fun a j => (a = 85 ∧ j = 1) ∨ a = 86) m m') (h6 : m'.1 85 6 = nI c) : PG s n c m' := ⟨((ha 85 1 (by omega)).1).trans h.1, fun i hi => ((ha 86 i (by omega)).1).trans (h.2.1 i hi), h6⟩
-- remark: an entry in the class's rows
def Sto (m : sM) (c : Nat) (x : Bool × Nat × Int32 × Int32) : Prop := m.1 87 c = x.2.2.1 ∧ m.1 88 c = nI x.2.1 ∧ m.1 89 c = x.2.2.2 ∧ m.1 90 c = bi x.1
abbrev agE (c : Nat) (a j : Nat) : Prop := ¬ (a = 85 ∧ j = 6) ∧ ¬ (87 ≤ a ∧ a ≤ 90 ∧ j = c)
set_option maxRecDepth 100000 in
set_option maxHeartbeats 1000000 in
theorem num_s (s : Nat → Int32) (a k : Nat) : num s a (k + 1) = 10 * num s a k + (s (a + k) - 48) := by
  rw [num, Int32.sub_eq_add_neg, Int32.sub_eq_add_neg, Int32.add_assoc]
set_option maxRecDepth 100000 in
set_option maxHeartbeats 1000000 in
theorem num_1 (s : Nat → Int32) (a : Nat) : num s a 1 = s a - 48 := by
  rw [num_s, num, Nat.add_zero, Int32.mul_zero, Int32.zero_add]
set_option maxRecDepth 100000 in
set_option maxHeartbeats 1000000 in
theorem dg_t {s : Nat → Int32} {n i : Nat} (h : dg s n i = true) : i < n ∧ dgc (s i) = true := by
  unfold dg at h
  rw [Bool.and_eq_true_iff] at h
  exact ⟨of_decide_eq_true h.1, h.2⟩
set_option maxRecDepth 100000 in
set_option maxHeartbeats 1000000 in
theorem dg_f {s : Nat → Int32} {n i : Nat} (h : dg s n i = false) (hi : i < n) : dgc (s i) = false := by
  unfold dg at h
  rw [decide_eq_true hi, Bool.true_and] at h
  exact h
-- remark: the key's digits
set_option maxRecDepth 100000 in
set_option maxHeartbeats 1000000 in
theorem p_key2 {s : Nat → Int32} {n c kp : Nat} {m : sM} (r : Bool) (h : PG s n c m) (hn : n ≤ 60) (hc : c < 60) (hd : dg s n kp = true) (fac : Int32) : ∃ m', PG s n (c + 1) m' ∧ ag (agE c) m m' ∧ Sto m' c (r, kp, num s kp (bd s n kp 2 - kp), 0) ∧ (bd s n kp 2 = kp + 1 ∨ bd s n kp 2 = kp + 2) ∧ (bd s n kp 2 = kp + 1 → dg s n (kp + 1) = false) ∧
    ∀ g, f_X2_parse_L11 E70 E35 (g + (bd s n kp 2 - kp)) (nI (if r then 9 else 0)) fac (nI kp) m = f_X2_parse_L11 E70 E35 g (nI ((if r then 9 else 0) + (bd s n kp 2 - kp))) fac (nI (bd s n kp 2)) m' := by
  obtain ⟨hkn, hkd⟩ := dg_t hd
  have t1 : ag (agE c) m (x_td1 s c kp r m) := ag_up (ag_up (ag_up (ag_up (ag_up (ag_rf m) (by omega)) (by omega)) (by omega)) (by omega)) (by omega)
  have g1 : PG s n (c + 1) (x_td1 s c kp r m) := ⟨((t1 85 1 (by omega)).1).trans h.1, fun i hi => ((t1 86 i (by omega)).1).trans (h.2.1 i hi), upS _ _ _ _⟩
  have s1 : Sto (x_td1 s c kp r m) c (r, kp, num s kp 1, 0) := by
    unfold Sto x_td1
    refine ⟨?_, ?_, ?_, ?_⟩
    · rw [up1, if_neg (by omega), up1, if_neg (by omega), up1, if_neg (by omega), up1, if_neg (by omega), up1, if_pos ⟨rfl, rfl⟩, num_1]
    · rw [up1, if_neg (by omega), up1, if_neg (by omega), up1, if_neg (by omega), up1, if_pos ⟨rfl, rfl⟩]
    · rw [up1, if_neg (by omega), up1, if_neg (by omega), up1, if_pos ⟨rfl, rfl⟩]
    · rw [up1, if_neg (by omega), up1, if_pos ⟨rfl, rfl⟩]
  have f1 : ∀ g, f_X2_parse_L11 E70 E35 (g + 1) (nI (if r then 9 else 0)) fac (nI kp) m = f_X2_parse_L11 E70 E35 g (nI ((if r then 9 else 0) + 1)) fac (nI (kp + 1)) (x_td1 s c kp r m) := fun g => by
    cases r
    · have e : flw 0 (s kp) = 1 := by unfold flw; rw [if_pos hkd]; rfl
      show f_X2_parse_L11 E70 E35 (g + 1) (nI 0) fac (nI kp) m = f_X2_parse_L11 E70 E35 g (nI 1) fac (nI (kp + 1)) _
      rw [p_step h hn hkn (by decide), e, if_neg (by decide), if_neg (by decide), if_neg (by decide), (td1 h hn hkn hc fac).1, bd_]
      rfl
    · have e : flw 9 (s kp) = 10 := by unfold flw; rw [if_pos hkd]; rfl
      show f_X2_parse_L11 E70 E35 (g + 1) (nI 9) fac (nI kp) m = f_X2_parse_L11 E70 E35 g (nI 10) fac (nI (kp + 1)) _
      rw [p_step h hn hkn (by decide), e, if_neg (by decide), if_neg (by decide), if_neg (by decide), (td1 h hn hkn hc fac).2, bd_]
      rfl
  have hb : bd s n kp 2 = if dg s n (kp + 1) then kp + 2 else kp + 1 := by
    rw [bd, if_pos hd, bd, bd]
  cases hd2 : dg s n (kp + 1)
  · rw [hd2, if_neg (by decide)] at hb
    rw [hb, show kp + 1 - kp = 1 by omega]
    exact ⟨_, g1, t1, s1, Or.inl rfl, fun _ => rfl, f1⟩
  · rw [hd2, if_pos rfl] at hb
    obtain ⟨hkn2, hkd2⟩ := dg_t hd2
    rw [hb, show kp + 2 - kp = 2 by omega]
    refine ⟨s_up (x_td1 s c kp r m) 87 c (10 * (x_td1 s c kp r m).1 87 c + (s (kp + 1) - 48)), ?_, ag_up t1 (by omega), ?_, Or.inr rfl, fun q => absurd q (by omega), fun g => ?_⟩
    · exact PG_ag g1 (ag_up (ag_rf _) (by omega)) (by rw [up1, if_neg (by omega)]; exact g1.2.2)
    · obtain ⟨w1, w2, w3, w4⟩ := s1
      refine ⟨?_, ?_, ?_, ?_⟩
      · rw [up1, if_pos ⟨rfl, rfl⟩, w1, num_s s kp 1]
      · rw [up1, if_neg (by omega)]; exact w2
      · rw [up1, if_neg (by omega)]; exact w3
      · rw [up1, if_neg (by omega)]; exact w4
    · rw [show g + 2 = (g + 1) + 1 by omega, f1]
      cases r
      · have e : flw 1 (s (kp + 1)) = 2 := by unfold flw; rw [if_pos hkd2]; rfl
        show f_X2_parse_L11 E70 E35 (g + 1) (nI 1) fac (nI (kp + 1)) _ = f_X2_parse_L11 E70 E35 g (nI 2) fac (nI (kp + 2)) _
        rw [p_step g1 hn hkn2 (by decide), e, if_neg (by decide), if_neg (by decide), if_neg (by decide), (td2 g1 hn hkn2 hc fac).1, bd_]
        rfl
      · have e : flw 10 (s (kp + 1)) = 11 := by unfold flw; rw [if_pos hkd2]; rfl
        show f_X2_parse_L11 E70 E35 (g + 1) (nI 10) fac (nI (kp + 1)) _ = f_X2_parse_L11 E70 E35 g (nI 11) fac (nI (kp + 2)) _
        rw [p_step g1 hn hkn2 (by decide), e, if_neg (by decide), if_neg (by decide), if_neg (by decide), (td2 g1 hn hkn2 hc fac).2, bd_]
        rfl
-- remark: more digits of the value
set_option maxRecDepth 100000 in
set_option maxHeartbeats 1000000 in
theorem p_val {s : Nat → Int32} {n c d0 : Nat} (hn : n ≤ 60) (hc : c < 60) (f : Int32) : ∀ k j i (m : sM), k + j = 4 → 1 ≤ j → i = d0 + j → PG s n (c + 1) m → m.1 89 c = f * num s d0 j →
    ∃ m', PG s n (c + 1) m' ∧ ag (fun a x => ¬ (a = 89 ∧ x = c)) m m' ∧ m'.1 89 c = f * num s d0 (bd s n i k - d0) ∧ (bd s n i k < d0 + 4 → dg s n (bd s n i k) = false) ∧ ∀ g, f_X2_parse_L11 E70 E35 (g + (bd s n i k - i)) (nI (4 + j)) f (nI i) m = f_X2_parse_L11 E70 E35 g (nI (4 + (bd s n i k - d0))) f (nI (bd s n i k)) m'
  | 0, j, i, m, hk, hj, hi, h, hv => by
    rw [bd]
    refine ⟨m, h, ag_rf m, ?_, fun q => absurd q (by omega), fun g => ?_⟩
    · rw [hv, show i - d0 = j by omega]
    · rw [show i - d0 = j by omega, Nat.sub_self, Nat.add_zero]
  | k + 1, j, i, m, hk, hj, hi, h, hv => by
    rw [bd]
    cases hd : dg s n i
    · simp only [Bool.false_eq_true, if_false]
      refine ⟨m, h, ag_rf m, ?_, fun _ => hd, fun g => ?_⟩
      · rw [hv, show i - d0 = j by omega]
      · rw [show i - d0 = j by omega, Nat.sub_self, Nat.add_zero]
    · simp only [if_true]
      obtain ⟨hin, hid⟩ := dg_t hd
      have hb := bd_ge s n k (i + 1)
      have e : flw (4 + j) (s i) = nI (4 + j + 1) := by
        unfold flw
        rw [if_pos hid, if_neg (by omega), if_neg (by omega), if_neg (by omega)]
      have hv2 : (s_up m 89 c (10 * m.1 89 c + f * (s i - 48))).1 89 c = f * num s d0 (j + 1) := by
        rw [upS, hv, num_s, hi, Int32.mul_add, ← Int32.mul_assoc, ← Int32.mul_assoc, Int32.mul_comm 10 f]
      obtain ⟨m', i1, i2, i3, i4, i5⟩ := p_val hn hc f k (j + 1) (i + 1) (s_up m 89 c (10 * m.1 89 c + f * (s i - 48))) (by omega) (by omega) (by omega) (PG_ag h (ag_up (ag_rf _) (by omega)) (by rw [up1, if_neg (by omega)]; exact h.2.2)) hv2
      refine ⟨m', i1, ag_tr (ag_up (ag_rf _) (by omega)) i2, i3, i4, fun g => ?_⟩
      have := i5 g
      rw [show g + (bd s n (i + 1) k - i) = (g + (bd s n (i + 1) k - (i + 1))) + 1 by omega]
      have n3 : ¬ nI (4 + j + 1) = 3 := fun w => by
        have := (nI_eq (a := 4 + j + 1) (b := 3) (by omega) (by omega)).mp w
        omega
      have n4 : ¬ nI (4 + j + 1) = 4 := fun w => by
        have := (nI_eq (a := 4 + j + 1) (b := 4) (by omega) (by omega)).mp w
        omega
      rw [p_step h hn hin (by omega), e, if_neg (nIm1 (by omega)), if_neg n3, if_neg n4, tdv h hn hin hc (by omega) (by omega), bd_]
      exact this
set_option maxRecDepth 100000 in
set_option maxHeartbeats 1000000 in
theorem p_val0 {s : Nat → Int32} {n c d0 st : Nat} {m : sM} (hn : n ≤ 60) (hc : c < 60) (f : Int32) (hst : st = 3 ∨ st = 4) (h : PG s n (c + 1) m) (hv : m.1 89 c = 0) (hd : dg s n d0 = true) :
    ∃ m', PG s n (c + 1) m' ∧ ag (fun a x => ¬ (a = 89 ∧ x = c)) m m' ∧ m'.1 89 c = f * num s d0 (bd s n d0 4 - d0) ∧ (bd s n d0 4 < d0 + 4 → dg s n (bd s n d0 4) = false) ∧ d0 < bd s n d0 4 ∧ ∀ g, f_X2_parse_L11 E70 E35 (g + (bd s n d0 4 - d0)) (nI st) f (nI d0) m = f_X2_parse_L11 E70 E35 g (nI (4 + (bd s n d0 4 - d0))) f (nI (bd s n d0 4)) m' := by
  obtain ⟨hin, hid⟩ := dg_t hd
  have hb := bd_ge s n 3 (d0 + 1)
  have e : flw st (s d0) = nI 5 := by
    unfold flw
    rw [if_pos hid, if_neg (by omega), if_neg (by omega), if_pos hst]
    rfl
  have hbd : bd s n d0 4 = bd s n (d0 + 1) 3 := by rw [bd, if_pos hd]
  rw [hbd]
  obtain ⟨m', i1, i2, i3, i4, i5⟩ := p_val (s := s) (d0 := d0) hn hc f 3 1 (d0 + 1) (s_up m 89 c (10 * m.1 89 c + f * (s d0 - 48))) (by omega) (by omega) rfl (PG_ag h (ag_up (ag_rf _) (by omega)) (by rw [up1, if_neg (by omega)]; exact h.2.2)) (by rw [upS, hv, num_1, Int32.mul_zero, Int32.zero_add])
  refine ⟨m', i1, ag_tr (ag_up (ag_rf _) (by omega)) i2, i3, i4, by omega, fun g => ?_⟩
  have := i5 g
  rw [show g + (bd s n (d0 + 1) 3 - d0) = (g + (bd s n (d0 + 1) 3 - (d0 + 1))) + 1 by omega, p_step h hn hin (by omega), e, if_neg (by decide), if_neg (by decide), if_neg (by decide), tdv h hn hin hc (by omega) (by omega), bd_]
  exact this
