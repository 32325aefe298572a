/-! PURE: salvage. -/
set_option maxRecDepth 100000 in
set_option maxHeartbeats 4000000 in
theorem p_valForm {b : Nat} (hb : b < 32) (f : Int32) (m : sM) : f_X1_isValidForm (nI b) f m = some (.inl (bi (okc m b && decide (m.1 (4 + b) 0 = f))), m) := by
  unfold f_X1_isValidForm
  rw [p_okc hb, bd_]
  cases okc m b
  · simp (disch := omega) only [md_, jn_, bd_, bdE_, ixl, ix_, llN, lNl, tlN, tNl, eNl, lNN, tNN, eNN, aNl, alN, mlN, nI_add, pk_mul, neg_lt0, if_true, if_false, if_pos, if_neg, up2, uL1, cp2, gdT, gdb_, or_true, true_or, false_or, or_false, and_true, true_and, and_false, false_and, ifb0, ifb1, eq_self, t0, t1, t2, t3, t4, o10, o01, z139a, bi_f]
    rfl
  · by_cases q : m.1 (4 + b) 0 = f
    · rw [decide_eq_true q]
      simp (disch := omega) only [md_, jn_, bd_, bdE_, ixl, ix_, llN, lNl, tlN, tNl, eNl, lNN, tNN, eNN, aNl, alN, mlN, nI_add, pk_mul, neg_lt0, if_true, if_false, if_pos, if_neg, up2, uL1, cp2, gdT, gdb_, or_true, true_or, false_or, or_false, and_true, true_and, and_false, false_and, ifb0, ifb1, eq_self, t0, t1, t2, t3, t4, o10, o01, z139a, bi_t, Nat.one_mul, q]
      rfl
    · rw [decide_eq_false q]
      simp (disch := omega) only [md_, jn_, bd_, bdE_, ixl, ix_, llN, lNl, tlN, tNl, eNl, lNN, tNN, eNN, aNl, alN, mlN, nI_add, pk_mul, neg_lt0, if_true, if_false, if_pos, if_neg, up2, uL1, cp2, gdT, gdb_, or_true, true_or, false_or, or_false, and_true, true_and, and_false, false_and, ifb0, ifb1, eq_self, t0, t1, t2, t3, t4, o10, o01, z139a, bi_t, Nat.one_mul, q]
      rfl
set_option maxRecDepth 100000 in
set_option maxHeartbeats 4000000 in
theorem p_data {b : Nat} (h1 : 2 ≤ b) (h2 : b < 32) (m : sM) : f_X1_isDataBlock (nI b) m = some (.inl 1, m) := by
  unfold f_X1_isDataBlock
  simp (disch := omega) only [md_, jn_, bd_, bdE_, ixl, ix_, llN, lNl, tlN, tNl, eNl, lNN, tNN, eNN, aNl, alN, mlN, nI_add, pk_mul, neg_lt0, if_true, if_false, if_pos, if_neg, up2, uL1, cp2, gdT, gdb_, or_true, true_or, false_or, or_false, and_true, true_and, and_false, false_and, ifb0, ifb1, eq_self, t0, t1, t2, t3, t4, o10, o01, z139a]
set_option maxRecDepth 100000 in
set_option maxHeartbeats 4000000 in
theorem p_dataE {x : Int32} (h : x < 2 ∨ 32 ≤ x) (m : sM) : f_X1_isDataBlock x m = some (.inl 0, m) := by
  unfold f_X1_isDataBlock
  by_cases q : x < 2
  · rw [jn_, jn_, if_pos q]; exact gd0 _
  · rw [jn_, jn_, if_neg q, if_pos (h.resolve_left q)]; exact gd0 _
set_option maxRecDepth 100000 in
set_option maxHeartbeats 4000000 in
theorem data_or (x : Int32) : (x < 2 ∨ 32 ≤ x) ∨ ∃ b, 2 ≤ b ∧ b < 32 ∧ x = nI b := by
  by_cases h1 : x < 2
  · exact Or.inl (Or.inl h1)
  by_cases h2 : (32 : Int32) ≤ x
  · exact Or.inl (Or.inr h2)
  refine Or.inr ?_
  have h0 : ¬ x < 0 := fun q => h1 (by
    rw [Int32.lt_iff_toInt_lt] at q ⊢
    have e0 : (0 : Int32).toInt = 0 := by decide
    have e2 : (2 : Int32).toInt = 2 := by decide
    omega)
  obtain ⟨j, hj, rfl⟩ := nI_of h0
  refine ⟨j, ?_, ?_, rfl⟩
  · by_cases q : j < 2
    · exact absurd (nI_lt q (by decide)) h1
    · omega
  · by_cases q : 32 ≤ j
    · exact absurd (nI_le q hj) h2
    · omega
/-- a page is usable -/
def usp (m : sM) (b : Nat) (pg : Int32) : Bool := okc m b && decide (m.1 (4 + b) 0 = 3) && decide (m.1 (4 + b) 2 = pg)
set_option maxRecDepth 100000 in
set_option maxHeartbeats 4000000 in
theorem p_usp {b : Nat} (h1 : 2 ≤ b) (h2 : b < 32) (pg : Int32) (m : sM) : f_X1_isUsablePage (nI b) pg m = some (.inl (bi (usp m b pg)), m) := by
  unfold f_X1_isUsablePage usp
  rw [p_data h1 h2, bd_]
  cases hv : okc m b && decide (m.1 (4 + b) 0 = 3)
  · simp (disch := omega) only [md_, jn_, bd_, bdE_, ixl, ix_, llN, lNl, tlN, tNl, eNl, lNN, tNN, eNN, aNl, alN, mlN, nI_add, pk_mul, neg_lt0, if_true, if_false, if_pos, if_neg, up2, uL1, cp2, gdT, gdb_, or_true, true_or, false_or, or_false, and_true, true_and, and_false, false_and, ifb0, ifb1, eq_self, t0, t1, t2, t3, t4, o10, o01, z139a, p_valForm h2, hv, bi_f]
    rfl
  · by_cases q : m.1 (4 + b) 2 = pg
    · rw [decide_eq_true q]
      simp (disch := omega) only [md_, jn_, bd_, bdE_, ixl, ix_, llN, lNl, tlN, tNl, eNl, lNN, tNN, eNN, aNl, alN, mlN, nI_add, pk_mul, neg_lt0, if_true, if_false, if_pos, if_neg, up2, uL1, cp2, gdT, gdb_, or_true, true_or, false_or, or_false, and_true, true_and, and_false, false_and, ifb0, ifb1, eq_self, t0, t1, t2, t3, t4, o10, o01, z139a, p_valForm h2, hv, bi_t, Nat.one_mul, q]
      rfl
    · rw [decide_eq_false q]
      simp (disch := omega) only [md_, jn_, bd_, bdE_, ixl, ix_, llN, lNl, tlN, tNl, eNl, lNN, tNN, eNN, aNl, alN, mlN, nI_add, pk_mul, neg_lt0, if_true, if_false, if_pos, if_neg, up2, uL1, cp2, gdT, gdb_, or_true, true_or, false_or, or_false, and_true, true_and, and_false, false_and, ifb0, ifb1, eq_self, t0, t1, t2, t3, t4, o10, o01, z139a, p_valForm h2, hv, bi_t, Nat.one_mul, q]
      rfl
set_option maxRecDepth 100000 in
set_option maxHeartbeats 4000000 in
theorem p_uspE {x : Int32} (h : x < 2 ∨ 32 ≤ x) (pg : Int32) (m : sM) : f_X1_isUsablePage x pg m = some (.inl 0, m) := by
  unfold f_X1_isUsablePage
  simp (disch := omega) only [md_, jn_, bd_, bdE_, ixl, ix_, llN, lNl, tlN, tNl, eNl, lNN, tNN, eNN, aNl, alN, mlN, nI_add, pk_mul, neg_lt0, if_true, if_false, if_pos, if_neg, up2, uL1, cp2, gdT, gdb_, or_true, true_or, false_or, or_false, and_true, true_and, and_false, false_and, ifb0, ifb1, eq_self, t0, t1, t2, t3, t4, o10, o01, z139a, p_dataE h]
def wrC (b key : Nat) (v n : Int32) (z : sM) : sM := s_up (s_up (s_up (s_uL z 104 3 (z.2 104 3 ||| s_lshl 1 (nI key))) 105 key v) 106 key n) 107 key (nI b)
def stC (b pg i : Nat) (z : sM) : sM := if ib (z.1 (4 + b) 3) i && (!lb (z.2 104 3) (pg + 8 * i) || !decide (z.1 (4 + b) 1 ≤ z.1 106 (pg + 8 * i))) then wrC b (pg + 8 * i) (z.1 (4 + b) (4 + i)) (z.1 (4 + b) 1) z else z
def scC (b pg : Nat) (z : sM) : Nat → sM
  | 0 => z
  | i + 1 => stC b pg i (scC b pg z i)
set_option maxRecDepth 100000 in
set_option maxHeartbeats 4000000 in
theorem wrC_ag {P : Nat → Nat → Prop} {b key : Nat} {v n : Int32} {m z : sM} (h : ag P m z) (hp : ∀ a j, 104 ≤ a → a < 108 → ¬ P a j) : ag P m (wrC b key v n z) := ag_up (ag_up (ag_up (ag_uL h (hp _ _ (by decide) (by decide))) (hp _ _ (by decide) (by decide))) (hp _ _ (by decide) (by decide))) (hp _ _ (by decide) (by decide))
set_option maxRecDepth 100000 in
set_option maxHeartbeats 4000000 in
theorem stC_ag {P : Nat → Nat → Prop} {b pg i : Nat} {m z : sM} (h : ag P m z) (hp : ∀ a j, 104 ≤ a → a < 108 → ¬ P a j) : ag P m (stC b pg i z) := by
  unfold stC
  split
  · exact wrC_ag h hp
  · exact h
set_option maxRecDepth 100000 in
set_option maxHeartbeats 4000000 in
theorem scC_ag {P : Nat → Nat → Prop} {b pg : Nat} {m z : sM} (h : ag P m z) (hp : ∀ a j, 104 ≤ a → a < 108 → ¬ P a j) : ∀ i, ag P m (scC b pg z i)
  | 0 => h
  | i + 1 => stC_ag (scC_ag h hp i) hp
set_option maxRecDepth 100000 in
set_option maxHeartbeats 4000000 in
theorem p_scL {b pg : Nat} (hb : b < 32) (hpg : pg < 8) {z0 : sM} (h2 : z0.1 (4 + b) 2 = nI pg) (e : sM → Option (sR Unit)) : f_X6_scanPage_L2 (4 + b) (nI b) e 5000 0 z0 = e (scC b pg z0 8) := by
  refine lpE (fun g i (z : sM) => f_X6_scanPage_L2 (4 + b) (nI b) e g (nI i) z) (fun i z => z = scC b pg z0 i) _ 8 ?_ ?_ 8 0 _ 5000 rfl (by decide) rfl
  · intro i z g hi hz ih
    have := ih _ rfl
    have hag := @scC_ag (fun a _ => a = 4 + b) b pg z0 z0 (ag_rf _) (by intro a j q1 q2; omega) i
    have e2 : z.1 (4 + b) 2 = nI pg := by rw [hz]; exact ((hag _ 2 rfl).1).trans h2
    rw [scC, ← hz] at this
    clear hz
    have hm3 : (3 : Int32).toNatClampNeg = 3 := by decide
    rw [stC] at this
    cases hib : ib (z.1 (4 + b) 3) i
    · rw [hib, Bool.false_and, if_neg (by decide)] at this
      have hib2 : lb (Int32.toInt64 (z.1 (4 + b) 3)) i = false := hib
      simp (disch := omega) only [md_, jn_, bd_, bdE_, ixl, ix_, llN, lNl, tlN, tNl, eNl, lNN, tNN, eNN, aNl, alN, mlN, nI_add, pk_mul, neg_lt0, if_true, if_false, if_pos, if_neg, up2, uL1, cp2, gdT, gdb_, or_true, true_or, false_or, or_false, and_true, true_and, and_false, false_and, ifb0, ifb1, eq_self, t0, t1, t2, t3, t4, o10, o01, z139a, f_X6_scanPage_L2, e2, p_keyOf, p_isIn, hib2, bi_f]
      exact this
    · rw [hib, Bool.true_and] at this
      have hib2 : lb (Int32.toInt64 (z.1 (4 + b) 3)) i = true := hib
      cases hl : lb (z.2 104 3) (pg + 8 * i)
      · rw [hl, Bool.not_false, Bool.true_or, if_pos rfl] at this
        simp (disch := omega) only [md_, jn_, bd_, bdE_, ixl, ix_, llN, lNl, tlN, tNl, eNl, lNN, tNN, eNN, aNl, alN, mlN, nI_add, pk_mul, neg_lt0, if_true, if_false, if_pos, if_neg, up2, uL1, cp2, gdT, gdb_, or_true, true_or, false_or, or_false, and_true, true_and, and_false, false_and, ifb0, ifb1, eq_self, t0, t1, t2, t3, t4, o10, o01, z139a, f_X6_scanPage_L2, e2, p_keyOf, hib2, bi_t, bi_f, f_X6_isBetter, p_isIn, hl, p_setOf, up1]
        exact this
      · rw [hl, Bool.not_true, Bool.false_or] at this
        by_cases hn : z.1 (4 + b) 1 ≤ z.1 106 (pg + 8 * i)
        · rw [decide_eq_true hn, Bool.not_true, if_neg (by decide)] at this
          simp (disch := omega) only [md_, jn_, bd_, bdE_, ixl, ix_, llN, lNl, tlN, tNl, eNl, lNN, tNN, eNN, aNl, alN, mlN, nI_add, pk_mul, neg_lt0, if_true, if_false, if_pos, if_neg, up2, uL1, cp2, gdT, gdb_, or_true, true_or, false_or, or_false, and_true, true_and, and_false, false_and, ifb0, ifb1, eq_self, t0, t1, t2, t3, t4, o10, o01, z139a, f_X6_scanPage_L2, e2, p_keyOf, hib2, bi_t, f_X6_isBetter, p_isIn, hl, hn]
          exact this
        · rw [decide_eq_false hn, Bool.not_false, if_pos rfl] at this
          simp (disch := omega) only [md_, jn_, bd_, bdE_, ixl, ix_, llN, lNl, tlN, tNl, eNl, lNN, tNN, eNN, aNl, alN, mlN, nI_add, pk_mul, neg_lt0, if_true, if_false, if_pos, if_neg, up2, uL1, cp2, gdT, gdb_, or_true, true_or, false_or, or_false, and_true, true_and, and_false, false_and, ifb0, ifb1, eq_self, t0, t1, t2, t3, t4, o10, o01, z139a, f_X6_scanPage_L2, e2, p_keyOf, hib2, bi_t, f_X6_isBetter, p_isIn, hl, hn, p_setOf, up1]
          exact this
  · intro z g hz
    subst hz
    simp (disch := omega) only [md_, jn_, bd_, bdE_, ixl, ix_, llN, lNl, tlN, tNl, eNl, lNN, tNN, eNN, aNl, alN, mlN, nI_add, pk_mul, neg_lt0, if_true, if_false, if_pos, if_neg, up2, uL1, cp2, gdT, gdb_, or_true, true_or, false_or, or_false, and_true, true_and, and_false, false_and, ifb0, ifb1, eq_self, t0, t1, t2, t3, t4, o10, o01, z139a, f_X6_scanPage_L2]
def inP (x : Int32) : Bool := !decide (x < 0) && !decide ((8 : Int32) ≤ x)
set_option maxRecDepth 100000 in
set_option maxHeartbeats 4000000 in
theorem inP_t {x : Int32} (h : inP x = true) : ∃ j, j < 8 ∧ x = nI j ∧ x.toNatClampNeg = j := by
  unfold inP at h
  have h1 : ¬ x < 0 := fun q => by rw [decide_eq_true q, Bool.not_true, Bool.false_and] at h; exact absurd h (by decide)
  have h2 : ¬ (8 : Int32) ≤ x := fun q => by rw [decide_eq_true q, Bool.not_true, Bool.and_false] at h; exact absurd h (by decide)
  obtain ⟨j, hj, rfl⟩ := nI_of h1
  refine ⟨j, ?_, rfl, nI_clamp hj⟩
  by_cases q : 8 ≤ j
  · exact absurd (nI_le q hj) h2
  · omega
set_option maxRecDepth 100000 in
set_option maxHeartbeats 4000000 in
theorem inP_n {j : Nat} (h : j < 8) : inP (nI j) = true := by
  unfold inP
  have h8 : ¬ (8 : Int32) ≤ nI j := nI_ge (a := j) (b := 8) h (by decide)
  rw [decide_eq_false (nI_pos (by omega)), decide_eq_false h8]
  rfl
def cnd (z : sM) (b : Nat) : Bool := okc z b && decide (z.1 (4 + b) 0 = 3) && inP (z.1 (4 + b) 2)
def seC (z : sM) : Nat → sM
  | 0 => z
  | k + 1 => if cnd (seC z (k)) (2 + k) then scC (2 + k) ((seC z k).1 (4 + (2 + k)) 2).toNatClampNeg (seC z k) 8 else seC z k
set_option maxRecDepth 100000 in
set_option maxHeartbeats 4000000 in
theorem seC_ag {P : Nat → Nat → Prop} {m z : sM} (h : ag P m z) (hp : ∀ a j, 104 ≤ a → a < 108 → ¬ P a j) : ∀ i, ag P m (seC z i)
  | 0 => h
  | i + 1 => by
    rw [seC]
    split
    · exact scC_ag (seC_ag h hp i) hp 8
    · exact seC_ag h hp i
set_option maxRecDepth 100000 in
set_option maxHeartbeats 4000000 in
theorem p_seL {N : Nat} (hN : N = 30) (z0 : sM) (e : sM → Option (sR Unit)) : f_X6_scan_L7 e 5000 2 z0 = e (seC z0 N) := by
  rw [show (2 : Int32) = nI (2 + 0) from rfl]
  refine lpE (fun g i (z : sM) => f_X6_scan_L7 e g (nI (2 + i)) z) (fun i z => z = seC z0 i) _ N ?_ ?_ N 0 _ 5000 (by omega) (by omega) rfl
  · intro i z g hi hz ih
    have := ih _ rfl
    rw [seC, ← hz] at this
    clear hz
    have h32 : ¬ (32 : Int32) ≤ nI (2 + i) := nI_ge (a := 2 + i) (b := 32) (by omega) (by decide)
    have h1 : nI (2 + i) + 1 = nI (2 + (i + 1)) := nI_add _ 1
    cases hp : inP (z.1 (4 + (2 + i)) 2)
    · rw [cnd, hp, Bool.and_false, if_neg (by decide)] at this
      unfold inP at hp
      by_cases q1 : z.1 (4 + (2 + i)) 2 < 0
      · simp (disch := omega) only [md_, jn_, bd_, bdE_, ixl, ix_, llN, lNl, tlN, tNl, eNl, lNN, tNN, eNN, aNl, alN, mlN, nI_add, pk_mul, neg_lt0, if_true, if_false, if_pos, if_neg, up2, uL1, cp2, gdT, gdb_, or_true, true_or, false_or, or_false, and_true, true_and, and_false, false_and, ifb0, ifb1, eq_self, t0, t1, t2, t3, t4, o10, o01, z139a, f_X6_scan_L7, h32, Nat.one_mul, q1, h1]
        exact this
      · rw [decide_eq_false q1, Bool.not_false, Bool.true_and] at hp
        have q2 : (8 : Int32) ≤ z.1 (4 + (2 + i)) 2 := by
          by_cases w : (8 : Int32) ≤ z.1 (4 + (2 + i)) 2
          · exact w
          · rw [decide_eq_false w] at hp; exact absurd hp (by decide)
        simp (disch := omega) only [md_, jn_, bd_, bdE_, ixl, ix_, llN, lNl, tlN, tNl, eNl, lNN, tNN, eNN, aNl, alN, mlN, nI_add, pk_mul, neg_lt0, if_true, if_false, if_pos, if_neg, up2, uL1, cp2, gdT, gdb_, or_true, true_or, false_or, or_false, and_true, true_and, and_false, false_and, ifb0, ifb1, eq_self, t0, t1, t2, t3, t4, o10, o01, z139a, f_X6_scan_L7, h32, Nat.one_mul, q1, q2, h1]
        exact this
    · obtain ⟨pg, hpg, e1, e2⟩ := inP_t hp
      have q1 : ¬ z.1 (4 + (2 + i)) 2 < 0 := by rw [e1]; exact nI_pos (by omega)
      have q2 : ¬ (8 : Int32) ≤ z.1 (4 + (2 + i)) 2 := by rw [e1]; exact nI_ge (a := pg) (b := 8) hpg (by decide)
      rw [cnd, hp, Bool.and_true, e2] at this
      have hu := p_usp (b := 2 + i) (by omega) (by omega) (z.1 (4 + (2 + i)) 2) z
      rw [usp, decide_eq_true rfl, Bool.and_true] at hu
      cases hc : okc z (2 + i) && decide (z.1 (4 + (2 + i)) 0 = 3)
      · rw [hc] at hu this
        rw [if_neg (by decide)] at this
        simp (disch := omega) only [md_, jn_, bd_, bdE_, ixl, ix_, llN, lNl, tlN, tNl, eNl, lNN, tNN, eNN, aNl, alN, mlN, nI_add, pk_mul, neg_lt0, if_true, if_false, if_pos, if_neg, up2, uL1, cp2, gdT, gdb_, or_true, true_or, false_or, or_false, and_true, true_and, and_false, false_and, ifb0, ifb1, eq_self, t0, t1, t2, t3, t4, o10, o01, z139a, f_X6_scan_L7, h32, Nat.one_mul, q1, q2, hu, bi_f, h1]
        exact this
      · rw [hc] at hu this
        rw [if_pos rfl] at this
        simp (disch := omega) only [md_, jn_, bd_, bdE_, ixl, ix_, llN, lNl, tlN, tNl, eNl, lNN, tNN, eNN, aNl, alN, mlN, nI_add, pk_mul, neg_lt0, if_true, if_false, if_pos, if_neg, up2, uL1, cp2, gdT, gdb_, or_true, true_or, false_or, or_false, and_true, true_and, and_false, false_and, ifb0, ifb1, eq_self, t0, t1, t2, t3, t4, o10, o01, z139a, f_X6_scan_L7, h32, Nat.one_mul, q1, q2, hu, bi_t, h1, f_X6_scanPage, p_scL (b := 2 + i) (by omega) hpg e1]
        exact this
  · intro z g hz
    subst hz
    have h32 : (32 : Int32) ≤ nI (2 + N) := nI_le (a := 32) (b := 2 + N) (by omega) (by omega)
    show f_X6_scan_L7 e (g + 1) (nI (2 + N)) _ = _
    rw [f_X6_scan_L7, if_pos h32]
