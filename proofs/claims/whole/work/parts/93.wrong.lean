/-! PURE: wrongBlock. -/
def all8 (f : Nat → Bool) : Nat → Bool
  | 0 => true
  | n + 1 => all8 f n && f n
set_option maxRecDepth 100000 in
set_option maxHeartbeats 1000000 in
theorem all8_f {f : Nat → Bool} {i : Nat} (h : f i = false) : ∀ n, i < n → all8 f n = false
  | 0, hn => absurd hn (Nat.not_lt_zero i)
  | n + 1, hn => by
    rw [all8]
    by_cases q : i = n
    · subst q; rw [h, Bool.and_false]
    · rw [all8_f h n (by omega), Bool.false_and]
def opE (m : sM) (b p i : Nat) : Bool := (ib (m.1 (4 + b) 3) i == lb (m.2 36 2) (p + 8 * i)) && (!lb (m.2 36 2) (p + 8 * i) || decide (m.1 (4 + b) (4 + i) = m.1 38 (p + 8 * i)))
def otE (m : sM) (b p : Nat) : Bool := decide (m.1 (4 + b) (4 + p) = m.1 37 p)
set_option maxRecDepth 100000 in
set_option maxHeartbeats 1000000 in
theorem p_ourT {b : Nat} (m : sM) : f_X8_isOurTable 36 (4 + b) m = some (.inl (bi (all8 (otE m b) 8)), m) := by
  unfold f_X8_isOurTable
  rw [jn_, jn_]
  refine lpE (fun g i (_ : Unit) => f_X8_isOurTable_L2 36 (4 + b) m _ _ g (nI i)) (fun i _ => all8 (otE m b) i = true) _ 8 ?_ ?_ 8 0 () 5000 rfl (by decide) rfl
  · intro i _ g hi hA ih
    by_cases q : m.1 (4 + b) (4 + i) = m.1 37 i
    · have hk : otE m b i = true := decide_eq_true q
      have := ih () (by rw [all8, hA, hk]; rfl)
      simp (disch := omega) only [md_, jn_, bd_, bdE_, ixl, ix_, llN, lNl, tlN, tNl, eNl, lNN, tNN, eNN, aNl, alN, mlN, nI_add, pk_mul, neg_lt0, if_true, if_false, if_pos, if_neg, up2, uL1, cp2, gdT, gdb_, or_true, true_or, false_or, or_false, and_true, true_and, and_false, false_and, ifb0, ifb1, eq_self, t0, t1, t2, t3, t4, o10, o01, z139a, Bool.false_eq_true, f_X8_isOurTable_L2, q]
      exact this
    · have hk : otE m b i = false := decide_eq_false q
      rw [all8_f hk 8 hi, bi_f]
      simp (disch := omega) only [md_, jn_, bd_, bdE_, ixl, ix_, llN, lNl, tlN, tNl, eNl, lNN, tNN, eNN, aNl, alN, mlN, nI_add, pk_mul, neg_lt0, if_true, if_false, if_pos, if_neg, up2, uL1, cp2, gdT, gdb_, or_true, true_or, false_or, or_false, and_true, true_and, and_false, false_and, ifb0, ifb1, eq_self, t0, t1, t2, t3, t4, o10, o01, z139a, Bool.false_eq_true, f_X8_isOurTable_L2, q]
  · intro _ g hA
    rw [hA, bi_t]
    simp (disch := omega) only [md_, jn_, bd_, bdE_, ixl, ix_, llN, lNl, tlN, tNl, eNl, lNN, tNN, eNN, aNl, alN, mlN, nI_add, pk_mul, neg_lt0, if_true, if_false, if_pos, if_neg, up2, uL1, cp2, gdT, gdb_, or_true, true_or, false_or, or_false, and_true, true_and, and_false, false_and, ifb0, ifb1, eq_self, t0, t1, t2, t3, t4, o10, o01, z139a, Bool.false_eq_true, f_X8_isOurTable_L2]
set_option maxRecDepth 100000 in
set_option maxHeartbeats 1000000 in
theorem p_ourPL {b p : Nat} (hp : p < 8) (m : sM) (e1 e2 e3 : sM → Option (sR Int32)) (r : Option (sR Int32)) (he2 : e2 m = r) (he3 : e3 m = r) : f_X8_isOurPage_L2 36 (4 + b) (nI p) e1 e2 e3 5000 0 m = if all8 (opE m b p) 8 = true then e1 m else r := by
  refine lpE (fun g i (_ : Unit) => f_X8_isOurPage_L2 36 (4 + b) (nI p) e1 e2 e3 g (nI i) m) (fun i _ => all8 (opE m b p) i = true) _ 8 ?_ ?_ 8 0 () 5000 rfl (by decide) rfl
  · intro i _ g hi hA ih
    have hk64 : p + 8 * i < 64 := by omega
    have e1 : lb (Int32.toInt64 (m.1 (4 + b) 3)) i = ib (m.1 (4 + b) 3) i := rfl
    cases h1 : ib (m.1 (4 + b) 3) i <;> cases h2 : lb (m.2 36 2) (p + 8 * i)
    · have hk : opE m b p i = true := by unfold opE; rw [h1, h2]; rfl
      have := ih () (by rw [all8, hA, hk]; rfl)
      simp (disch := omega) only [md_, jn_, bd_, bdE_, ixl, ix_, llN, lNl, tlN, tNl, eNl, lNN, tNN, eNN, aNl, alN, mlN, nI_add, pk_mul, neg_lt0, if_true, if_false, if_pos, if_neg, up2, uL1, cp2, gdT, gdb_, or_true, true_or, false_or, or_false, and_true, true_and, and_false, false_and, ifb0, ifb1, eq_self, t0, t1, t2, t3, t4, o10, o01, z139a, Bool.false_eq_true, f_X8_isOurPage_L2, p_keyOf, p_isIn, e1, h1, h2, bi_f]
      exact this
    · have hk : opE m b p i = false := by unfold opE; rw [h1, h2]; rfl
      rw [all8_f hk 8 hi, if_neg (by decide)]
      simp (disch := omega) only [md_, jn_, bd_, bdE_, ixl, ix_, llN, lNl, tlN, tNl, eNl, lNN, tNN, eNN, aNl, alN, mlN, nI_add, pk_mul, neg_lt0, if_true, if_false, if_pos, if_neg, up2, uL1, cp2, gdT, gdb_, or_true, true_or, false_or, or_false, and_true, true_and, and_false, false_and, ifb0, ifb1, eq_self, t0, t1, t2, t3, t4, o10, o01, z139a, Bool.false_eq_true, f_X8_isOurPage_L2, p_keyOf, p_isIn, e1, h1, h2, bi_f, bi_t]
      exact he3
    · have hk : opE m b p i = false := by unfold opE; rw [h1, h2]; rfl
      rw [all8_f hk 8 hi, if_neg (by decide)]
      simp (disch := omega) only [md_, jn_, bd_, bdE_, ixl, ix_, llN, lNl, tlN, tNl, eNl, lNN, tNN, eNN, aNl, alN, mlN, nI_add, pk_mul, neg_lt0, if_true, if_false, if_pos, if_neg, up2, uL1, cp2, gdT, gdb_, or_true, true_or, false_or, or_false, and_true, true_and, and_false, false_and, ifb0, ifb1, eq_self, t0, t1, t2, t3, t4, o10, o01, z139a, Bool.false_eq_true, f_X8_isOurPage_L2, p_keyOf, p_isIn, e1, h1, h2, bi_f, bi_t]
      exact he3
    · by_cases q : m.1 (4 + b) (4 + i) = m.1 38 (p + 8 * i)
      · have hk : opE m b p i = true := by unfold opE; rw [h1, h2, decide_eq_true q]; rfl
        have := ih () (by rw [all8, hA, hk]; rfl)
        simp (disch := omega) only [md_, jn_, bd_, bdE_, ixl, ix_, llN, lNl, tlN, tNl, eNl, lNN, tNN, eNN, aNl, alN, mlN, nI_add, pk_mul, neg_lt0, if_true, if_false, if_pos, if_neg, up2, uL1, cp2, gdT, gdb_, or_true, true_or, false_or, or_false, and_true, true_and, and_false, false_and, ifb0, ifb1, eq_self, t0, t1, t2, t3, t4, o10, o01, z139a, Bool.false_eq_true, f_X8_isOurPage_L2, p_keyOf, p_isIn, e1, h1, h2, bi_t, q]
        exact this
      · have hk : opE m b p i = false := by unfold opE; rw [h1, h2, decide_eq_false q]; rfl
        rw [all8_f hk 8 hi, if_neg (by decide)]
        simp (disch := omega) only [md_, jn_, bd_, bdE_, ixl, ix_, llN, lNl, tlN, tNl, eNl, lNN, tNN, eNN, aNl, alN, mlN, nI_add, pk_mul, neg_lt0, if_true, if_false, if_pos, if_neg, up2, uL1, cp2, gdT, gdb_, or_true, true_or, false_or, or_false, and_true, true_and, and_false, false_and, ifb0, ifb1, eq_self, t0, t1, t2, t3, t4, o10, o01, z139a, Bool.false_eq_true, f_X8_isOurPage_L2, p_keyOf, p_isIn, e1, h1, h2, bi_t, q]
        exact he2
  · intro _ g hA
    rw [if_pos hA]
    simp (disch := omega) only [md_, jn_, bd_, bdE_, ixl, ix_, llN, lNl, tlN, tNl, eNl, lNN, tNN, eNN, aNl, alN, mlN, nI_add, pk_mul, neg_lt0, if_true, if_false, if_pos, if_neg, up2, uL1, cp2, gdT, gdb_, or_true, true_or, false_or, or_false, and_true, true_and, and_false, false_and, ifb0, ifb1, eq_self, t0, t1, t2, t3, t4, o10, o01, z139a, Bool.false_eq_true, f_X8_isOurPage_L2]
set_option maxRecDepth 100000 in
set_option maxHeartbeats 1000000 in
theorem p_ourP {b p : Nat} (hp : p < 8) (m : sM) : f_X8_isOurPage 36 (4 + b) (nI p) m = some (.inl (bi (all8 (opE m b p) 8 && decide (m.1 (4 + b) 2 = nI p))), m) := by
  unfold f_X8_isOurPage
  rw [jn_, jn_, jn_, p_ourPL hp m _ _ _ (some (.inl 0, m)) rfl rfl]
  cases all8 (opE m b p) 8
  · rw [if_neg (by decide), Bool.false_and]; rfl
  · rw [if_pos rfl, Bool.true_and, ixl _ (by decide) (by decide), jn_]
    by_cases q : m.1 (4 + b) 2 = nI p
    · rw [if_pos q, decide_eq_true q]; exact gd1 _
    · rw [if_neg q, decide_eq_false q]; exact gd0 _
def pgOk (m : sM) (b p : Nat) : Bool := decide (m.1 (4 + b) 0 = 3) && decide (m.1 (4 + b) 2 = nI p) && all8 (opE m b p) 8
set_option maxRecDepth 100000 in
set_option maxHeartbeats 1000000 in
theorem q_at0 {mc mm : sM} (hd : rDisk mc mm) {b : Nat} (hb : b < 32) : f_X10_at (nI b) 0 mm = some (.inl (mc.1 (4 + b) 0), mm) := q_atc hd hb (c := 0) (by decide)
set_option maxRecDepth 100000 in
set_option maxHeartbeats 1000000 in
theorem q_at1 {mc mm : sM} (hd : rDisk mc mm) {b : Nat} (hb : b < 32) : f_X10_at (nI b) 1 mm = some (.inl (mc.1 (4 + b) 1), mm) := q_atc hd hb (c := 1) (by decide)
set_option maxRecDepth 100000 in
set_option maxHeartbeats 1000000 in
theorem q_at2 {mc mm : sM} (hd : rDisk mc mm) {b : Nat} (hb : b < 32) : f_X10_at (nI b) 2 mm = some (.inl (mc.1 (4 + b) 2), mm) := q_atc hd hb (c := 2) (by decide)
set_option maxRecDepth 100000 in
set_option maxHeartbeats 1000000 in
theorem q_at3 {mc mm : sM} (hd : rDisk mc mm) {b : Nat} (hb : b < 32) : f_X10_at (nI b) 3 mm = some (.inl (mc.1 (4 + b) 3), mm) := q_atc hd hb (c := 3) (by decide)
set_option maxRecDepth 100000 in
set_option maxHeartbeats 1000000 in
theorem q_ati {mc mm : sM} (hd : rDisk mc mm) {b i : Nat} (hb : b < 32) (hi : i < 8) : f_X10_at (nI b) (nI (4 + i)) mm = some (.inl (mc.1 (4 + b) (4 + i)), mm) := q_atc hd hb (by omega)
set_option maxRecDepth 100000 in
set_option maxHeartbeats 1000000 in
theorem q_wpL {mc mm : sM} (h : R mc mm) {b p : Nat} (hb : b < 32) (hp : p < 8) (u : Bool) : f_X10_isWrongPage_L29 (nI p) (nI b) (fun (x3_119 : Int32) (m119_ : sM) => s_gd (x3_119 = 0 ∨ x3_119 = 1) (some (.inl x3_119, m119_))) 5000 (bi (!u)) 0 mm = some (.inl (bi (!(u && all8 (opE mc b p) 8))), mm) := by
  refine lpE (fun g i (x : Int32) => f_X10_isWrongPage_L29 (nI p) (nI b) _ g x (nI i) mm) (fun i x => x = bi (!(u && all8 (opE mc b p) i))) _ 8 ?_ ?_ 8 0 (bi (!u)) 5000 rfl (by decide) (by rw [all8, Bool.and_true])
  · intro i x g hi hx ih
    have := ih _ rfl
    subst hx
    rw [all8, ← Bool.and_assoc] at this
    have hk64 : p + 8 * i < 64 := by omega
    obtain ⟨r1, r2⟩ := R_has h hk64
    have a3 := q_at3 h.1 hb
    have a4 := q_ati h.1 hb hi
    have hib := ib_sh (x := mc.1 (4 + b) 3) hi
    cases hu : u && all8 (opE mc b p) i
    · rw [hu, Bool.false_and, Bool.not_false, bi_t] at this
      cases h1 : ib (mc.1 (4 + b) 3) i
      · rw [h1] at hib
        simp (disch := omega) only [md_, jn_, bd_, bdE_, ixl, ix_, llN, lNl, tlN, tNl, eNl, lNN, tNN, eNN, aNl, alN, mlN, nI_add, pk_mul, neg_lt0, if_true, if_false, if_pos, if_neg, up2, uL1, cp2, gdT, gdb_, or_true, true_or, false_or, or_false, and_true, true_and, and_false, false_and, ifb0, ifb1, eq_self, t0, t1, t2, t3, t4, o10, o01, z139a, Bool.false_eq_true, f_X10_isWrongPage_L29, a3, hib, bi_t, Bool.not_false, Bool.false_eq_true]
        exact this
      · rw [h1] at hib
        simp (disch := omega) only [md_, jn_, bd_, bdE_, ixl, ix_, llN, lNl, tlN, tNl, eNl, lNN, tNN, eNN, aNl, alN, mlN, nI_add, pk_mul, neg_lt0, if_true, if_false, if_pos, if_neg, up2, uL1, cp2, gdT, gdb_, or_true, true_or, false_or, or_false, and_true, true_and, and_false, false_and, ifb0, ifb1, eq_self, t0, t1, t2, t3, t4, o10, o01, z139a, Bool.false_eq_true, f_X10_isWrongPage_L29, a3, hib, bi_t, Bool.not_false]
        exact this
    · rw [hu, Bool.true_and] at this
      cases h1 : ib (mc.1 (4 + b) 3) i <;> cases h2 : lb (mc.2 36 2) (p + 8 * i)
      · have hk : opE mc b p i = true := by unfold opE; rw [h1, h2]; rfl
        rw [h1] at hib
        rw [h2] at r1
        rw [hk, Bool.not_true, bi_f] at this
        simp (disch := omega) only [md_, jn_, bd_, bdE_, ixl, ix_, llN, lNl, tlN, tNl, eNl, lNN, tNN, eNN, aNl, alN, mlN, nI_add, pk_mul, neg_lt0, if_true, if_false, if_pos, if_neg, up2, uL1, cp2, gdT, gdb_, or_true, true_or, false_or, or_false, and_true, true_and, and_false, false_and, ifb0, ifb1, eq_self, t0, t1, t2, t3, t4, o10, o01, z139a, Bool.false_eq_true, f_X10_isWrongPage_L29, a3, hib, bi_f, Bool.not_true, Bool.false_eq_true, r1]
        exact this
      · have hk : opE mc b p i = false := by unfold opE; rw [h1, h2]; rfl
        rw [h1] at hib
        rw [h2] at r1
        rw [hk, Bool.not_false, bi_t] at this
        simp (disch := omega) only [md_, jn_, bd_, bdE_, ixl, ix_, llN, lNl, tlN, tNl, eNl, lNN, tNN, eNN, aNl, alN, mlN, nI_add, pk_mul, neg_lt0, if_true, if_false, if_pos, if_neg, up2, uL1, cp2, gdT, gdb_, or_true, true_or, false_or, or_false, and_true, true_and, and_false, false_and, ifb0, ifb1, eq_self, t0, t1, t2, t3, t4, o10, o01, z139a, Bool.false_eq_true, f_X10_isWrongPage_L29, a3, hib, bi_f, bi_t, Bool.not_true, Bool.false_eq_true, r1]
        exact this
      · have hk : opE mc b p i = false := by unfold opE; rw [h1, h2]; rfl
        rw [h1] at hib
        rw [h2] at r1
        rw [hk, Bool.not_false, bi_t] at this
        simp (disch := omega) only [md_, jn_, bd_, bdE_, ixl, ix_, llN, lNl, tlN, tNl, eNl, lNN, tNN, eNN, aNl, alN, mlN, nI_add, pk_mul, neg_lt0, if_true, if_false, if_pos, if_neg, up2, uL1, cp2, gdT, gdb_, or_true, true_or, false_or, or_false, and_true, true_and, and_false, false_and, ifb0, ifb1, eq_self, t0, t1, t2, t3, t4, o10, o01, z139a, Bool.false_eq_true, f_X10_isWrongPage_L29, a3, hib, bi_f, Bool.not_true, r1]
        exact this
      · have r3 := r2 h2
        rw [h1] at hib
        rw [h2] at r1
        by_cases q : mc.1 (4 + b) (4 + i) = mc.1 38 (p + 8 * i)
        · have hk : opE mc b p i = true := by unfold opE; rw [h1, h2, decide_eq_true q]; rfl
          rw [hk, Bool.not_true, bi_f] at this
          rw [r3] at q
          simp (disch := omega) only [md_, jn_, bd_, bdE_, ixl, ix_, llN, lNl, tlN, tNl, eNl, lNN, tNN, eNN, aNl, alN, mlN, nI_add, pk_mul, neg_lt0, if_true, if_false, if_pos, if_neg, up2, uL1, cp2, gdT, gdb_, or_true, true_or, false_or, or_false, and_true, true_and, and_false, false_and, ifb0, ifb1, eq_self, t0, t1, t2, t3, t4, o10, o01, z139a, Bool.false_eq_true, f_X10_isWrongPage_L29, a3, a4, hib, bi_f, bi_t, Bool.not_true, r1, q]
          exact this
        · have hk : opE mc b p i = false := by unfold opE; rw [h1, h2, decide_eq_false q]; rfl
          rw [hk, Bool.not_false, bi_t] at this
          rw [r3] at q
          simp (disch := omega) only [md_, jn_, bd_, bdE_, ixl, ix_, llN, lNl, tlN, tNl, eNl, lNN, tNN, eNN, aNl, alN, mlN, nI_add, pk_mul, neg_lt0, if_true, if_false, if_pos, if_neg, up2, uL1, cp2, gdT, gdb_, or_true, true_or, false_or, or_false, and_true, true_and, and_false, false_and, ifb0, ifb1, eq_self, t0, t1, t2, t3, t4, o10, o01, z139a, Bool.false_eq_true, f_X10_isWrongPage_L29, a3, a4, hib, bi_f, bi_t, Bool.not_true, r1, q]
          exact this
  · intro x g hx
    subst hx
    simp (disch := omega) only [md_, jn_, bd_, bdE_, ixl, ix_, llN, lNl, tlN, tNl, eNl, lNN, tNN, eNN, aNl, alN, mlN, nI_add, pk_mul, neg_lt0, if_true, if_false, if_pos, if_neg, up2, uL1, cp2, gdT, gdb_, or_true, true_or, false_or, or_false, and_true, true_and, and_false, false_and, ifb0, ifb1, eq_self, t0, t1, t2, t3, t4, o10, o01, z139a, Bool.false_eq_true, f_X10_isWrongPage_L29]
set_option maxRecDepth 100000 in
set_option maxHeartbeats 1000000 in
theorem q_wp {mc mm : sM} (h : R mc mm) {b p : Nat} (hb : b < 32) (hp : p < 8) : f_X10_isWrongPage (nI p) (nI b) mm = some (.inl (bi (!pgOk mc b p)), mm) := by
  have hF := q_wpL h hb hp false
  have hT := q_wpL h hb hp true
  rw [Bool.not_false, bi_t, Bool.false_and] at hF
  rw [Bool.not_true, bi_f, Bool.true_and] at hT
  unfold f_X10_isWrongPage pgOk
  rw [q_at0 h.1 hb, bd_, jn_, jn_]
  by_cases q0 : mc.1 (4 + b) 0 = 3
  · rw [if_pos q0, q_at2 h.1 hb, bd_, decide_eq_true q0, Bool.true_and]
    by_cases q2 : mc.1 (4 + b) 2 = nI p
    · rw [if_pos q2, decide_eq_true q2, Bool.true_and]; exact hT
    · rw [if_neg q2, decide_eq_false q2, Bool.false_and]; exact hF
  · rw [if_neg q0, decide_eq_false q0, Bool.false_and, Bool.false_and]; exact hF
def wl (m : sM) (b : Nat) : Nat → Bool
  | 0 => false
  | i + 1 => (wl m b i || (decide (m.1 36 5 = nI b) && !otE m b i)) || (decide (m.1 37 i = nI b) && !pgOk m b i)
set_option maxRecDepth 100000 in
set_option maxHeartbeats 1000000 in
theorem q_wL {mc mm : sM} (h : R mc mm) {b : Nat} (hb : b < 32) (u : Bool) : f_X10_isWrong_L132 (nI b) (fun (x3_215 : Int32) (m215_ : sM) => s_gd (x3_215 = 0 ∨ x3_215 = 1) (some (.inl x3_215, m215_))) 5000 (bi u) 0 mm = some (.inl (bi (u || wl mc b 8)), mm) := by
  refine lpE (fun g i (x : Int32) => f_X10_isWrong_L132 (nI b) _ g x (nI i) mm) (fun i x => x = bi (u || wl mc b i)) _ 8 ?_ ?_ 8 0 (bi u) 5000 rfl (by decide) (by rw [wl, Bool.or_false])
  · intro i x g hi hx ih
    have := ih _ rfl
    subst hx
    rw [wl, ← Bool.or_assoc, ← Bool.or_assoc] at this
    have v5 : mc.1 36 5 = mm.1 113 0 := h.2.2.1.1.2.1
    have v4 : mc.1 37 i = mm.1 114 i := by
      have := (h.2.2.1.1.2.2.2.1 i hi).1
      rwa [Nat.mul_zero, Nat.zero_add] at this
    have a4 := q_ati h.1 hb hi
    have hw := q_wp h hb hi
    cases hu : u || wl mc b i
    · by_cases q : nI b = mm.1 113 0
      · have Q := eq_true q
        have q5 : decide (mc.1 36 5 = nI b) = true := decide_eq_true (v5.trans q.symm)
        rw [hu, q5, Bool.true_and, Bool.false_or] at this
        by_cases q1 : mc.1 (4 + b) (4 + i) = mc.1 37 i
        · have hk : otE mc b i = true := decide_eq_true q1
          have Q1 := eq_true (q1.trans v4)
          rw [hk, Bool.not_true, Bool.false_or] at this
          by_cases q2 : nI b = mm.1 114 i
          · have Q2 := eq_true q2
            rw [decide_eq_true (v4.trans q2.symm), Bool.true_and] at this
            cases hk2 : pgOk mc b i
            · rw [hk2] at this hw
              rw [Bool.not_false, bi_t] at this hw
              simp (disch := omega) only [md_, jn_, bd_, bdE_, ixl, ix_, llN, lNl, tlN, tNl, eNl, lNN, tNN, eNN, aNl, alN, mlN, nI_add, pk_mul, neg_lt0, if_true, if_false, if_pos, if_neg, up2, uL1, cp2, gdT, gdb_, or_true, true_or, false_or, or_false, and_true, true_and, and_false, false_and, ifb0, ifb1, eq_self, t0, t1, t2, t3, t4, o10, o01, z139a, Bool.false_eq_true, f_X10_isWrong_L132, bi_f, Q, Q2, hw, a4, Q1]
              exact this
            · rw [hk2] at this hw
              rw [Bool.not_true, bi_f] at this hw
              simp (disch := omega) only [md_, jn_, bd_, bdE_, ixl, ix_, llN, lNl, tlN, tNl, eNl, lNN, tNN, eNN, aNl, alN, mlN, nI_add, pk_mul, neg_lt0, if_true, if_false, if_pos, if_neg, up2, uL1, cp2, gdT, gdb_, or_true, true_or, false_or, or_false, and_true, true_and, and_false, false_and, ifb0, ifb1, eq_self, t0, t1, t2, t3, t4, o10, o01, z139a, Bool.false_eq_true, f_X10_isWrong_L132, bi_f, Q, Q2, hw, a4, Q1]
              exact this
          · have Q2 := eq_false q2
            rw [decide_eq_false (fun w => q2 (w.symm.trans v4)), Bool.false_and, bi_f] at this
            simp (disch := omega) only [md_, jn_, bd_, bdE_, ixl, ix_, llN, lNl, tlN, tNl, eNl, lNN, tNN, eNN, aNl, alN, mlN, nI_add, pk_mul, neg_lt0, if_true, if_false, if_pos, if_neg, up2, uL1, cp2, gdT, gdb_, or_true, true_or, false_or, or_false, and_true, true_and, and_false, false_and, ifb0, ifb1, eq_self, t0, t1, t2, t3, t4, o10, o01, z139a, Bool.false_eq_true, f_X10_isWrong_L132, bi_f, Q, Q2, a4, Q1]
            exact this
        · have hk : otE mc b i = false := decide_eq_false q1
          have Q1 := eq_false (fun w => q1 (w.trans v4.symm) : ¬ mc.1 (4 + b) (4 + i) = mm.1 114 i)
          rw [hk, Bool.not_false, Bool.true_or, bi_t] at this
          simp (disch := omega) only [md_, jn_, bd_, bdE_, ixl, ix_, llN, lNl, tlN, tNl, eNl, lNN, tNN, eNN, aNl, alN, mlN, nI_add, pk_mul, neg_lt0, if_true, if_false, if_pos, if_neg, up2, uL1, cp2, gdT, gdb_, or_true, true_or, false_or, or_false, and_true, true_and, and_false, false_and, ifb0, ifb1, eq_self, t0, t1, t2, t3, t4, o10, o01, z139a, Bool.false_eq_true, f_X10_isWrong_L132, bi_f, Q, a4, Q1]
          exact this
      · have Q := eq_false q
        have q5 : decide (mc.1 36 5 = nI b) = false := decide_eq_false (fun w => q (w.symm.trans v5))
        rw [hu, q5, Bool.false_and, Bool.false_or, Bool.false_or] at this
        by_cases q2 : nI b = mm.1 114 i
        · have Q2 := eq_true q2
          rw [decide_eq_true (v4.trans q2.symm), Bool.true_and] at this
          cases hk2 : pgOk mc b i
          · rw [hk2] at this hw
            rw [Bool.not_false, bi_t] at this hw
            simp (disch := omega) only [md_, jn_, bd_, bdE_, ixl, ix_, llN, lNl, tlN, tNl, eNl, lNN, tNN, eNN, aNl, alN, mlN, nI_add, pk_mul, neg_lt0, if_true, if_false, if_pos, if_neg, up2, uL1, cp2, gdT, gdb_, or_true, true_or, false_or, or_false, and_true, true_and, and_false, false_and, ifb0, ifb1, eq_self, t0, t1, t2, t3, t4, o10, o01, z139a, Bool.false_eq_true, f_X10_isWrong_L132, bi_f, Q, Q2, hw]
            exact this
          · rw [hk2] at this hw
            rw [Bool.not_true, bi_f] at this hw
            simp (disch := omega) only [md_, jn_, bd_, bdE_, ixl, ix_, llN, lNl, tlN, tNl, eNl, lNN, tNN, eNN, aNl, alN, mlN, nI_add, pk_mul, neg_lt0, if_true, if_false, if_pos, if_neg, up2, uL1, cp2, gdT, gdb_, or_true, true_or, false_or, or_false, and_true, true_and, and_false, false_and, ifb0, ifb1, eq_self, t0, t1, t2, t3, t4, o10, o01, z139a, Bool.false_eq_true, f_X10_isWrong_L132, bi_f, Q, Q2, hw]
            exact this
        · have Q2 := eq_false q2
          rw [decide_eq_false (fun w => q2 (w.symm.trans v4)), Bool.false_and, bi_f] at this
          simp (disch := omega) only [md_, jn_, bd_, bdE_, ixl, ix_, llN, lNl, tlN, tNl, eNl, lNN, tNN, eNN, aNl, alN, mlN, nI_add, pk_mul, neg_lt0, if_true, if_false, if_pos, if_neg, up2, uL1, cp2, gdT, gdb_, or_true, true_or, false_or, or_false, and_true, true_and, and_false, false_and, ifb0, ifb1, eq_self, t0, t1, t2, t3, t4, o10, o01, z139a, Bool.false_eq_true, f_X10_isWrong_L132, bi_f, Q, Q2]
          exact this
    · rw [hu, Bool.true_or, Bool.true_or, bi_t] at this
      simp (disch := omega) only [md_, jn_, bd_, bdE_, ixl, ix_, llN, lNl, tlN, tNl, eNl, lNN, tNN, eNN, aNl, alN, mlN, nI_add, pk_mul, neg_lt0, if_true, if_false, if_pos, if_neg, up2, uL1, cp2, gdT, gdb_, or_true, true_or, false_or, or_false, and_true, true_and, and_false, false_and, ifb0, ifb1, eq_self, t0, t1, t2, t3, t4, o10, o01, z139a, Bool.false_eq_true, f_X10_isWrong_L132, bi_t]
      exact this
  · intro x g hx
    subst hx
    simp (disch := omega) only [md_, jn_, bd_, bdE_, ixl, ix_, llN, lNl, tlN, tNl, eNl, lNN, tNN, eNN, aNl, alN, mlN, nI_add, pk_mul, neg_lt0, if_true, if_false, if_pos, if_neg, up2, uL1, cp2, gdT, gdb_, or_true, true_or, false_or, or_false, and_true, true_and, and_false, false_and, ifb0, ifb1, eq_self, t0, t1, t2, t3, t4, o10, o01, z139a, Bool.false_eq_true, f_X10_isWrong_L132]
noncomputable def y_w99 (p1 : Int32) (x3_99 : Int32) (m99_ : sM) : Option (sR Int32) :=
  s_jn (fun (s0_128 : Int32) (m128_ : sM) => s_jn (fun (x3_215 : Int32) (m215_ : sM) => s_gd (x3_215 = 0 ∨ x3_215 = 1) (some (.inl x3_215, m215_))) fun e215_132 => f_X10_isWrong_L132 p1 e215_132 5000 s0_128 0 m128_) fun k128 => s_jn (fun (m123_ : sM) => k128 1 m123_) fun k123 => if x3_99 = 0 then (s_ix 0 3 fun j8 => s_jn (fun (m127_ : sM) => k128 0 m127_) fun k127 => if p1 = (m99_.1 113 j8) then (s_bd (f_X10_at p1 0 m99_) fun r9 m10 => if r9 = 2 then (k127  m10) else (k123  m10)) else (k127  m99_)) else (k123  m99_)
noncomputable def y_w40 (p1 : Int32) (s0_40 : Int32) (m40_ : sM) : Option (sR Int32) :=
  s_jn (y_w99 p1) fun k99 => if p1 = (m40_.1 110 3) then (s_jn (fun (s0_98 : Int32) (m98_ : sM) => k99 s0_98 m98_) fun k98 => s_jn (fun (m93_ : sM) => k98 1 m93_) fun k93 => if s0_40 = 0 then (s_bd (f_X10_at p1 0 m40_) fun r11 m12 => if r11 = 1 then (s_bd (f_X10_at p1 1 m12) fun r13 m14 => s_ix 0 3 fun j15 => if r13 = (m14.1 112 j15) then (s_bd (f_X10_at p1 2 m14) fun r16 m17 => s_ix 0 3 fun j18 => if r16 = (m17.1 113 j18) then (k98 0 m17) else (k93  m17)) else (k93  m14)) else (k93  m12)) else (k93  m40_)) else (k99 s0_40 m40_)
noncomputable def y_w22 (p1 : Int32) (s0_22 : Int32) (m22_ : sM) : Option (sR Int32) :=
  s_jn (y_w40 p1) fun k40 => s_jn (fun (m39_ : sM) => k40 0 m39_) fun k39 => if s0_22 = 0 then (k39  m22_) else (s_bd (f_X10_valid p1 m22_) fun r19 m20 => if r19 = 0 then (k40 1 m20) else (k39  m20))
set_option maxRecDepth 100000 in
set_option maxHeartbeats 1000000 in
theorem y_wE (p1 : Int32) (m : sM) : f_X10_isWrong p1 m = s_jn (y_w22 p1) fun k22 => s_jn (fun (m17_ : sM) => k22 1 m17_) fun k17 => if p1 = (m.1 110 3) then (k17  m) else (s_bd (f_X10_isUsedBy 0 p1 m) fun r21 m22 => if r21 = 0 then (k22 0 m22) else (k17  m22)) := rfl
set_option maxRecDepth 100000 in
set_option maxHeartbeats 1000000 in
theorem q_w99 {mc mm : sM} (h : R mc mm) {b : Nat} (hb : b < 32) (u : Bool) : y_w99 (nI b) (bi u) mm = some (.inl (bi ((u || (decide (mc.1 36 5 = nI b) && !decide (mc.1 (4 + b) 0 = 2))) || wl mc b 8)), mm) := by
  have v5 : mc.1 36 5 = mm.1 113 0 := h.2.2.1.1.2.1
  have h0 := q_wL h hb false
  have h1 := q_wL h hb true
  rw [Bool.false_or, bi_f] at h0
  rw [Bool.true_or, bi_t] at h1
  unfold y_w99
  rw [jn_, jn_]
  cases u
  · rw [if_pos bi_f, ixl _ (by decide) (by decide), jn_, Bool.false_or]
    by_cases q : nI b = mm.1 113 0
    · rw [if_pos q, q_at0 h.1 hb, bd_, decide_eq_true (v5.trans q.symm), Bool.true_and]
      by_cases q2 : mc.1 (4 + b) 0 = 2
      · rw [if_pos q2, decide_eq_true q2, Bool.not_true, Bool.false_or]; exact h0
      · rw [if_neg q2, decide_eq_false q2, Bool.not_false, Bool.true_or, bi_t]; exact h1
    · rw [if_neg q, decide_eq_false (fun w => q (w.symm.trans v5)), Bool.false_and, Bool.false_or]; exact h0
  · rw [if_neg (by decide), Bool.true_or, Bool.true_or, bi_t]; exact h1
def rtOk (m : sM) (b : Nat) : Bool := decide (m.1 (4 + b) 0 = 1) && (decide (m.1 (4 + b) 1 = m.1 36 3) && decide (m.1 (4 + b) 2 = m.1 36 5))
def w99 (m : sM) (b : Nat) (u : Bool) : Bool := (u || (decide (m.1 36 5 = nI b) && !decide (m.1 (4 + b) 0 = 2))) || wl m b 8
set_option maxRecDepth 100000 in
set_option maxHeartbeats 1000000 in
theorem q_w40 {mc mm : sM} (h : R mc mm) {b : Nat} (hb : b < 32) (u : Bool) : y_w40 (nI b) (bi u) mm = some (.inl (bi (w99 mc b (u || (decide (mc.1 36 4 = nI b) && !rtOk mc b)))), mm) := by
  have v4 : mc.1 36 4 = mm.1 110 3 := h.2.2.1.2.1
  have v3 : mc.1 36 3 = mm.1 112 0 := h.2.2.1.1.1
  have v5 : mc.1 36 5 = mm.1 113 0 := h.2.2.1.1.2.1
  have h0 := q_w99 h hb false
  have h1 := q_w99 h hb true
  rw [bi_f] at h0
  rw [bi_t] at h1
  unfold y_w40
  rw [jn_]
  by_cases q : nI b = mm.1 110 3
  · rw [if_pos q, jn_, jn_, decide_eq_true (v4.trans q.symm), Bool.true_and]
    cases u
    · rw [if_pos bi_f, q_at0 h.1 hb, bd_, Bool.false_or]
      unfold rtOk
      by_cases q1 : mc.1 (4 + b) 0 = 1
      · rw [if_pos q1, q_at1 h.1 hb, bd_, ixl _ (by decide) (by decide), decide_eq_true q1, Bool.true_and]
        by_cases q3 : mc.1 (4 + b) 1 = mm.1 112 0
        · rw [if_pos q3, q_at2 h.1 hb, bd_, ixl _ (by decide) (by decide), decide_eq_true (q3.trans v3.symm), Bool.true_and]
          by_cases q5 : mc.1 (4 + b) 2 = mm.1 113 0
          · rw [if_pos q5, decide_eq_true (q5.trans v5.symm)]; exact h0
          · rw [if_neg q5, decide_eq_false (fun w => q5 (w.trans v5))]; exact h1
        · rw [if_neg q3, decide_eq_false (fun w => q3 (w.trans v3)), Bool.false_and]; exact h1
      · rw [if_neg q1, decide_eq_false q1, Bool.false_and]; exact h1
    · rw [if_neg (by decide), Bool.true_or]; exact h1
  · rw [if_neg q, decide_eq_false (fun w => q (w.symm.trans v4)), Bool.false_and, Bool.or_false]
    exact q_w99 h hb u
set_option maxRecDepth 100000 in
set_option maxHeartbeats 1000000 in
theorem q_w22 {mc mm : sM} (h : R mc mm) {b : Nat} (hb : b < 32) (u : Bool) : y_w22 (nI b) (bi u) mm = some (.inl (bi (w99 mc b ((u && !okc mc b) || (decide (mc.1 36 4 = nI b) && !rtOk mc b)))), mm) := by
  have h0 := q_w40 h hb false
  have h1 := q_w40 h hb true
  rw [bi_f] at h0
  rw [bi_t] at h1
  unfold y_w22
  rw [jn_, jn_]
  cases u
  · rw [if_pos bi_f]; exact h0
  · rw [if_neg (by decide), q_okc h.1 hb, bd_, Bool.true_and]
    cases okc mc b
    · rw [if_pos bi_f]; exact h1
    · rw [if_neg (by decide)]; exact h0
set_option maxRecDepth 100000 in
set_option maxHeartbeats 1000000 in
theorem q_wr {mc mm : sM} (h : R mc mm) {b : Nat} (hb : b < 32) : f_X10_isWrong (nI b) mm = some (.inl (bi (w99 mc b (((decide (mc.1 36 4 = nI b) || ub mc 36 b 8) && !okc mc b) || (decide (mc.1 36 4 = nI b) && !rtOk mc b)))), mm) := by
  have v4 : mc.1 36 4 = mm.1 110 3 := h.2.2.1.2.1
  have h0 := q_w22 h hb false
  have h1 := q_w22 h hb true
  rw [bi_f] at h0
  rw [bi_t] at h1
  have hu : f_X10_isUsedBy 0 (nI b) mm = some (.inl (bi (ub mc 36 b 8)), mm) := R_used (w := 0) (by decide) hb h.2.2.1.1
  rw [y_wE, jn_, jn_]
  by_cases q : nI b = mm.1 110 3
  · rw [if_pos q]
    rw [decide_eq_true (v4.trans q.symm)] at h1 ⊢
    rw [Bool.true_or]; exact h1
  · rw [if_neg q, hu, bd_]
    rw [decide_eq_false (fun w => q (w.symm.trans v4))] at h0 h1 ⊢
    rw [Bool.false_or]
    cases ub mc 36 b 8
    · rw [if_pos bi_f]; exact h0
    · rw [if_neg (by decide)]; exact h1
/-! the two agree -/
set_option maxRecDepth 100000 in
set_option maxHeartbeats 1000000 in
theorem wl_no {m : sM} {b : Nat} (h5 : ¬ m.1 36 5 = nI b) : ∀ n, (∀ p, p < n → ¬ m.1 37 p = nI b) → wl m b n = false
  | 0, _ => rfl
  | n + 1, h => by rw [wl, wl_no h5 n (fun p hp => h p (by omega)), decide_eq_false h5, decide_eq_false (h n (by omega))]; rfl
set_option maxRecDepth 100000 in
set_option maxHeartbeats 1000000 in
theorem wl_tab {m : sM} {b : Nat} (h5 : m.1 36 5 = nI b) : ∀ n, (∀ p, p < n → ¬ m.1 37 p = nI b) → wl m b n = !all8 (otE m b) n
  | 0, _ => rfl
  | n + 1, h => by
    rw [wl, wl_tab h5 n (fun p hp => h p (by omega)), decide_eq_true h5, decide_eq_false (h n (by omega)), all8]
    cases all8 (otE m b) n <;> cases otE m b n <;> rfl
set_option maxRecDepth 100000 in
set_option maxHeartbeats 1000000 in
theorem wl_pg {m : sM} {b p : Nat} (h5 : ¬ m.1 36 5 = nI b) (hp : m.1 37 p = nI b) : ∀ n, p < n → (∀ q, q < n → q ≠ p → ¬ m.1 37 q = nI b) → wl m b n = !pgOk m b p
  | 0, h, _ => absurd h (Nat.not_lt_zero _)
  | n + 1, h, hn => by
    rw [wl, decide_eq_false h5, Bool.false_and, Bool.or_false]
    by_cases e : p = n
    · subst e
      rw [wl_no h5 p (fun q hq => hn q (by omega) (by omega)), decide_eq_true hp]
      rfl
    · rw [wl_pg h5 hp n (by omega) (fun q hq hqp => hn q (by omega) hqp), decide_eq_false (hn n (by omega) (fun w => e w.symm)), Bool.false_and, Bool.or_false]
set_option maxRecDepth 100000 in
set_option maxHeartbeats 1000000 in
theorem ub_no {m : sM} {b : Nat} (h5 : ¬ m.1 36 5 = nI b) : ∀ n, (∀ p, p < n → ¬ m.1 37 p = nI b) → ub m 36 b n = false
  | 0, _ => decide_eq_false h5
  | n + 1, h => by
    rw [ub, ub_no h5 n (fun p hp => h p (by omega))]
    exact decide_eq_false (h n (by omega))
set_option maxRecDepth 100000 in
set_option maxHeartbeats 1000000 in
theorem ub_tab {m : sM} {b : Nat} (h5 : m.1 36 5 = nI b) : ∀ n, ub m 36 b n = true
  | 0 => decide_eq_true h5
  | n + 1 => by rw [ub, ub_tab h5 n]; rfl
set_option maxRecDepth 100000 in
set_option maxHeartbeats 1000000 in
theorem ub_pg {m : sM} {b p : Nat} (hp : m.1 37 p = nI b) : ∀ n, p < n → ub m 36 b n = true
  | 0, h => absurd h (Nat.not_lt_zero _)
  | n + 1, h => by
    rw [ub]
    by_cases e : p = n
    · subst e
      rw [show decide (m.1 (36 + 1) p = nI b) = true from decide_eq_true hp, Bool.or_true]
    · rw [ub_pg hp n (by omega)]; rfl
set_option maxRecDepth 100000 in
set_option maxHeartbeats 1000000 in
theorem p_ourR {b : Nat} (m : sM) : f_X8_isOurRoot 36 (4 + b) m = some (.inl (bi (decide (m.1 (4 + b) 1 = m.1 36 3) && decide (m.1 (4 + b) 2 = m.1 36 5))), m) := by
  unfold f_X8_isOurRoot
  rw [ixl _ (by decide) (by decide), jn_, jn_]
  by_cases q : m.1 (4 + b) 1 = m.1 36 3
  · rw [if_pos q, ixl _ (by decide) (by decide), decide_eq_true q, Bool.true_and]
    by_cases q2 : m.1 (4 + b) 2 = m.1 36 5
    · rw [if_pos q2, decide_eq_true q2]; exact gd1 _
    · rw [if_neg q2, decide_eq_false q2]; exact gd0 _
  · rw [if_neg q, decide_eq_false q, Bool.false_and]; exact gd0 _
set_option maxRecDepth 100000 in
set_option maxHeartbeats 1000000 in
theorem p_isWL {b p a3 : Nat} {m : sM} (hp : p < 8) (e0 : m.1 37 p = nI b) (hl : ∀ t, t < p → ¬ m.1 37 t = nI b) (e : Option (sR Int32)) (r : Int32 → Option (sR Int32)) : f_X8_isWrong_L72 36 (nI b) a3 m e r 5000 0 = r (nI p) := by
  refine lpE (fun g i (_ : Unit) => f_X8_isWrong_L72 36 (nI b) a3 m e r g (nI i)) (fun _ _ => True) _ p ?_ ?_ p 0 () 5000 (by omega) (by omega) trivial
  · intro i _ g hi _ ih
    have := ih () trivial
    have hne := eq_false (fun w => hl i hi w.symm : ¬ nI b = m.1 37 i)
    simp (disch := omega) only [md_, jn_, bd_, bdE_, ixl, ix_, llN, lNl, tlN, tNl, eNl, lNN, tNN, eNN, aNl, alN, mlN, nI_add, pk_mul, neg_lt0, if_true, if_false, if_pos, if_neg, up2, uL1, cp2, gdT, gdb_, or_true, true_or, false_or, or_false, and_true, true_and, and_false, false_and, ifb0, ifb1, eq_self, t0, t1, t2, t3, t4, o10, o01, z139a, Bool.false_eq_true, f_X8_isWrong_L72, hne]
    exact this
  · intro _ g _
    have heq := eq_true e0.symm
    simp (disch := omega) only [md_, jn_, bd_, bdE_, ixl, ix_, llN, lNl, tlN, tNl, eNl, lNN, tNN, eNN, aNl, alN, mlN, nI_add, pk_mul, neg_lt0, if_true, if_false, if_pos, if_neg, up2, uL1, cp2, gdT, gdb_, or_true, true_or, false_or, or_false, and_true, true_and, and_false, false_and, ifb0, ifb1, eq_self, t0, t1, t2, t3, t4, o10, o01, z139a, Bool.false_eq_true, f_X8_isWrong_L72, heq]
set_option maxRecDepth 100000 in
set_option maxHeartbeats 1000000 in
theorem p_isWN {b a3 : Nat} {m : sM} (hn : ∀ t, t < 8 → ¬ m.1 37 t = nI b) (e : Option (sR Int32)) (r : Int32 → Option (sR Int32)) : f_X8_isWrong_L72 36 (nI b) a3 m e r 5000 0 = e := by
  refine lpE (fun g i (_ : Unit) => f_X8_isWrong_L72 36 (nI b) a3 m e r g (nI i)) (fun _ _ => True) _ 8 ?_ ?_ 8 0 () 5000 (by omega) (by omega) trivial
  · intro i _ g hi _ ih
    have := ih () trivial
    have hne := eq_false (fun w => hn i hi w.symm : ¬ nI b = m.1 37 i)
    simp (disch := omega) only [md_, jn_, bd_, bdE_, ixl, ix_, llN, lNl, tlN, tNl, eNl, lNN, tNN, eNN, aNl, alN, mlN, nI_add, pk_mul, neg_lt0, if_true, if_false, if_pos, if_neg, up2, uL1, cp2, gdT, gdb_, or_true, true_or, false_or, or_false, and_true, true_and, and_false, false_and, ifb0, ifb1, eq_self, t0, t1, t2, t3, t4, o10, o01, z139a, Bool.false_eq_true, f_X8_isWrong_L72, hne]
    exact this
  · intro _ g _
    simp (disch := omega) only [md_, jn_, bd_, bdE_, ixl, ix_, llN, lNl, tlN, tNl, eNl, lNN, tNN, eNN, aNl, alN, mlN, nI_add, pk_mul, neg_lt0, if_true, if_false, if_pos, if_neg, up2, uL1, cp2, gdT, gdb_, or_true, true_or, false_or, or_false, and_true, true_and, and_false, false_and, ifb0, ifb1, eq_self, t0, t1, t2, t3, t4, o10, o01, z139a, Bool.false_eq_true, f_X8_isWrong_L72]
set_option maxRecDepth 100000 in
set_option maxHeartbeats 1000000 in
theorem R_wrong {mc mm : sM} (h : R mc mm) {b : Nat} (hb : b < 32) : ∃ w : Bool, f_X8_isWrong 36 (nI b) mc = some (.inl (bi w), mc) ∧ f_X10_isWrong (nI b) mm = some (.inl (bi w), mm) := by
  refine ⟨_, ?_, q_wr h hb⟩
  obtain ⟨⟨-, w5, ⟨t, t1, t2, t3⟩, wp, -⟩, -, hr01, -, hpt, hpd⟩ := h.2.2.1
  have ht : mc.1 36 5 = nI t := w5.trans t3
  have hpB : ∀ p, p < 8 → isB (mc.1 37 p) := fun p hp => by rw [(wp p hp).1]; exact (wp p hp).2
  unfold f_X8_isWrong w99
  rw [ix_ _ hb (by decide), Nat.one_mul]
  by_cases q4 : mc.1 36 4 = nI b
  · -- the root
    have hb2 : b < 2 := by
      rcases hr01 with e | e
      · rw [e] at q4
        have : 0 = b := (nI_eq (by decide) (by omega)).mp q4
        omega
      · rw [e] at q4
        have : 1 = b := (nI_eq (by decide) (by omega)).mp q4
        omega
    have h5 : ¬ mc.1 36 5 = nI b := by
      rw [ht]
      intro w
      have := (nI_eq (by omega) (by omega)).mp w
      omega
    have hp : ∀ p, p < 8 → ¬ mc.1 37 p = nI b := fun p hp w => by
      rcases hpB p hp with e | ⟨c, c1, c2, e⟩
      · rw [e] at w; exact nIm1 (by omega) w.symm
      · rw [e] at w
        have := (nI_eq (by omega) (by omega)).mp w
        omega
    rw [if_pos q4.symm, p_valForm hb, bd_, jn_, jn_, decide_eq_true q4, decide_eq_false h5, wl_no h5 8 hp, Bool.true_or, Bool.true_and, Bool.true_and, Bool.false_and, Bool.or_false, Bool.or_false]
    unfold rtOk
    cases okc mc b
    · rw [Bool.false_and, if_pos bi_f]; exact gd1 _
    · rw [Bool.true_and, Bool.not_true, Bool.false_or]
      cases decide (mc.1 (4 + b) 0 = 1)
      · rw [if_pos bi_f]; exact gd1 _
      · rw [if_neg (by decide), p_ourR, bd_, Bool.true_and]
        cases decide (mc.1 (4 + b) 1 = mc.1 36 3) && decide (mc.1 (4 + b) 2 = mc.1 36 5)
        · rw [if_pos bi_f]; exact gd1 _
        · rw [if_neg (by decide)]; exact gd0 _
  rw [if_neg (fun w => q4 w.symm), decide_eq_false q4, Bool.false_or, Bool.false_and, Bool.or_false]
  by_cases q5 : mc.1 36 5 = nI b
  · -- the table
    have hp : ∀ p, p < 8 → ¬ mc.1 37 p = nI b := fun p hp w => hpt p hp (w.trans q5.symm)
    rw [if_pos q5.symm, p_valForm hb, bd_, jn_, jn_, decide_eq_true q5, wl_tab q5 8 hp, ub_tab q5, Bool.true_and, Bool.true_and]
    cases okc mc b
    · rw [Bool.false_and, if_pos bi_f]; exact gd1 _
    · rw [Bool.true_and, Bool.not_true, Bool.false_or]
      cases decide (mc.1 (4 + b) 0 = 2)
      · rw [if_pos bi_f]; exact gd1 _
      · rw [if_neg (by decide), p_ourT, bd_, Bool.not_true, Bool.false_or]
        cases all8 (otE mc b) 8
        · rw [if_pos bi_f]; exact gd1 _
        · rw [if_neg (by decide)]; exact gd0 _
  rw [if_neg (fun w => q5 w.symm), jn_, jn_, decide_eq_false q5, Bool.false_and, Bool.or_false]
  rcases first3 (fun p => mc.1 37 p = nI b) 8 with ⟨p, hp, e0, hl⟩ | hn
  · have hu : ∀ q, q < 8 → q ≠ p → ¬ mc.1 37 q = nI b := fun q hq hqp w => by
      have := hpd q p hq hp hqp (w.trans e0.symm)
      rw [w] at this
      exact nIm1 (by omega) this
    rw [wl_pg q5 e0 8 hp hu, ub_pg e0 8 hp, Bool.true_and, p_isWL hp e0 hl, p_valForm hb, bd_, jn_, jn_]
    unfold pgOk
    cases hok : okc mc b
    · rw [Bool.false_and, if_pos bi_f, Bool.not_false, Bool.true_or]; exact gd1 _
    · rw [Bool.true_and, Bool.not_true, Bool.false_or]
      cases hf3 : decide (mc.1 (4 + b) 0 = 3)
      · rw [if_pos bi_f, Bool.false_and, Bool.false_and, Bool.not_false]; exact gd1 _
      · rw [if_neg (by decide), p_ourP hp, bd_, Bool.true_and, Bool.and_comm]
        cases decide (mc.1 (4 + b) 2 = nI p) && all8 (opE mc b p) 8
        · rw [if_pos bi_f]; exact gd1 _
        · rw [if_neg (by decide)]; exact gd0 _
  · rw [wl_no q5 8 hn, ub_no q5 8 hn, Bool.false_and, Bool.or_false, p_isWN hn]
    rfl
set_option maxRecDepth 100000 in
set_option maxHeartbeats 1000000 in
theorem k_wrongBlock {mc mm : sM} (h : R mc mm) : Agr [eIS] (f_X9_wrongBlock mc) (f_X10_wrongBlock mm) := by
  rcases R_open h with ⟨o1, o2⟩ | ⟨o1, o2⟩
  · have u1 : ¬ (s_up mm 110 0 1).1 110 0 = 0 := by rw [upS]; exact n10
    refine Agr_ex (v := 0) 0 (mc' := mc) (mm' := s_up mm 110 0 1) ?_ ?_ (R_thr h) rfl (upS _ _ _ _)
    · unfold f_X9_wrongBlock; rw [p_openE o1, bdE_]
    · unfold f_X10_wrongBlock
      rw [jn_, if_pos o2]
      dsimp only
      rw [md_, jn_, jn_]
      refine lpE (fun g i (_ : Unit) => f_X10_wrongBlock_L18 _ _ g (nI i) (s_up mm 110 0 1)) (fun _ _ => True) _ 0 (fun i _ g hi => absurd hi (Nat.not_lt_zero i)) ?_ 0 0 () 5000 (by omega) (by omega) trivial
      intro _ g _
      simp (disch := omega) only [md_, jn_, bd_, bdE_, ixl, ix_, llN, lNl, tlN, tNl, eNl, lNN, tNN, eNN, aNl, alN, mlN, nI_add, pk_mul, neg_lt0, if_true, if_false, if_pos, if_neg, up2, uL1, cp2, gdT, gdb_, or_true, true_or, false_or, or_false, and_true, true_and, and_false, false_and, ifb0, ifb1, eq_self, t0, t1, t2, t3, t4, o10, o01, z139a, Bool.false_eq_true, f_X10_wrongBlock_L18, u1, upS]
  have hm := R_thr (t := 0) h
  have u0 : (s_up mm 110 0 0).1 110 0 = 0 := upS _ _ _ _
  have o3 : ¬ mm.1 110 2 = 0 := by rw [o2]; exact n10
  rcases first3 (fun b => f_X8_isWrong 36 (nI b) mc = some (.inl 1, mc)) 32 with ⟨b, hb, e0, hl⟩ | hn
  · have hw : f_X10_isWrong (nI b) (s_up mm 110 0 0) = some (.inl 1, s_up mm 110 0 0) := by
      obtain ⟨w, w1, w2⟩ := R_wrong hm hb
      rw [e0] at w1
      injection w1 with w1
      injection w1 with w1
      injection w1 with w1
      rw [w1]; exact w2
    have hlw : ∀ i, i < b → f_X8_isWrong 36 (nI i) mc = some (.inl 0, mc) ∧ f_X10_isWrong (nI i) (s_up mm 110 0 0) = some (.inl 0, s_up mm 110 0 0) := fun i hi => by
      obtain ⟨w, w1, w2⟩ := R_wrong hm (show i < 32 by omega)
      cases w
      · exact ⟨w1, w2⟩
      · exact absurd w1 (hl i hi)
    refine Agr_ok (v := nI b) (mc' := mc) (mm' := s_up mm 110 0 0) ?_ ?_ hm u0
    · unfold f_X9_wrongBlock
      rw [p_open o1, bd_, jn_, jn_]
      refine lpE (fun g i (_ : Unit) => f_X9_wrongBlock_L6 _ _ g (nI i) mc) (fun _ _ => True) _ b ?_ ?_ b 0 () 5000 (by omega) (by omega) trivial
      · intro i _ g hi _ ih
        have := ih () trivial
        simp (disch := omega) only [md_, jn_, bd_, bdE_, ixl, ix_, llN, lNl, tlN, tNl, eNl, lNN, tNN, eNN, aNl, alN, mlN, nI_add, pk_mul, neg_lt0, if_true, if_false, if_pos, if_neg, up2, uL1, cp2, gdT, gdb_, or_true, true_or, false_or, or_false, and_true, true_and, and_false, false_and, ifb0, ifb1, eq_self, t0, t1, t2, t3, t4, o10, o01, z139a, Bool.false_eq_true, f_X9_wrongBlock_L6, (hlw i hi).1]
        exact this
      · intro _ g _
        simp (disch := omega) only [md_, jn_, bd_, bdE_, ixl, ix_, llN, lNl, tlN, tNl, eNl, lNN, tNN, eNN, aNl, alN, mlN, nI_add, pk_mul, neg_lt0, if_true, if_false, if_pos, if_neg, up2, uL1, cp2, gdT, gdb_, or_true, true_or, false_or, or_false, and_true, true_and, and_false, false_and, ifb0, ifb1, eq_self, t0, t1, t2, t3, t4, o10, o01, z139a, Bool.false_eq_true, f_X9_wrongBlock_L6, e0]
    · unfold f_X10_wrongBlock
      rw [jn_, if_neg o3]
      dsimp only
      rw [md_, jn_, jn_]
      refine lpE (fun g i (_ : Unit) => f_X10_wrongBlock_L18 _ _ g (nI i) (s_up mm 110 0 0)) (fun _ _ => True) _ b ?_ ?_ b 0 () 5000 (by omega) (by omega) trivial
      · intro i _ g hi _ ih
        have := ih () trivial
        simp (disch := omega) only [md_, jn_, bd_, bdE_, ixl, ix_, llN, lNl, tlN, tNl, eNl, lNN, tNN, eNN, aNl, alN, mlN, nI_add, pk_mul, neg_lt0, if_true, if_false, if_pos, if_neg, up2, uL1, cp2, gdT, gdb_, or_true, true_or, false_or, or_false, and_true, true_and, and_false, false_and, ifb0, ifb1, eq_self, t0, t1, t2, t3, t4, o10, o01, z139a, Bool.false_eq_true, f_X10_wrongBlock_L18, u0, (hlw i hi).2]
        exact this
      · intro _ g _
        simp (disch := omega) only [md_, jn_, bd_, bdE_, ixl, ix_, llN, lNl, tlN, tNl, eNl, lNN, tNN, eNN, aNl, alN, mlN, nI_add, pk_mul, neg_lt0, if_true, if_false, if_pos, if_neg, up2, uL1, cp2, gdT, gdb_, or_true, true_or, false_or, or_false, and_true, true_and, and_false, false_and, ifb0, ifb1, eq_self, t0, t1, t2, t3, t4, o10, o01, z139a, Bool.false_eq_true, f_X10_wrongBlock_L18, u0, hw]
  · have hlw : ∀ i, i < 32 → f_X8_isWrong 36 (nI i) mc = some (.inl 0, mc) ∧ f_X10_isWrong (nI i) (s_up mm 110 0 0) = some (.inl 0, s_up mm 110 0 0) := fun i hi => by
      obtain ⟨w, w1, w2⟩ := R_wrong hm hi
      cases w
      · exact ⟨w1, w2⟩
      · exact absurd w1 (hn i hi)
    refine Agr_ok (v := -1) (mc' := mc) (mm' := s_up mm 110 0 0) ?_ ?_ hm u0
    · unfold f_X9_wrongBlock
      rw [p_open o1, bd_, jn_, jn_]
      refine lpE (fun g i (_ : Unit) => f_X9_wrongBlock_L6 _ _ g (nI i) mc) (fun _ _ => True) _ 32 ?_ ?_ 32 0 () 5000 (by omega) (by omega) trivial
      · intro i _ g hi _ ih
        have := ih () trivial
        simp (disch := omega) only [md_, jn_, bd_, bdE_, ixl, ix_, llN, lNl, tlN, tNl, eNl, lNN, tNN, eNN, aNl, alN, mlN, nI_add, pk_mul, neg_lt0, if_true, if_false, if_pos, if_neg, up2, uL1, cp2, gdT, gdb_, or_true, true_or, false_or, or_false, and_true, true_and, and_false, false_and, ifb0, ifb1, eq_self, t0, t1, t2, t3, t4, o10, o01, z139a, Bool.false_eq_true, f_X9_wrongBlock_L6, (hlw i hi).1]
        exact this
      · intro _ g _
        simp (disch := omega) only [md_, jn_, bd_, bdE_, ixl, ix_, llN, lNl, tlN, tNl, eNl, lNN, tNN, eNN, aNl, alN, mlN, nI_add, pk_mul, neg_lt0, if_true, if_false, if_pos, if_neg, up2, uL1, cp2, gdT, gdb_, or_true, true_or, false_or, or_false, and_true, true_and, and_false, false_and, ifb0, ifb1, eq_self, t0, t1, t2, t3, t4, o10, o01, z139a, Bool.false_eq_true, f_X9_wrongBlock_L6]
    · unfold f_X10_wrongBlock
      rw [jn_, if_neg o3]
      dsimp only
      rw [md_, jn_, jn_]
      refine lpE (fun g i (_ : Unit) => f_X10_wrongBlock_L18 _ _ g (nI i) (s_up mm 110 0 0)) (fun _ _ => True) _ 32 ?_ ?_ 32 0 () 5000 (by omega) (by omega) trivial
      · intro i _ g hi _ ih
        have := ih () trivial
        simp (disch := omega) only [md_, jn_, bd_, bdE_, ixl, ix_, llN, lNl, tlN, tNl, eNl, lNN, tNN, eNN, aNl, alN, mlN, nI_add, pk_mul, neg_lt0, if_true, if_false, if_pos, if_neg, up2, uL1, cp2, gdT, gdb_, or_true, true_or, false_or, or_false, and_true, true_and, and_false, false_and, ifb0, ifb1, eq_self, t0, t1, t2, t3, t4, o10, o01, z139a, Bool.false_eq_true, f_X10_wrongBlock_L18, u0, (hlw i hi).2]
        exact this
      · intro _ g _
        simp (disch := omega) only [md_, jn_, bd_, bdE_, ixl, ix_, llN, lNl, tlN, tNl, eNl, lNN, tNN, eNN, aNl, alN, mlN, nI_add, pk_mul, neg_lt0, if_true, if_false, if_pos, if_neg, up2, uL1, cp2, gdT, gdb_, or_true, true_or, false_or, or_false, and_true, true_and, and_false, false_and, ifb0, ifb1, eq_self, t0, t1, t2, t3, t4, o10, o01, z139a, Bool.false_eq_true, f_X10_wrongBlock_L18, u0]
