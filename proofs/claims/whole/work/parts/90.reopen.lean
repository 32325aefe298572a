/-! PURE: reopen. -/
set_option maxRecDepth 100000 in
set_option maxHeartbeats 1000000 in
theorem lq1 {β σ : Type} (F : (σ → β) → Nat → Nat → σ → β) (J : Nat → σ → Prop) (n : Nat)
    (step : ∀ i s, i < n → J i s → ∃ s', J (i + 1) s' ∧ ∀ e g, F e (g + 1) i s = F e g (i + 1) s')
    (exit : ∀ e g s, J n s → F e (g + 1) n s = e s) :
    ∀ d i s g, i + d = n → d < g → J i s → ∃ s', J n s' ∧ ∀ e, F e g i s = e s' := by
  intro d
  induction d with
  | zero =>
    intro i s g h1 h2 hJ
    obtain ⟨g, rfl⟩ : ∃ g', g = g' + 1 := ⟨g - 1, by omega⟩
    have : i = n := by omega
    subst this
    exact ⟨s, hJ, fun e => exit e g s hJ⟩
  | succ d ih =>
    intro i s g h1 h2 hJ
    obtain ⟨g, rfl⟩ : ∃ g', g = g' + 1 := ⟨g - 1, by omega⟩
    obtain ⟨s', hJ', he⟩ := step i s (by omega) hJ
    obtain ⟨s2, hJ2, h3⟩ := ih (i + 1) s' g (by omega) (by omega) hJ'
    exact ⟨s2, hJ2, fun e => (he e g).trans (h3 e)⟩
set_option maxRecDepth 100000 in
set_option maxHeartbeats 1000000 in
theorem lq2 {β γ σ τ : Type} (F : (σ → β) → Nat → Nat → σ → β) (G : (τ → γ) → Nat → Nat → τ → γ) (J : Nat → σ → τ → Prop) (n : Nat)
    (step : ∀ i s t, i < n → J i s t → ∃ s' t', J (i + 1) s' t' ∧ (∀ e g, F e (g + 1) i s = F e g (i + 1) s') ∧ (∀ e g, G e (g + 1) i t = G e g (i + 1) t'))
    (exit : ∀ s t, J n s t → (∀ e g, F e (g + 1) n s = e s) ∧ (∀ e g, G e (g + 1) n t = e t)) :
    ∀ d i s t g, i + d = n → d < g → J i s t → ∃ s' t', J n s' t' ∧ (∀ e, F e g i s = e s') ∧ (∀ e, G e g i t = e t') := by
  intro d
  induction d with
  | zero =>
    intro i s t g h1 h2 hJ
    obtain ⟨g, rfl⟩ : ∃ g', g = g' + 1 := ⟨g - 1, by omega⟩
    have : i = n := by omega
    subst this
    exact ⟨s, t, hJ, fun e => (exit s t hJ).1 e g, fun e => (exit s t hJ).2 e g⟩
  | succ d ih =>
    intro i s t g h1 h2 hJ
    obtain ⟨g, rfl⟩ : ∃ g', g = g' + 1 := ⟨g - 1, by omega⟩
    obtain ⟨s', t', hJ', he, he'⟩ := step i s t (by omega) hJ
    obtain ⟨s2, t2, hJ2, h3, h4⟩ := ih (i + 1) s' t' g (by omega) (by omega) hJ'
    exact ⟨s2, t2, hJ2, fun e => (he e g).trans (h3 e), fun e => (he' e g).trans (h4 e)⟩
/-- a block number of the data part -/
def isD (x : Int32) : Bool := !decide (x < 2) && !decide ((32 : Int32) ≤ x)
set_option maxRecDepth 100000 in
set_option maxHeartbeats 1000000 in
theorem isD_f {x : Int32} (h : x < 2 ∨ 32 ≤ x) : isD x = false := by
  unfold isD
  rcases h with h | h
  · rw [decide_eq_true h]; rfl
  · rw [decide_eq_true h, Bool.not_true, Bool.and_false]
set_option maxRecDepth 100000 in
set_option maxHeartbeats 1000000 in
theorem isD_t {b : Nat} (h1 : 2 ≤ b) (h2 : b < 32) : isD (nI b) = true := by
  unfold isD
  have q1 : ¬ nI b < 2 := nI_nlt (a := b) (b := 2) h1 (by omega)
  have q2 : ¬ (32 : Int32) ≤ nI b := nI_ge (a := b) (b := 32) h2 (by decide)
  rw [decide_eq_false q1, decide_eq_false q2]
  rfl
set_option maxRecDepth 100000 in
set_option maxHeartbeats 1000000 in
theorem isD_m1 : isD (-1) = false := by decide
set_option maxRecDepth 100000 in
set_option maxHeartbeats 1000000 in
theorem q_data {b : Nat} (h1 : 2 ≤ b) (h2 : b < 32) (m : sM) : f_X10_isData (nI b) m = some (.inl 1, m) := by
  have e : f_X10_in (nI b) 2 31 m = some (.inl 1, m) := q_in (a := 2) (b := 31) (by omega) (by decide) m h1 (by omega)
  unfold f_X10_isData
  rw [e, bd_]
  exact gd1 _
set_option maxRecDepth 100000 in
set_option maxHeartbeats 1000000 in
theorem q_dataE {x : Int32} (h : x < 2 ∨ 32 ≤ x) (m : sM) : f_X10_isData x m = some (.inl 0, m) := by
  have e : f_X10_in x 2 31 m = some (.inl 0, m) := q_inF (h.elim Or.inl fun q => Or.inr (ge_gt (n := 31) (by decide) q)) m
  unfold f_X10_isData
  rw [e, bd_]
  exact gd0 _
/-- an entry of a page table is usable -/
def enOk (m : sM) (t p : Nat) : Bool := decide (m.1 (4 + t) (4 + p) = -1) || (isD (m.1 (4 + t) (4 + p)) && usp m (m.1 (4 + t) (4 + p)).toNatClampNeg (nI p))
def enAll (m : sM) (t : Nat) : Nat → Bool
  | 0 => true
  | i + 1 => enAll m t i && enOk m t i
set_option maxRecDepth 100000 in
set_option maxHeartbeats 1000000 in
theorem enAll_f {m : sM} {t i : Nat} (h : enOk m t i = false) : ∀ n, i < n → enAll m t n = false
  | 0, hn => absurd hn (Nat.not_lt_zero i)
  | n + 1, hn => by
    rw [enAll]
    by_cases q : i = n
    · subst q; rw [h, Bool.and_false]
    · rw [enAll_f h n (by omega), Bool.false_and]
set_option maxRecDepth 100000 in
set_option maxHeartbeats 1000000 in
theorem enAll_t {m : sM} {t : Nat} : ∀ n, enAll m t n = true → ∀ i, i < n → enOk m t i = true := fun n h i hi => by
  cases q : enOk m t i
  · rw [enAll_f q n hi] at h; exact absurd h (by decide)
  · rfl
def tabOk (m : sM) (x n : Int32) : Bool := isD x && (okc m x.toNatClampNeg && decide (m.1 (4 + x.toNatClampNeg) 0 = 2)) && decide (m.1 (4 + x.toNatClampNeg) 1 = n) && enAll m x.toNatClampNeg 8
def rootOk (m : sM) (r : Nat) : Bool := (okc m r && decide (m.1 (4 + r) 0 = 1)) && (!decide (m.1 (4 + r) 1 < 0) && !decide (999999 < m.1 (4 + r) 1)) && tabOk m (m.1 (4 + r) 2) (m.1 (4 + r) 1)
set_option maxRecDepth 100000 in
set_option maxHeartbeats 1000000 in
theorem p_tabL {t : Nat} (ht : t < 32) (m : sM) (e1 e2 : sM → Option (sR Int32)) : f_X1_isUsableTable_L32 (nI t) e1 e2 5000 0 m = if enAll m t 8 = true then e1 m else e2 m := by
  refine lpE (fun g i (_ : Unit) => f_X1_isUsableTable_L32 (nI t) e1 e2 g (nI i) m) (fun i _ => enAll m t i = true) _ 8 ?_ ?_ 8 0 () 5000 rfl (by decide) rfl
  · intro i _ g hi hA ih
    by_cases hm : m.1 (4 + t) (4 + i) = -1
    · have hk : enOk m t i = true := by unfold enOk; rw [decide_eq_true hm]; rfl
      have := ih () (by rw [enAll, hA, hk]; rfl)
      simp (disch := omega) only [md_, jn_, bd_, bdE_, ixl, ix_, llN, lNl, tlN, tNl, eNl, lNN, tNN, eNN, aNl, alN, mlN, nI_add, pk_mul, neg_lt0, if_true, if_false, if_pos, if_neg, up2, uL1, cp2, gdT, gdb_, or_true, true_or, false_or, or_false, and_true, true_and, and_false, false_and, ifb0, ifb1, eq_self, t0, t1, t2, t3, t4, o10, o01, z139a, f_X1_isUsableTable_L32, Nat.one_mul, hm]
      exact this
    · rcases data_or (m.1 (4 + t) (4 + i)) with hd | ⟨b, b1, b2, hb⟩
      · have hk : enOk m t i = false := by unfold enOk; rw [decide_eq_false hm, isD_f hd]; rfl
        have hu := p_uspE hd (nI i) m
        rw [enAll_f hk 8 hi]
        simp (disch := omega) only [md_, jn_, bd_, bdE_, ixl, ix_, llN, lNl, tlN, tNl, eNl, lNN, tNN, eNN, aNl, alN, mlN, nI_add, pk_mul, neg_lt0, if_true, if_false, if_pos, if_neg, up2, uL1, cp2, gdT, gdb_, or_true, true_or, false_or, or_false, and_true, true_and, and_false, false_and, ifb0, ifb1, eq_self, t0, t1, t2, t3, t4, o10, o01, z139a, f_X1_isUsableTable_L32, Nat.one_mul, hm, hu, Bool.false_eq_true]
      · have hu := p_usp b1 b2 (nI i) m
        cases q : usp m b (nI i)
        · have hk : enOk m t i = false := by unfold enOk; rw [decide_eq_false hm, hb, nI_clamp (by omega), q, Bool.and_false]; rfl
          rw [q] at hu
          rw [hb] at hm
          rw [enAll_f hk 8 hi]
          simp (disch := omega) only [md_, jn_, bd_, bdE_, ixl, ix_, llN, lNl, tlN, tNl, eNl, lNN, tNN, eNN, aNl, alN, mlN, nI_add, pk_mul, neg_lt0, if_true, if_false, if_pos, if_neg, up2, uL1, cp2, gdT, gdb_, or_true, true_or, false_or, or_false, and_true, true_and, and_false, false_and, ifb0, ifb1, eq_self, t0, t1, t2, t3, t4, o10, o01, z139a, f_X1_isUsableTable_L32, Nat.one_mul, hm, hb, hu, bi_f, Bool.false_eq_true]
        · have hk : enOk m t i = true := by unfold enOk; rw [hb, nI_clamp (by omega), q, isD_t b1 b2, Bool.and_true, Bool.or_true]
          rw [q] at hu
          rw [hb] at hm
          have := ih () (by rw [enAll, hA, hk]; rfl)
          simp (disch := omega) only [md_, jn_, bd_, bdE_, ixl, ix_, llN, lNl, tlN, tNl, eNl, lNN, tNN, eNN, aNl, alN, mlN, nI_add, pk_mul, neg_lt0, if_true, if_false, if_pos, if_neg, up2, uL1, cp2, gdT, gdb_, or_true, true_or, false_or, or_false, and_true, true_and, and_false, false_and, ifb0, ifb1, eq_self, t0, t1, t2, t3, t4, o10, o01, z139a, f_X1_isUsableTable_L32, Nat.one_mul, hm, hb, hu, bi_t]
          exact this
  · intro _ g hA
    rw [if_pos hA]
    simp (disch := omega) only [md_, jn_, bd_, bdE_, ixl, ix_, llN, lNl, tlN, tNl, eNl, lNN, tNN, eNN, aNl, alN, mlN, nI_add, pk_mul, neg_lt0, if_true, if_false, if_pos, if_neg, up2, uL1, cp2, gdT, gdb_, or_true, true_or, false_or, or_false, and_true, true_and, and_false, false_and, ifb0, ifb1, eq_self, t0, t1, t2, t3, t4, o10, o01, z139a, f_X1_isUsableTable_L32]
set_option maxRecDepth 100000 in
set_option maxHeartbeats 1000000 in
theorem p_tab (x n : Int32) (m : sM) : f_X1_isUsableTable x n m = some (.inl (bi (tabOk m x n)), m) := by
  unfold f_X1_isUsableTable tabOk
  rcases data_or x with hd | ⟨t, t1, t2, rfl⟩
  · rw [p_dataE hd, bd_, jn_, if_pos rfl, isD_f hd]
    rfl
  · rw [p_data t1 t2, bd_, jn_, if_neg n10, isD_t t1 t2, nI_clamp (by omega), p_valForm t2, bd_]
    cases hv : okc m t && decide (m.1 (4 + t) 0 = 2)
    · rw [if_pos bi_f]
      rfl
    · rw [bi_t, if_neg n10, ix_ _ t2 (by decide), ixl _ (by decide) (by decide), Nat.one_mul]
      by_cases q : m.1 (4 + t) 1 = n
      · rw [if_pos q, jn_, jn_, p_tabL t2, decide_eq_true q]
        cases enAll m t 8
        · rfl
        · rfl
      · rw [if_neg q, decide_eq_false q]
        rfl
set_option maxRecDepth 100000 in
set_option maxHeartbeats 1000000 in
theorem p_root {r : Nat} (hr : r < 32) (m : sM) : f_X1_isUsableRoot (nI r) m = some (.inl (bi (rootOk m r)), m) := by
  unfold f_X1_isUsableRoot rootOk
  rw [ix_ _ hr (by decide), ixl _ (by decide) (by decide), Nat.one_mul, p_valForm hr, bd_, jn_, jn_]
  cases hv : okc m r && decide (m.1 (4 + r) 0 = 1)
  · rw [if_pos bi_f]
    exact gd0 _
  · rw [bi_t, if_neg n10]
    by_cases q1 : m.1 (4 + r) 1 < 0
    · rw [if_pos q1, decide_eq_true q1]
      exact gd0 _
    · rw [if_neg q1, decide_eq_false q1]
      by_cases q2 : 999999 < m.1 (4 + r) 1
      · rw [if_pos q2, decide_eq_true q2]
        exact gd0 _
      · rw [if_neg q2, decide_eq_false q2, ix_ _ hr (by decide), ixl _ (by decide) (by decide), Nat.one_mul, p_tab, bd_]
        cases tabOk m (m.1 (4 + r) 2) (m.1 (4 + r) 1)
        · rw [if_pos bi_f]
          exact gd0 _
        · rw [bi_t, if_neg n10]
          exact gd1 _
set_option maxRecDepth 100000 in
set_option maxHeartbeats 1000000 in
theorem q_tabL {mc mm : sM} (hd : rDisk mc mm) {t : Nat} (ht : t < 32) (u : Bool) : f_X10_isUsable_L96 (nI t) (fun (x3_176 : Int32) (m176_ : sM) => s_gd (x3_176 = 0 ∨ x3_176 = 1) (some (.inl x3_176, m176_))) 5000 (bi u) 0 mm = some (.inl (bi (u && enAll mc t 8)), mm) := by
  refine lpE (fun g i (x : Int32) => f_X10_isUsable_L96 (nI t) _ g x (nI i) mm) (fun i x => x = bi (u && enAll mc t i)) _ 8 ?_ ?_ 8 0 (bi u) 5000 rfl (by decide) (by rw [enAll, Bool.and_true])
  · intro i x g hi hx ih
    have := ih _ rfl
    subst hx
    rw [enAll, ← Bool.and_assoc] at this
    have dv := hd t (4 + i) ht (by omega)
    cases hu : u && enAll mc t i
    · rw [hu, Bool.false_and, bi_f] at this
      simp (disch := omega) only [md_, jn_, bd_, bdE_, ixl, ix_, llN, lNl, tlN, tNl, eNl, lNN, tNN, eNN, aNl, alN, mlN, nI_add, pk_mul, neg_lt0, if_true, if_false, if_pos, if_neg, up2, uL1, cp2, gdT, gdb_, or_true, true_or, false_or, or_false, and_true, true_and, and_false, false_and, ifb0, ifb1, eq_self, t0, t1, t2, t3, t4, o10, o01, z139a, f_X10_isUsable_L96, f_X10_at, bi_f]
      exact this
    · rw [hu, Bool.true_and] at this
      by_cases hm : mc.1 (4 + t) (4 + i) = -1
      · have hk : enOk mc t i = true := by unfold enOk; rw [decide_eq_true hm]; rfl
        rw [hk, bi_t] at this
        rw [dv] at hm
        simp (disch := omega) only [md_, jn_, bd_, bdE_, ixl, ix_, llN, lNl, tlN, tNl, eNl, lNN, tNN, eNN, aNl, alN, mlN, nI_add, pk_mul, neg_lt0, if_true, if_false, if_pos, if_neg, up2, uL1, cp2, gdT, gdb_, or_true, true_or, false_or, or_false, and_true, true_and, and_false, false_and, ifb0, ifb1, eq_self, t0, t1, t2, t3, t4, o10, o01, z139a, f_X10_isUsable_L96, f_X10_at, bi_t, hm]
        exact this
      · rcases data_or (mc.1 (4 + t) (4 + i)) with hdd | ⟨b, b1, b2, hb⟩
        · have hk : enOk mc t i = false := by unfold enOk; rw [decide_eq_false hm, isD_f hdd]; rfl
          have hu2 := q_dataE hdd mm
          rw [hk, bi_f] at this
          rw [dv] at hm hu2
          simp (disch := omega) only [md_, jn_, bd_, bdE_, ixl, ix_, llN, lNl, tlN, tNl, eNl, lNN, tNN, eNN, aNl, alN, mlN, nI_add, pk_mul, neg_lt0, if_true, if_false, if_pos, if_neg, up2, uL1, cp2, gdT, gdb_, or_true, true_or, false_or, or_false, and_true, true_and, and_false, false_and, ifb0, ifb1, eq_self, t0, t1, t2, t3, t4, o10, o01, z139a, f_X10_isUsable_L96, f_X10_at, bi_t, hm, hu2]
          exact this
        · have hu2 := q_data b1 b2 mm
          have ho := q_okc hd b2
          have d0 := hd b 0 b2 (by decide)
          have d2 := hd b 2 b2 (by decide)
          have hk : enOk mc t i = usp mc b (nI i) := by unfold enOk; rw [decide_eq_false hm, hb, nI_clamp (by omega), isD_t b1 b2, Bool.true_and, Bool.false_or]
          rw [hk] at this
          rw [hb] at hm
          rw [dv] at hb
          unfold usp at this
          cases hok : okc mc b
          · rw [hok] at this ho
            rw [Bool.false_and, Bool.false_and, bi_f] at this
            simp (disch := omega) only [md_, jn_, bd_, bdE_, ixl, ix_, llN, lNl, tlN, tNl, eNl, lNN, tNN, eNN, aNl, alN, mlN, nI_add, pk_mul, neg_lt0, if_true, if_false, if_pos, if_neg, up2, uL1, cp2, gdT, gdb_, or_true, true_or, false_or, or_false, and_true, true_and, and_false, false_and, ifb0, ifb1, eq_self, t0, t1, t2, t3, t4, o10, o01, z139a, f_X10_isUsable_L96, f_X10_at, bi_t, bi_f, hb, hm, hu2, ho]
            exact this
          · rw [hok] at this ho
            by_cases q0 : mc.1 (4 + b) 0 = 3
            · rw [decide_eq_true q0] at this
              rw [d0] at q0
              by_cases q2 : mc.1 (4 + b) 2 = nI i
              · rw [decide_eq_true q2, Bool.and_true, Bool.and_true, bi_t] at this
                rw [d2] at q2
                simp (disch := omega) only [md_, jn_, bd_, bdE_, ixl, ix_, llN, lNl, tlN, tNl, eNl, lNN, tNN, eNN, aNl, alN, mlN, nI_add, pk_mul, neg_lt0, if_true, if_false, if_pos, if_neg, up2, uL1, cp2, gdT, gdb_, or_true, true_or, false_or, or_false, and_true, true_and, and_false, false_and, ifb0, ifb1, eq_self, t0, t1, t2, t3, t4, o10, o01, z139a, f_X10_isUsable_L96, f_X10_at, bi_t, hb, hm, hu2, ho, q0, q2]
                exact this
              · rw [decide_eq_false q2, Bool.and_false, bi_f] at this
                rw [d2] at q2
                simp (disch := omega) only [md_, jn_, bd_, bdE_, ixl, ix_, llN, lNl, tlN, tNl, eNl, lNN, tNN, eNN, aNl, alN, mlN, nI_add, pk_mul, neg_lt0, if_true, if_false, if_pos, if_neg, up2, uL1, cp2, gdT, gdb_, or_true, true_or, false_or, or_false, and_true, true_and, and_false, false_and, ifb0, ifb1, eq_self, t0, t1, t2, t3, t4, o10, o01, z139a, f_X10_isUsable_L96, f_X10_at, bi_t, hb, hm, hu2, ho, q0, q2]
                exact this
            · rw [decide_eq_false q0, Bool.and_false, Bool.false_and, bi_f] at this
              rw [d0] at q0
              simp (disch := omega) only [md_, jn_, bd_, bdE_, ixl, ix_, llN, lNl, tlN, tNl, eNl, lNN, tNN, eNN, aNl, alN, mlN, nI_add, pk_mul, neg_lt0, if_true, if_false, if_pos, if_neg, up2, uL1, cp2, gdT, gdb_, or_true, true_or, false_or, or_false, and_true, true_and, and_false, false_and, ifb0, ifb1, eq_self, t0, t1, t2, t3, t4, o10, o01, z139a, f_X10_isUsable_L96, f_X10_at, bi_t, hb, hm, hu2, ho, q0]
              exact this
  · intro x g hx
    subst hx
    simp (disch := omega) only [md_, jn_, bd_, bdE_, ixl, ix_, llN, lNl, tlN, tNl, eNl, lNN, tNN, eNN, aNl, alN, mlN, nI_add, pk_mul, neg_lt0, if_true, if_false, if_pos, if_neg, up2, uL1, cp2, gdT, gdb_, or_true, true_or, false_or, or_false, and_true, true_and, and_false, false_and, ifb0, ifb1, eq_self, t0, t1, t2, t3, t4, o10, o01, z139a, f_X10_isUsable_L96]
set_option maxRecDepth 100000 in
set_option maxHeartbeats 1000000 in
theorem q_root {mc mm : sM} (hd : rDisk mc mm) {r : Nat} (hr : r < 32) : f_X10_isUsable (nI r) mm = some (.inl (bi (rootOk mc r)), mm) := by
  have ho := q_okc hd hr
  have d0 := hd r 0 hr (by decide)
  have d1 := hd r 1 hr (by decide)
  have d2 := hd r 2 hr (by decide)
  have a0 : f_X10_at (nI r) 0 mm = some (.inl (mc.1 (4 + r) 0), mm) := by simp (disch := omega) only [md_, jn_, bd_, bdE_, ixl, ix_, llN, lNl, tlN, tNl, eNl, lNN, tNN, eNN, aNl, alN, mlN, nI_add, pk_mul, neg_lt0, if_true, if_false, if_pos, if_neg, up2, uL1, cp2, gdT, gdb_, or_true, true_or, false_or, or_false, and_true, true_and, and_false, false_and, ifb0, ifb1, eq_self, t0, t1, t2, t3, t4, o10, o01, z139a, f_X10_at, d0]
  have a1 : f_X10_at (nI r) 1 mm = some (.inl (mc.1 (4 + r) 1), mm) := by simp (disch := omega) only [md_, jn_, bd_, bdE_, ixl, ix_, llN, lNl, tlN, tNl, eNl, lNN, tNN, eNN, aNl, alN, mlN, nI_add, pk_mul, neg_lt0, if_true, if_false, if_pos, if_neg, up2, uL1, cp2, gdT, gdb_, or_true, true_or, false_or, or_false, and_true, true_and, and_false, false_and, ifb0, ifb1, eq_self, t0, t1, t2, t3, t4, o10, o01, z139a, f_X10_at, d1]
  have a2 : f_X10_at (nI r) 2 mm = some (.inl (mc.1 (4 + r) 2), mm) := by simp (disch := omega) only [md_, jn_, bd_, bdE_, ixl, ix_, llN, lNl, tlN, tNl, eNl, lNN, tNN, eNN, aNl, alN, mlN, nI_add, pk_mul, neg_lt0, if_true, if_false, if_pos, if_neg, up2, uL1, cp2, gdT, gdb_, or_true, true_or, false_or, or_false, and_true, true_and, and_false, false_and, ifb0, ifb1, eq_self, t0, t1, t2, t3, t4, o10, o01, z139a, f_X10_at, d2]
  unfold f_X10_isUsable rootOk
  rw [ho, bd_, jn_]
  cases hok : okc mc r
  · rw [if_pos bi_f]
    rfl
  · rw [bi_t, if_neg n10, a0, bd_]
    by_cases q0 : mc.1 (4 + r) 0 = 1
    case neg => rw [if_neg q0, decide_eq_false q0]; rfl
    rw [if_pos q0, decide_eq_true q0, a1, bd_]
    by_cases q1 : mc.1 (4 + r) 1 < 0
    · rw [q_inF (Or.inl q1), bd_, if_pos rfl, decide_eq_true q1]
      rfl
    by_cases q2 : 999999 < mc.1 (4 + r) 1
    · rw [q_inF (Or.inr q2), bd_, if_pos rfl, decide_eq_true q2, decide_eq_false q1]
      rfl
    rw [q_inT q1 q2, bd_, if_neg n10, a2, bd_, decide_eq_false q1, decide_eq_false q2]
    unfold tabOk
    rcases data_or (mc.1 (4 + r) 2) with hdd | ⟨t, t1, t2, ht⟩
    · rw [q_dataE hdd, bd_, if_pos rfl, isD_f hdd]
      rfl
    have ho2 := q_okc hd t2
    have e0 := hd t 0 t2 (by decide)
    have e1 := hd t 1 t2 (by decide)
    have b0 : f_X10_at (nI t) 0 mm = some (.inl (mc.1 (4 + t) 0), mm) := by simp (disch := omega) only [md_, jn_, bd_, bdE_, ixl, ix_, llN, lNl, tlN, tNl, eNl, lNN, tNN, eNN, aNl, alN, mlN, nI_add, pk_mul, neg_lt0, if_true, if_false, if_pos, if_neg, up2, uL1, cp2, gdT, gdb_, or_true, true_or, false_or, or_false, and_true, true_and, and_false, false_and, ifb0, ifb1, eq_self, t0, t1, t2, t3, t4, o10, o01, z139a, f_X10_at, e0]
    have b1 : f_X10_at (nI t) 1 mm = some (.inl (mc.1 (4 + t) 1), mm) := by simp (disch := omega) only [md_, jn_, bd_, bdE_, ixl, ix_, llN, lNl, tlN, tNl, eNl, lNN, tNN, eNN, aNl, alN, mlN, nI_add, pk_mul, neg_lt0, if_true, if_false, if_pos, if_neg, up2, uL1, cp2, gdT, gdb_, or_true, true_or, false_or, or_false, and_true, true_and, and_false, false_and, ifb0, ifb1, eq_self, t0, t1, t2, t3, t4, o10, o01, z139a, f_X10_at, e1]
    rw [ht, q_data t1 t2, bd_, if_neg n10, a2, bd_, ht, ho2, bd_, jn_, jn_, isD_t t1 t2, nI_clamp (by omega)]
    have hF := q_tabL hd t2 false
    have hT := q_tabL hd t2 true
    rw [Bool.false_and] at hF
    cases hok2 : okc mc t
    · rw [if_pos bi_f]
      exact hF
    · rw [bi_t, if_neg n10, b0, bd_]
      by_cases q3 : mc.1 (4 + t) 0 = 2
      · rw [if_pos q3, b1, bd_, a1, bd_, decide_eq_true q3]
        by_cases q4 : mc.1 (4 + t) 1 = mc.1 (4 + r) 1
        · rw [if_pos q4, decide_eq_true q4]
          exact hT
        · rw [if_neg q4, decide_eq_false q4]
          exact hF
      · rw [if_neg q3, decide_eq_false q3]
        exact hF
