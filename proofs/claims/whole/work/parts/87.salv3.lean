/-! PURE: salvage, the reference and the relation. -/
def wrM (b key : Nat) (v n : Int32) (y : sM) : sM := s_up (s_up (s_up (s_up y 131 key 1) 132 key v) 133 key n) 134 key (nI b)
set_option maxRecDepth 100000 in
set_option maxHeartbeats 1000000 in
theorem wrC1 (b key : Nat) (v n : Int32) (z : sM) (a j : Nat) : (wrC b key v n z).1 a j = if a = 107 ∧ j = key then nI b else if a = 106 ∧ j = key then n else if a = 105 ∧ j = key then v else z.1 a j := by
  unfold wrC
  rw [up1, up1, up1, uL1]
set_option maxRecDepth 100000 in
set_option maxHeartbeats 1000000 in
theorem wrC2 {b key k : Nat} (hk : k < 64) (hy : key < 64) (v n : Int32) (z : sM) : lb ((wrC b key v n z).2 104 3) k = (lb (z.2 104 3) k || decide (k = key)) := by
  unfold wrC
  rw [up2, up2, up2, uL2, if_pos ⟨rfl, rfl⟩, lb_or, lb_set key hy k hk]
set_option maxRecDepth 100000 in
set_option maxHeartbeats 1000000 in
theorem wrM1 (b key : Nat) (v n : Int32) (y : sM) (a j : Nat) : (wrM b key v n y).1 a j = if a = 134 ∧ j = key then nI b else if a = 133 ∧ j = key then n else if a = 132 ∧ j = key then v else if a = 131 ∧ j = key then 1 else y.1 a j := by
  unfold wrM
  rw [up1, up1, up1, up1]
set_option maxRecDepth 100000 in
set_option maxHeartbeats 1000000 in
theorem wr_rel {b key : Nat} (hy : key < 64) (v n : Int32) {z y : sM} (h : rSalv z y) : rSalv (wrC b key v n z) (wrM b key v n y) := fun k hk => by
  rw [wrC2 hk hy, wrC1, wrC1, wrC1, wrM1, wrM1, wrM1, wrM1]
  have := h k hk
  by_cases q : k = key
  · subst q
    simp (disch := omega) only [md_, jn_, bd_, bdE_, ixl, ix_, llN, lNl, tlN, tNl, eNl, lNN, tNN, eNN, aNl, alN, mlN, nI_add, pk_mul, neg_lt0, if_true, if_false, if_pos, if_neg, up2, uL1, cp2, gdT, gdb_, or_true, true_or, false_or, or_false, and_true, true_and, and_false, false_and, ifb0, ifb1, eq_self, t0, t1, t2, t3, t4, o10, o01, z139a, decide_true, Bool.or_true, bi_t, implies_true]
  · rw [decide_eq_false q, Bool.or_false]
    simp (disch := omega) only [md_, jn_, bd_, bdE_, ixl, ix_, llN, lNl, tlN, tNl, eNl, lNN, tNN, eNN, aNl, alN, mlN, nI_add, pk_mul, neg_lt0, if_true, if_false, if_pos, if_neg, up2, uL1, cp2, gdT, gdb_, or_true, true_or, false_or, or_false, and_true, true_and, and_false, false_and, ifb0, ifb1, eq_self, t0, t1, t2, t3, t4, o10, o01, z139a]
    exact this
set_option maxRecDepth 100000 in
set_option maxHeartbeats 1000000 in
theorem wr_ct {b key : Nat} (hy : key < 64) (v n : Int32) (z : sM) : fb_ct (lb ((wrC b key v n z).2 104 3)) 64 = fb_ct (lb (z.2 104 3)) 64 + (if lb (z.2 104 3) key then 0 else 1) := by
  have e : fb_ct (lb ((wrC b key v n z).2 104 3)) 64 = fb_ct (fun k => if k = key then true else lb (z.2 104 3) k) 64 := fb_ct_cong fun k hk => by
    rw [wrC2 hk hy]
    by_cases q : k = key
    · rw [if_pos q, decide_eq_true q, Bool.or_true]
    · rw [if_neg q, decide_eq_false q, Bool.or_false]
  have u := fb_ct_upd (lb (z.2 104 3)) true hy
  rw [e]
  cases hb : lb (z.2 104 3) key
  · rw [hb] at u; simp only [if_true] at u; simp only [Bool.false_eq_true, if_false] at u ⊢; omega
  · rw [hb] at u; simp only [if_true] at u ⊢; omega
def bet (z : sM) (b pg i : Nat) : Bool := ib (z.1 (4 + b) 3) i && (!lb (z.2 104 3) (pg + 8 * i) || !decide (z.1 (4 + b) 1 ≤ z.1 106 (pg + 8 * i)))
def scM (b pg : Nat) (z y : sM) : Nat → sM
  | 0 => y
  | i + 1 => if bet (scC b pg z i) b pg i then wrM b (pg + 8 * i) ((scC b pg z i).1 (4 + b) (4 + i)) ((scC b pg z i).1 (4 + b) 1) (scM b pg z y i) else scM b pg z y i
set_option maxRecDepth 100000 in
set_option maxHeartbeats 1000000 in
theorem wrM_ag {P : Nat → Nat → Prop} {b key : Nat} {v n : Int32} {m z : sM} (h : ag P m z) (hp : ∀ a j, 131 ≤ a → a < 135 → ¬ P a j) : ag P m (wrM b key v n z) := ag_up (ag_up (ag_up (ag_up h (hp _ _ (by decide) (by decide))) (hp _ _ (by decide) (by decide))) (hp _ _ (by decide) (by decide))) (hp _ _ (by decide) (by decide))
set_option maxRecDepth 100000 in
set_option maxHeartbeats 1000000 in
theorem scM_ag {P : Nat → Nat → Prop} {b pg : Nat} {m z y : sM} (h : ag P m y) (hp : ∀ a j, 131 ≤ a → a < 135 → ¬ P a j) : ∀ i, ag P m (scM b pg z y i)
  | 0 => h
  | i + 1 => by
    rw [scM]
    split
    · exact wrM_ag (scM_ag h hp i) hp
    · exact scM_ag h hp i
set_option maxRecDepth 100000 in
set_option maxHeartbeats 1000000 in
theorem sc_rel {b pg : Nat} (hpg : pg < 8) {z y : sM} (hd : rDisk z y) (hs : rSalv z y) : ∀ i, i ≤ 8 → rDisk (scC b pg z i) (scM b pg z y i) ∧ rSalv (scC b pg z i) (scM b pg z y i)
  | 0, _ => ⟨hd, hs⟩
  | i + 1, hi => by
    refine ⟨rDisk_ag (scC_ag (ag_rf _) (by intro a j h1 h2; omega) _) (scM_ag (ag_rf _) (by intro a j h1 h2; omega) _) hd, ?_⟩
    have ih := (sc_rel (b := b) hpg hd hs i (by omega)).2
    rw [scC, scM, stC, bet]
    split
    · exact wr_rel (by omega) _ _ ih
    · exact ih
set_option maxRecDepth 100000 in
set_option maxHeartbeats 1000000 in
theorem q_scL {b pg : Nat} (hb : b < 32) (hpg : pg < 8) {z y : sM} (hd : rDisk z y) (hs : rSalv z y) (h2 : z.1 (4 + b) 2 = nI pg) (e : Int32 → sM → Option (sR Int32)) : f_X10_salvage_L78 (nI b) 1 e 5000 (nI (fb_ct (lb (z.2 104 3)) 64)) 0 y = e (nI (fb_ct (lb ((scC b pg z 8).2 104 3)) 64)) (scM b pg z y 8) := by
  refine lpE (fun g i (x : Int32 × sM) => f_X10_salvage_L78 (nI b) 1 e g x.1 (nI i) x.2) (fun i x => x = (nI (fb_ct (lb ((scC b pg z i).2 104 3)) 64), scM b pg z y i)) _ 8 ?_ ?_ 8 0 (_, y) 5000 rfl (by decide) rfl
  · intro i x g hi hx ih
    have := ih _ rfl
    subst hx
    obtain ⟨rd, rs⟩ := sc_rel (b := b) hpg hd hs i (by omega)
    have hag := @scC_ag (fun a _ => a = 4 + b) b pg z z (ag_rf _) (by intro a j q1 q2; omega) i
    have e2 : (scC b pg z i).1 (4 + b) 2 = nI pg := ((hag _ 2 rfl).1).trans h2
    have d1 := rd b 1 hb (by decide)
    have d2 := rd b 2 hb (by decide)
    have d3 := rd b 3 hb (by decide)
    have d4 := rd b (4 + i) hb (by omega)
    obtain ⟨s1, s2⟩ := rs (pg + 8 * i) (by omega)
    have hkey : pg + 8 * i < 64 := by omega
    rw [scC, scM] at this
    generalize hz : scC b pg z i = zi at *
    generalize hy : scM b pg z y i = yi at *
    clear hz hy ih
    rw [e2] at d2
    rw [stC, ← bet] at this
    cases hib : ib (zi.1 (4 + b) 3) i
    · have hbt : bet zi b pg i = false := by rw [bet, hib, Bool.false_and]
      rw [hbt, if_neg (by decide), if_neg (by decide)] at this
      have hn : ¬ (((yi.1 111 (13 * b + 3) >>> (nI i &&& 31)) &&& 1) = 1) := by rw [← d3, ib_sh hi, hib]; decide
      simp (disch := omega) only [md_, jn_, bd_, bdE_, ixl, ix_, llN, lNl, tlN, tNl, eNl, lNN, tNN, eNN, aNl, alN, mlN, nI_add, pk_mul, neg_lt0, if_true, if_false, if_pos, if_neg, up2, uL1, cp2, gdT, gdb_, or_true, true_or, false_or, or_false, and_true, true_and, and_false, false_and, ifb0, ifb1, eq_self, t0, t1, t2, t3, t4, o10, o01, z139a, f_X10_salvage_L78, f_X10_at, ← d2, hn]
      exact this
    · have hn : (((yi.1 111 (13 * b + 3) >>> (nI i &&& 31)) &&& 1) = 1) = True := by rw [← d3, ib_sh hi, hib]; exact eq_true rfl
      cases hl : lb (zi.2 104 3) (pg + 8 * i)
      · have hbt : bet zi b pg i = true := by rw [bet, hib, hl]; rfl
        rw [hl, bi_f] at s1
        rw [hbt, if_pos rfl, if_pos rfl, wr_ct hkey, hl, if_neg (by decide), d4, d1] at this
        simp (disch := omega) only [md_, jn_, bd_, bdE_, ixl, ix_, llN, lNl, tlN, tNl, eNl, lNN, tNN, eNN, aNl, alN, mlN, nI_add, pk_mul, neg_lt0, if_true, if_false, if_pos, if_neg, up2, uL1, cp2, gdT, gdb_, or_true, true_or, false_or, or_false, and_true, true_and, and_false, false_and, ifb0, ifb1, eq_self, t0, t1, t2, t3, t4, o10, o01, z139a, f_X10_salvage_L78, f_X10_at, ← d2, hn, s1, up1, nar1]
        exact this
      · have s2 := (s2 hl).2.1
        rw [hl, bi_t] at s1
        by_cases hc : zi.1 (4 + b) 1 ≤ zi.1 106 (pg + 8 * i)
        · have hbt : bet zi b pg i = false := by rw [bet, hib, hl, decide_eq_true hc]; rfl
          rw [hbt, if_neg (by decide), if_neg (by decide)] at this
          rw [d1, s2] at hc
          simp (disch := omega) only [md_, jn_, bd_, bdE_, ixl, ix_, llN, lNl, tlN, tNl, eNl, lNN, tNN, eNN, aNl, alN, mlN, nI_add, pk_mul, neg_lt0, if_true, if_false, if_pos, if_neg, up2, uL1, cp2, gdT, gdb_, or_true, true_or, false_or, or_false, and_true, true_and, and_false, false_and, ifb0, ifb1, eq_self, t0, t1, t2, t3, t4, o10, o01, z139a, f_X10_salvage_L78, f_X10_at, ← d2, hn, s1, hc]
          exact this
        · have hbt : bet zi b pg i = true := by rw [bet, hib, hl, decide_eq_false hc]; rfl
          rw [hbt, if_pos rfl, if_pos rfl, wr_ct hkey, hl, if_pos rfl, d4, d1] at this
          rw [d1, s2] at hc
          simp (disch := omega) only [md_, jn_, bd_, bdE_, ixl, ix_, llN, lNl, tlN, tNl, eNl, lNN, tNN, eNN, aNl, alN, mlN, nI_add, pk_mul, neg_lt0, if_true, if_false, if_pos, if_neg, up2, uL1, cp2, gdT, gdb_, or_true, true_or, false_or, or_false, and_true, true_and, and_false, false_and, ifb0, ifb1, eq_self, t0, t1, t2, t3, t4, o10, o01, z139a, f_X10_salvage_L78, f_X10_at, ← d2, hn, s1, hc, up1, nar1]
          exact this
  · intro x g hx
    subst hx
    simp (disch := omega) only [md_, jn_, bd_, bdE_, ixl, ix_, llN, lNl, tlN, tNl, eNl, lNN, tNN, eNN, aNl, alN, mlN, nI_add, pk_mul, neg_lt0, if_true, if_false, if_pos, if_neg, up2, uL1, cp2, gdT, gdb_, or_true, true_or, false_or, or_false, and_true, true_and, and_false, false_and, ifb0, ifb1, eq_self, t0, t1, t2, t3, t4, o10, o01, z139a, f_X10_salvage_L78]
set_option maxRecDepth 100000 in
set_option maxHeartbeats 1000000 in
theorem q_scL0 {b x : Int32} {y : sM} (e : Int32 → sM → Option (sR Int32)) : f_X10_salvage_L78 b 0 e 5000 x 0 y = e x y := by
  refine lpE (fun g i (z : Int32) => f_X10_salvage_L78 b 0 e g x (nI i) y) (fun i z => i = 0) _ 0 (fun i _ g hi => absurd hi (Nat.not_lt_zero i)) ?_ 0 0 (0 : Int32) 5000 rfl (by decide) rfl
  intro z g hz
  simp (disch := omega) only [md_, jn_, bd_, bdE_, ixl, ix_, llN, lNl, tlN, tNl, eNl, lNN, tNN, eNN, aNl, alN, mlN, nI_add, pk_mul, neg_lt0, if_true, if_false, if_pos, if_neg, up2, uL1, cp2, gdT, gdb_, or_true, true_or, false_or, or_false, and_true, true_and, and_false, false_and, ifb0, ifb1, eq_self, t0, t1, t2, t3, t4, o10, o01, z139a, f_X10_salvage_L78]
def seM (z y : sM) : Nat → sM
  | 0 => y
  | k + 1 => if cnd (seC z k) (2 + k) then scM (2 + k) ((seC z k).1 (4 + (2 + k)) 2).toNatClampNeg (seC z k) (seM z y k) 8 else seM z y k
set_option maxRecDepth 100000 in
set_option maxHeartbeats 1000000 in
theorem seM_ag {P : Nat → Nat → Prop} {m z y : sM} (h : ag P m y) (hp : ∀ a j, 131 ≤ a → a < 135 → ¬ P a j) : ∀ i, ag P m (seM z y i)
  | 0 => h
  | i + 1 => by
    rw [seM]
    split
    · exact scM_ag (seM_ag h hp i) hp 8
    · exact seM_ag h hp i
set_option maxRecDepth 100000 in
set_option maxHeartbeats 1000000 in
theorem cnd_t {z : sM} {b : Nat} (h : cnd z b = true) : ∃ j, j < 8 ∧ z.1 (4 + b) 2 = nI j ∧ (z.1 (4 + b) 2).toNatClampNeg = j := by
  unfold cnd at h
  exact inP_t (Bool.and_eq_true_iff.mp h).2
set_option maxRecDepth 100000 in
set_option maxHeartbeats 1000000 in
theorem se_rel {z y : sM} (hd : rDisk z y) (hs : rSalv z y) : ∀ i, rDisk (seC z i) (seM z y i) ∧ rSalv (seC z i) (seM z y i)
  | 0 => ⟨hd, hs⟩
  | i + 1 => by
    obtain ⟨h1, h2⟩ := se_rel hd hs i
    rw [seC, seM]
    cases hc : cnd (seC z i) (2 + i)
    · exact ⟨h1, h2⟩
    · obtain ⟨j, j1, j2, j3⟩ := cnd_t hc
      rw [if_pos rfl, if_pos rfl, j3]
      exact sc_rel j1 h1 h2 8 (Nat.le_refl _)
set_option maxRecDepth 100000 in
set_option maxHeartbeats 1000000 in
theorem q_seL {N : Nat} (hN : N = 30) {z y : sM} (hd : rDisk z y) (hs : rSalv z y) (e : Int32 → sM → Option (sR Int32)) : f_X10_salvage_L30 e 5000 (nI (fb_ct (lb (z.2 104 3)) 64)) 2 y = e (nI (fb_ct (lb ((seC z N).2 104 3)) 64)) (seM z y N) := by
  rw [show (2 : Int32) = nI (2 + 0) from rfl]
  refine lpE (fun g i (x : Int32 × sM) => f_X10_salvage_L30 e g x.1 (nI (2 + i)) x.2) (fun i x => x = (nI (fb_ct (lb ((seC z i).2 104 3)) 64), seM z y i)) _ N ?_ ?_ N 0 (_, y) 5000 (by omega) (by omega) rfl
  · intro i x g hi hx ih
    have := ih _ rfl
    subst hx
    obtain ⟨rd, rs⟩ := se_rel hd hs i
    rw [seC, seM] at this
    generalize hz : seC z i = zi at *
    generalize hy : seM z y i = yi at *
    clear hz hy ih
    have h32 : ¬ (32 : Int32) ≤ nI (2 + i) := nI_ge (a := 2 + i) (b := 32) (by omega) (by decide)
    have h1 : nI (2 + i) + 1 = nI (2 + (i + 1)) := nI_add _ 1
    have ho := q_okc rd (b := 2 + i) (by omega)
    have d0 := rd (2 + i) 0 (by omega) (by decide)
    have d2 := rd (2 + i) 2 (by omega) (by decide)
    cases hk : okc zi (2 + i)
    · have hcn : cnd zi (2 + i) = false := by rw [cnd, hk]; rfl
      rw [hcn, if_neg (by decide), if_neg (by decide)] at this
      rw [hk] at ho
      simp (disch := omega) only [md_, jn_, bd_, bdE_, ixl, ix_, llN, lNl, tlN, tNl, eNl, lNN, tNN, eNN, aNl, alN, mlN, nI_add, pk_mul, neg_lt0, if_true, if_false, if_pos, if_neg, up2, uL1, cp2, gdT, gdb_, or_true, true_or, false_or, or_false, and_true, true_and, and_false, false_and, ifb0, ifb1, eq_self, t0, t1, t2, t3, t4, o10, o01, z139a, f_X10_salvage_L30, h32, ho, bi_f, q_scL0, h1]
      exact this
    · rw [hk] at ho
      by_cases q0 : zi.1 (4 + (2 + i)) 0 = 3
      · cases hp : inP (zi.1 (4 + (2 + i)) 2)
        · have hcn : cnd zi (2 + i) = false := by rw [cnd, hp, Bool.and_false]
          rw [hcn, if_neg (by decide), if_neg (by decide)] at this
          have hin : f_X10_in (yi.1 111 (13 * (2 + i) + 2)) 0 7 yi = some (.inl 0, yi) := by
            rw [← d2]
            refine q_inF ?_ yi
            unfold inP at hp
            by_cases w : zi.1 (4 + (2 + i)) 2 < 0
            · exact Or.inl w
            · rw [decide_eq_false w, Bool.not_false, Bool.true_and] at hp
              have w2 : nI (7 + 1) ≤ zi.1 (4 + (2 + i)) 2 := by
                by_cases w3 : (8 : Int32) ≤ zi.1 (4 + (2 + i)) 2
                · exact w3
                · rw [decide_eq_false w3] at hp; exact absurd hp (by decide)
              exact Or.inr (ge_gt (by decide) w2)
          rw [d0] at q0
          simp (disch := omega) only [md_, jn_, bd_, bdE_, ixl, ix_, llN, lNl, tlN, tNl, eNl, lNN, tNN, eNN, aNl, alN, mlN, nI_add, pk_mul, neg_lt0, if_true, if_false, if_pos, if_neg, up2, uL1, cp2, gdT, gdb_, or_true, true_or, false_or, or_false, and_true, true_and, and_false, false_and, ifb0, ifb1, eq_self, t0, t1, t2, t3, t4, o10, o01, z139a, f_X10_salvage_L30, h32, ho, bi_t, f_X10_at, q0, hin, q_scL0, h1]
          exact this
        · obtain ⟨pg, hpg, e1, e2⟩ := inP_t hp
          have hcn : cnd zi (2 + i) = true := by rw [cnd, hp, hk, decide_eq_true q0]; rfl
          rw [hcn, if_pos rfl, if_pos rfl, e2] at this
          have hin : f_X10_in (yi.1 111 (13 * (2 + i) + 2)) 0 7 yi = some (.inl 1, yi) := by
            rw [← d2, e1]
            exact q_inA (b := 7) (by omega) (by decide) yi
          rw [d0] at q0
          have hL := q_scL (b := 2 + i) (by omega) hpg rd rs e1
          simp (disch := omega) only [md_, jn_, bd_, bdE_, ixl, ix_, llN, lNl, tlN, tNl, eNl, lNN, tNN, eNN, aNl, alN, mlN, nI_add, pk_mul, neg_lt0, if_true, if_false, if_pos, if_neg, up2, uL1, cp2, gdT, gdb_, or_true, true_or, false_or, or_false, and_true, true_and, and_false, false_and, ifb0, ifb1, eq_self, t0, t1, t2, t3, t4, o10, o01, z139a, f_X10_salvage_L30, h32, ho, bi_t, f_X10_at, q0, hin, hL, h1]
          exact this
      · have hcn : cnd zi (2 + i) = false := by rw [cnd, decide_eq_false q0, Bool.and_false]; rfl
        rw [hcn, if_neg (by decide), if_neg (by decide)] at this
        rw [d0] at q0
        simp (disch := omega) only [md_, jn_, bd_, bdE_, ixl, ix_, llN, lNl, tlN, tNl, eNl, lNN, tNN, eNN, aNl, alN, mlN, nI_add, pk_mul, neg_lt0, if_true, if_false, if_pos, if_neg, up2, uL1, cp2, gdT, gdb_, or_true, true_or, false_or, or_false, and_true, true_and, and_false, false_and, ifb0, ifb1, eq_self, t0, t1, t2, t3, t4, o10, o01, z139a, f_X10_salvage_L30, h32, ho, bi_t, f_X10_at, q0, q_scL0, h1]
        exact this
  · intro x g hx
    subst hx
    have h32 : (32 : Int32) ≤ nI (2 + N) := nI_le (a := 32) (b := 2 + N) (by omega) (by omega)
    show f_X10_salvage_L30 e (g + 1) _ (nI (2 + N)) _ = _
    rw [f_X10_salvage_L30, if_pos h32]
set_option maxRecDepth 100000 in
set_option maxHeartbeats 1000000 in
theorem q_sal0 {m : sM} (e : sM → Option (sR Int32)) : f_X10_salvage_L7 e 5000 0 m = e (x_fil 131 0 64 0 m) := by
  refine lpE (fun g i (z : sM) => f_X10_salvage_L7 e g (nI i) z) (fun i z => z = x_fil 131 0 i 0 m) _ 64 ?_ ?_ 64 0 _ 5000 rfl (by decide) (fil_0 _ _ _ _).symm
  · intro i z g hi hz ih
    have := ih _ rfl
    subst hz
    rw [← fil_s, Nat.zero_add] at this
    simp (disch := omega) only [md_, jn_, bd_, bdE_, ixl, ix_, llN, lNl, tlN, tNl, eNl, lNN, tNN, eNN, aNl, alN, mlN, nI_add, pk_mul, neg_lt0, if_true, if_false, if_pos, if_neg, up2, uL1, cp2, gdT, gdb_, or_true, true_or, false_or, or_false, and_true, true_and, and_false, false_and, ifb0, ifb1, eq_self, t0, t1, t2, t3, t4, o10, o01, z139a, f_X10_salvage_L7, nar0]
    exact this
  · intro z g hz
    subst hz
    simp (disch := omega) only [md_, jn_, bd_, bdE_, ixl, ix_, llN, lNl, tlN, tNl, eNl, lNN, tNN, eNN, aNl, alN, mlN, nI_add, pk_mul, neg_lt0, if_true, if_false, if_pos, if_neg, up2, uL1, cp2, gdT, gdb_, or_true, true_or, false_or, or_false, and_true, true_and, and_false, false_and, ifb0, ifb1, eq_self, t0, t1, t2, t3, t4, o10, o01, z139a, f_X10_salvage_L7]
set_option maxRecDepth 100000 in
set_option maxHeartbeats 1000000 in
theorem k_salvage {mc mm : sM} (h : R mc mm) : Agr [] (f_X9_salvage mc) (f_X10_salvage mm) := by
  obtain ⟨N, hN⟩ : ∃ N : Nat, N = 30 := ⟨30, rfl⟩
  have hm := R_thr (t := 0) h
  let z0 : sM := s_uL mc 104 3 0
  let y0 : sM := x_fil 131 0 64 0 (s_up mm 110 0 0)
  have hd : rDisk z0 y0 := rDisk_ag (ag_uL (ag_rf _) (by omega)) (fil_ag (ag_rf _) (by intro j h1 h2; omega)) hm.1
  have hs : rSalv z0 y0 := fun k hk => by
    have e1 : z0.2 104 3 = 0 := by show (s_uL mc 104 3 0).2 104 3 = 0; rw [uL2, if_pos ⟨rfl, rfl⟩]
    have e2 : y0.1 131 k = 0 := by show (x_fil 131 0 64 0 (s_up mm 110 0 0)).1 131 k = 0; rw [fil1, if_pos (by omega)]
    rw [e1, e2, lb_0]
    exact ⟨rfl, fun q => absurd q (by decide)⟩
  obtain ⟨rd, rs⟩ := se_rel hd hs N
  have hcz : fb_ct (lb (z0.2 104 3)) 64 = 0 := by
    have e1 : z0.2 104 3 = 0 := by show (s_uL mc 104 3 0).2 104 3 = 0; rw [uL2, if_pos ⟨rfl, rfl⟩]
    rw [e1]
    exact fb_ct_zero.mpr fun k _ => lb_0 k
  have hqs := q_seL hN hd hs
  rw [hcz] at hqs
  have hst : (seC z0 N).1 108 = mc.1 108 := by
    funext j
    exact (seC_ag (P := fun a _ => a = 108) (ag_uL (ag_rf mc) (by omega)) (by intro a j h1 h2; omega) N 108 j rfl).1
  have hsm : (seM z0 y0 N).1 130 = mm.1 130 := by
    funext j
    exact (seM_ag (P := fun a _ => a = 130) (z := z0) (y := y0) (m := mm) (fil_ag (ag_up (ag_rf _) (by omega)) (by intro j h1 h2; omega)) (by intro a j h1 h2; omega) N 130 j rfl).1
  have h7 := h.2.2.2.2.2.2.2.2.2.1
  refine Agr_ok (v := nI (fb_ct (lb ((seC z0 N).2 104 3)) 64)) (mc' := s_up (seC z0 N) 108 6 ((seC z0 N).1 108 6 + nI (fb_ct (lb ((seC z0 N).2 104 3)) 64))) (mm' := s_up (seM z0 y0 N) 130 6 ((seM z0 y0 N).1 130 6 + nI (fb_ct (lb ((seC z0 N).2 104 3)) 64))) ?_ ?_ ?_ ?_
  · unfold f_X9_salvage f_X6_scan
    rw [md_, jn_, p_seL hN, bd_, p_bits, bd_, ixl _ (by decide) (by decide), ixl _ (by decide) (by decide), md_]
  · unfold f_X10_salvage
    rw [md_, jn_, q_sal0]
    have e0 : nI 0 = 0 := rfl
    rw [e0] at hqs
    rw [jn_]
    refine (hqs _).trans ?_
    rw [ixl _ (by decide) (by decide), ixl _ (by decide) (by decide), md_]
  · have ac : ∀ {P : Nat → Nat → Prop}, (∀ a j, 104 ≤ a → a ≤ 108 → ¬ P a j) → ag P mc (s_up (seC z0 N) 108 6 ((seC z0 N).1 108 6 + nI (fb_ct (lb ((seC z0 N).2 104 3)) 64))) := fun hp => ag_up (seC_ag (ag_uL (ag_rf mc) (hp _ _ (by decide) (by decide))) (fun a j h1 h2 => hp a j h1 (by omega)) N) (hp _ _ (by decide) (by decide))
    have am : ∀ {P : Nat → Nat → Prop}, (∀ a j, 131 ≤ a ∧ a < 135 ∨ a = 130 ∨ (a = 110 ∧ j = 0) → ¬ P a j) → ag P mm (s_up (seM z0 y0 N) 130 6 ((seM z0 y0 N).1 130 6 + nI (fb_ct (lb ((seC z0 N).2 104 3)) 64))) := fun hp => ag_up (seM_ag (z := z0) (y := y0) (fil_ag (ag_up (ag_rf mm) (hp _ _ (by omega))) (fun j _ _ => hp _ _ (by omega))) (fun a j h1 h2 => hp a j (by omega)) N) (hp _ _ (by omega))
    obtain ⟨h1, h2, h3, h4, h5, h6, h7, h8, h9, h10, h11⟩ := h
    refine ⟨rDisk_ag (ac ?_) (am ?_) h1, rOpen_ag (ac ?_) (am ?_) h2, rPres_ag (ac ?_) (am ?_) h3, rPins_ag (ac ?_) (am ?_) h4, fun s hs => rSlot_ag (ac ?_) (am ?_) (h5 s hs), rOrd_ag (fun a j q => (ac (P := dcOrd) (by intro a j q1 q2; omega) a j q).1) (am ?_) h6, rIn_ag (ac ?_) (am ?_) h7, rOut_ag (ac ?_) (am ?_) h8, rLog_ag (ac ?_) (am ?_) h9, fun i hi => ?_, rSalv_ag (ag_up (ag_rf _) (by omega)) (ag_up (ag_rf _) (by omega)) rs⟩
    case refine_18 =>
      rw [up1, up1, hst, hsm]
      have := h10 i hi
      by_cases q : i = 6
      · subst q
        rw [if_pos ⟨rfl, rfl⟩, if_pos ⟨rfl, rfl⟩, this]
      · rw [if_neg (by omega), if_neg (by omega)]; exact this
    all_goals (intro a j q; omega)
  · rw [up1, if_neg (by omega)]
    exact (seM_ag (P := fun a j => a = 110 ∧ j = 0) (z := z0) (y := y0) (m := s_up mm 110 0 0) (fil_ag (ag_rf _) (by intro j h1 h2; omega)) (by intro a j h1 h2; omega) N 110 0 ⟨rfl, rfl⟩).1.trans (upS _ _ _ _)
