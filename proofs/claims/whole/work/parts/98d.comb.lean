/-! PURE: a commit's preparation, the reference; the two agree. -/
def rH (m : sM) (o : Nat → Nat) : Nat → Nat → Bool
  | 0, k => lb (m.2 36 2) k
  | i + 1, k => if lb (m.2 (54 + 10 * o i + 1) 1) k = true then !lb (m.2 (54 + 10 * o i + 1) 2) k else rH m o i k
def rV (m : sM) (o : Nat → Nat) : Nat → Nat → Int32
  | 0, k => m.1 116 k
  | i + 1, k => if lb (m.2 (54 + 10 * o i + 1) 1) k = true then m.1 121 (64 * o i + k) else rV m o i k
-- remark: what the ready slots are on both sides
def RdyS (mc mm : sM) (n : Nat) (o : Nat → Nat) : Prop := n ≤ 3 ∧ mc.1 0 7 = nI n ∧ mm.1 110 19 = nI n ∧ ∀ i, i < n → o i < 3 ∧ mc.1 84 i = nI (o i) ∧ mm.1 126 i = nI (o i) ∧ ∀ k, k < 64 → mm.1 119 (64 * o i + k) = bi (lb (mc.2 (54 + 10 * o i + 1) 1) k) ∧
  (lb (mc.2 (54 + 10 * o i + 1) 2) k = true → lb (mc.2 (54 + 10 * o i + 1) 1) k = true) ∧ (lb (mc.2 (54 + 10 * o i + 1) 1) k = true → mm.1 120 (64 * o i + k) = bi (lb (mc.2 (54 + 10 * o i + 1) 2) k)) ∧
  (lb (mc.2 (54 + 10 * o i + 1) 1) k = true → lb (mc.2 (54 + 10 * o i + 1) 2) k = false → mc.1 (54 + 10 * o i + 1 + 1) k = mm.1 121 (64 * o i + k))
set_option maxRecDepth 100000 in
set_option maxHeartbeats 1000000 in
theorem R_rdy {mc mm : sM} (h : R mc mm) : ∃ n o, RdyS mc mm n o ∧ (∀ i j, i < n → j < n → o i = o j → i = j) ∧ (∀ i, i < n → mc.1 (54 + 10 * o i) 3 = 2) ∧ (∀ s, s < 3 → mc.1 (54 + 10 * s) 3 = 2 → ∃ i, i < n ∧ o i = s) := by
  obtain ⟨n, o, n3, h1, h2, h3, h4, h5⟩ := h.2.2.2.2.2.1
  refine ⟨n, o, ⟨n3, h1, h2, fun i hi => ?_⟩, h4, fun i hi => (h3 i hi).2.2.2, h5⟩
  obtain ⟨q1, q2, q3, -⟩ := h3 i hi
  refine ⟨q1, q2, q3, fun k hk => ?_⟩
  obtain ⟨w1, -, w3, w4, w5⟩ := rSlot_c (R_sl h q1) k hk
  exact ⟨w1, w3, w4, w5⟩
set_option maxRecDepth 100000 in
set_option maxHeartbeats 1000000 in
theorem RdyS_ag {mc mm mm' : sM} {n : Nat} {o : Nat → Nat} (h : RdyS mc mm n o) (ha : ag (fun a j => (a = 110 ∧ j = 19) ∨ a = 119 ∨ a = 120 ∨ a = 121 ∨ a = 126) mm mm') : RdyS mc mm' n o := by
  obtain ⟨n3, h1, h2, h3⟩ := h
  refine ⟨n3, h1, ((ha 110 19 (by omega)).1).trans h2, fun i hi => ?_⟩
  obtain ⟨q1, q2, q3, q4⟩ := h3 i hi
  refine ⟨q1, q2, ((ha 126 i (by omega)).1).trans q3, fun k hk => ?_⟩
  rw [(ha 119 _ (by omega)).1, (ha 120 _ (by omega)).1, (ha 121 _ (by omega)).1]
  exact q4 k hk
-- remark: of both sides: the same keys, the same values
set_option maxRecDepth 100000 in
set_option maxHeartbeats 1000000 in
theorem nH_rH {mc mm : sM} {n : Nat} {o : Nat → Nat} (h : RdyS mc mm n o) {k : Nat} (hk : k < 64) : nH mc o n k = rH mc o n k := by
  have key : ∀ i, i ≤ n → nH mc o i k = rH mc o i k := by
    intro i
    induction i with
    | zero =>
      intro _
      show (if false = true then false else (false || lb (mc.2 36 2) k)) = lb (mc.2 36 2) k
      rw [if_neg (by decide), Bool.false_or]
    | succ i ih =>
      intro hi
      have ih := ih (by omega)
      obtain ⟨-, w3, -, -⟩ := (h.2.2.2 i (by omega)).2.2.2 k hk
      unfold nH at ih ⊢
      rw [cR, cT, rH]
      cases hT : lb (mc.2 (54 + 10 * o i + 1) 1) k
      · have hR : lb (mc.2 (54 + 10 * o i + 1) 2) k = false := by
          cases q : lb (mc.2 (54 + 10 * o i + 1) 2) k
          · rfl
          · rw [w3 q] at hT; exact absurd hT (by decide)
        rw [hR, Bool.false_or, Bool.not_false, Bool.and_true, Bool.or_false, if_neg (show ¬ (false = true) by decide)]
        exact ih
      · cases hR : lb (mc.2 (54 + 10 * o i + 1) 2) k
        · rw [Bool.false_or, Bool.not_true, Bool.and_false, Bool.or_true, Bool.true_or]
          rfl
        · rw [Bool.true_or]
          rfl
  exact key n (Nat.le_refl _)
set_option maxRecDepth 100000 in
set_option maxHeartbeats 1000000 in
theorem nV_rV {mc mm : sM} {n : Nat} {o : Nat → Nat} (h : RdyS mc mm n o) {k : Nat} (hk : k < 64) (h0 : lb (mc.2 36 2) k = true → mc.1 38 k = mm.1 116 k) (w : sM) (hw : ∀ a j, a = 116 ∨ a = 121 → w.1 a j = mm.1 a j) (hw2 : ∀ i, i < n → w.2 (54 + 10 * o i + 1) = mc.2 (54 + 10 * o i + 1)) : nH mc o n k = true → nV mc o n k = rV w o n k := by
  have key : ∀ i, i ≤ n → cR mc o i k = true ∨ (cR mc o i k = false ∧ cT mc o i k = true ∧ cV mc o i k = rV w o i k) ∨ (cR mc o i k = false ∧ cT mc o i k = false ∧ (lb (mc.2 36 2) k = true → mc.1 38 k = rV w o i k)) := by
    intro i
    induction i with
    | zero =>
      intro _
      refine Or.inr (Or.inr ⟨rfl, rfl, fun q => ?_⟩)
      rw [rV, hw 116 k (Or.inl rfl)]
      exact h0 q
    | succ i ih =>
      intro hi
      have ih := ih (by omega)
      obtain ⟨-, w3, -, w5⟩ := (h.2.2.2 i (by omega)).2.2.2 k hk
      rw [cR, cT, cV, rV, hw2 i (by omega), hw 121 _ (Or.inr rfl)]
      cases hT : lb (mc.2 (54 + 10 * o i + 1) 1) k
      · have hR : lb (mc.2 (54 + 10 * o i + 1) 2) k = false := by
          cases q : lb (mc.2 (54 + 10 * o i + 1) 2) k
          · rfl
          · rw [w3 q] at hT; exact absurd hT (by decide)
        rw [hR, Bool.false_or, Bool.not_false, Bool.and_true, Bool.or_false, Bool.and_true, if_neg (show ¬ (false = true) by decide), if_neg (show ¬ (false = true) by decide)]
        exact ih
      · cases hR : lb (mc.2 (54 + 10 * o i + 1) 2) k
        · refine Or.inr (Or.inl ⟨?_, ?_, ?_⟩)
          · rw [Bool.not_true, Bool.and_false]; rfl
          · rw [Bool.or_true]
          · rw [if_pos (show (true && !false) = true by decide), if_pos rfl]; exact w5 hT hR
        · exact Or.inl rfl
  intro hn
  unfold nH at hn
  unfold nV
  rcases key n (Nat.le_refl _) with q | ⟨q1, q2, q3⟩ | ⟨q1, q2, q3⟩
  · rw [q, if_pos rfl] at hn; exact absurd hn (by decide)
  · rw [q1, q2, if_pos (by decide)]; exact q3
  · rw [q1, q2, if_neg (by decide), Bool.false_or] at hn
    rw [q1, q2, if_neg (by decide)]; exact q3 hn
def aff (m : sM) (o : Nat → Nat) (n : Nat) : Nat → Nat → Bool
  | 0, _ => false
  | k + 1, p => aff m o n k p || (decide (k % 8 = p) && cT m o n k)
set_option maxRecDepth 100000 in
set_option maxHeartbeats 1000000 in
theorem aff_t {m : sM} {o : Nat → Nat} {n p : Nat} : ∀ k, aff m o n k p = true ↔ ∃ j, j < k ∧ j % 8 = p ∧ cT m o n j = true
  | 0 => ⟨fun h => absurd h Bool.false_ne_true, fun ⟨j, h, _⟩ => absurd h (Nat.not_lt_zero _)⟩
  | k + 1 => by
    rw [aff, Bool.or_eq_true_iff, Bool.and_eq_true_iff, aff_t k, decide_eq_true_iff]
    constructor
    · rintro (⟨j, h1, h2⟩ | ⟨h1, h2⟩)
      · exact ⟨j, by omega, h2⟩
      · exact ⟨k, by omega, h1, h2⟩
    · rintro ⟨j, h1, h2, h3⟩
      by_cases e : j = k
      · subst e; exact Or.inr ⟨h2, h3⟩
      · exact Or.inl ⟨j, by omega, h2, h3⟩
def any8 (f : Nat → Bool) : Nat → Bool
  | 0 => false
  | i + 1 => any8 f i || f i
set_option maxRecDepth 100000 in
set_option maxHeartbeats 1000000 in
theorem any8_t {f : Nat → Bool} : ∀ n, any8 f n = true ↔ ∃ i, i < n ∧ f i = true
  | 0 => ⟨fun h => absurd h Bool.false_ne_true, fun ⟨j, h, _⟩ => absurd h (Nat.not_lt_zero _)⟩
  | n + 1 => by
    rw [any8, Bool.or_eq_true_iff, any8_t n]
    constructor
    · rintro (⟨j, h1, h2⟩ | h)
      · exact ⟨j, by omega, h2⟩
      · exact ⟨n, by omega, h⟩
    · rintro ⟨j, h1, h2⟩
      by_cases e : j = n
      · subst e; exact Or.inr h2
      · exact Or.inl ⟨j, by omega, h2⟩
set_option maxRecDepth 100000 in
set_option maxHeartbeats 1000000 in
theorem any8_cong {f g : Nat → Bool} : ∀ {n : Nat}, (∀ i, i < n → f i = g i) → any8 f n = any8 g n
  | 0, _ => rfl
  | n + 1, h => by rw [any8, any8, any8_cong (fun i hi => h i (by omega)), h n (by omega)]
set_option maxRecDepth 100000 in
set_option maxHeartbeats 1000000 in
theorem aff_any {m : sM} {o : Nat → Nat} {n p : Nat} (hp : p < 8) : aff m o n 64 p = any8 (fun i => cT m o n (p + 8 * i)) 8 := by
  apply Bool.eq_iff_iff.mpr
  rw [aff_t, any8_t]
  constructor
  · rintro ⟨j, h1, h2, h3⟩
    exact ⟨j / 8, by omega, by rw [show p + 8 * (j / 8) = j by omega]; exact h3⟩
  · rintro ⟨i, h1, h2⟩
    exact ⟨p + 8 * i, by omega, by omega, h2⟩
set_option maxRecDepth 100000 in
set_option maxHeartbeats 1000000 in
theorem q_combIn {mc y0 : sM} {n : Nat} {o : Nat → Nat} (h : RdyS mc y0 n o) {k : Nat} (hk : k < 64) {v0 : Int32} {A : Nat → Bool} (h136 : y0.1 136 k = bi (lb (mc.2 36 2) k)) (h137 : y0.1 137 k = v0) (h135 : ∀ p, p < 8 → y0.1 135 p = bi (A p)) :
    ∃ y, (∀ e, f_X10_combine_L55 (nI k) e 5000 0 y0 = e y) ∧ ag (fun a j => ¬ ((a = 136 ∨ a = 137) ∧ j = k) ∧ ¬ (a = 135 ∧ j < 8)) y0 y ∧ y.1 136 k = bi (rH mc o n k) ∧ y.1 137 k = (if cT mc o n k = true then rV (y0.1, mc.2) o n k else v0) ∧ ∀ p, p < 8 → y.1 135 p = bi (A p || (decide (k % 8 = p) && cT mc o n k)) := by
  have hrem : nI k - nI k / 8 * 8 = nI (k % 8) := pk_rem (d := 8) (by omega) (by decide) (by decide)
  refine Exists.elim (lq1 (fun e g i (y : sM) => f_X10_combine_L55 (nI k) e g (nI i) y) (fun i y => ag (fun a j => ¬ ((a = 136 ∨ a = 137) ∧ j = k) ∧ ¬ (a = 135 ∧ j < 8)) y0 y ∧ y.1 136 k = bi (rH mc o i k) ∧ y.1 137 k = (if cT mc o i k = true then rV (y0.1, mc.2) o i k else v0) ∧ ∀ p, p < 8 → y.1 135 p = bi (A p || (decide (k % 8 = p) && cT mc o i k))) n ?_ ?_ n 0 y0 5000 (by omega) (by have := h.1; omega)
    ⟨ag_rf _, h136, by rw [h137]; exact (if_neg (by rw [cT]; decide)).symm, fun p hp => by rw [h135 p hp, cT, Bool.and_false, Bool.or_false]⟩) ?_
  rotate_right
  · rintro y ⟨⟨g1, g2, g3, g4⟩, he⟩
    exact ⟨y, he, g1, g2, g3, g4⟩
  · rintro i y hi ⟨j1, j2, j3, j4⟩
    obtain ⟨n3, -, y19, hr⟩ := h
    obtain ⟨o3, -, y126, hs⟩ := hr i hi
    obtain ⟨w1, w3, w4, w5⟩ := hs k hk
    have z19 : y.1 110 19 = nI n := ((j1 110 19 (by omega)).1).trans y19
    have z126 : y.1 126 i = nI (o i) := ((j1 126 i (by omega)).1).trans y126
    have z119 : y.1 119 (64 * o i + k) = y0.1 119 (64 * o i + k) := (j1 119 _ (by omega)).1
    have z120 : y.1 120 (64 * o i + k) = y0.1 120 (64 * o i + k) := (j1 120 _ (by omega)).1
    have z121 : ∀ x, (s_up y 136 k x).1 121 (64 * o i + k) = y0.1 121 (64 * o i + k) := fun x => by rw [up1, if_neg (by omega)]; exact (j1 121 _ (by omega)).1
    rw [w1] at z119
    cases hT : lb (mc.2 (54 + 10 * o i + 1) 1) k
    · rw [hT] at z119
      refine ⟨y, ⟨j1, ?_, ?_, fun p hp => ?_⟩, fun e g => ?_⟩
      · rw [j2, rH, hT, if_neg (by decide)]
      · rw [j3, cT, rV]
        show _ = if (cT mc o i k || lb (mc.2 (54 + 10 * o i + 1) 1) k) = true then (if lb (mc.2 (54 + 10 * o i + 1) 1) k = true then _ else _) else v0
        rw [hT, Bool.or_false, if_neg (show ¬ (false = true) by decide)]
      · rw [j4 p hp, cT, hT, Bool.or_false]
      · simp (disch := omega) only [md_, jn_, bd_, bdE_, ixl, ix_, llN, lNl, tlN, tNl, eNl, lNN, tNN, eNN, aNl, alN, mlN, nI_add, pk_mul, neg_lt0, if_true, if_false, if_pos, if_neg, up2, uL1, cp2, gdT, gdb_, or_true, true_or, false_or, or_false, and_true, true_and, and_false, false_and, ifb0, ifb1, eq_self, t0, t1, t2, t3, t4, o10, o01, z139a, Bool.false_eq_true, f_X10_combine_L55, z19, z126, z119, bi_f]
    · rw [hT] at z119
      have w4 := w4 hT
      rw [w4] at z120
      have fin : ∀ x : Int32, x = bi (!lb (mc.2 (54 + 10 * o i + 1) 2) k) → ag (fun a j => ¬ ((a = 136 ∨ a = 137) ∧ j = k) ∧ ¬ (a = 135 ∧ j < 8)) y0 (s_up (s_up (s_up y 136 k x) 137 k (y0.1 121 (64 * o i + k))) 135 (k % 8) 1) ∧ (s_up (s_up (s_up y 136 k x) 137 k (y0.1 121 (64 * o i + k))) 135 (k % 8) 1).1 136 k = bi (rH mc o (i + 1) k) ∧ (s_up (s_up (s_up y 136 k x) 137 k (y0.1 121 (64 * o i + k))) 135 (k % 8) 1).1 137 k = (if cT mc o (i + 1) k = true then rV (y0.1, mc.2) o (i + 1) k else v0) ∧ ∀ p, p < 8 → (s_up (s_up (s_up y 136 k x) 137 k (y0.1 121 (64 * o i + k))) 135 (k % 8) 1).1 135 p = bi (A p || (decide (k % 8 = p) && cT mc o (i + 1) k)) := fun x hx => by
        refine ⟨ag_up (ag_up (ag_up j1 (by omega)) (by omega)) (by omega), ?_, ?_, fun p hp => ?_⟩
        · rw [up1, if_neg (by omega), up1, if_neg (by omega), up1, if_pos ⟨rfl, rfl⟩, hx, rH, hT, if_pos rfl]
        · rw [up1, if_neg (by omega), up1, if_pos ⟨rfl, rfl⟩, cT, rV]
          show _ = if (cT mc o i k || lb (mc.2 (54 + 10 * o i + 1) 1) k) = true then (if lb (mc.2 (54 + 10 * o i + 1) 1) k = true then _ else _) else v0
          rw [hT, Bool.or_true, if_pos rfl, if_pos rfl]
        · have z135 : (s_up (s_up y 136 k x) 137 k (y0.1 121 (64 * o i + k))).1 135 p = y.1 135 p := by rw [up1, if_neg (by omega), up1, if_neg (by omega)]
          rw [up1, z135, cT, hT, Bool.or_true, Bool.and_true]
          by_cases e : p = k % 8
          · rw [if_pos ⟨rfl, e⟩, decide_eq_true e.symm, Bool.or_true]; rfl
          · rw [if_neg (fun w => e w.2), j4 p hp, decide_eq_false (fun w => e w.symm), Bool.false_and]
      cases hR : lb (mc.2 (54 + 10 * o i + 1) 2) k
      · rw [hR] at z120
        refine ⟨_, fin 1 (by rw [hR]; rfl), fun e g => ?_⟩
        simp (disch := omega) only [md_, jn_, bd_, bdE_, ixl, ix_, llN, lNl, tlN, tNl, eNl, lNN, tNN, eNN, aNl, alN, mlN, nI_add, pk_mul, neg_lt0, if_true, if_false, if_pos, if_neg, up2, uL1, cp2, gdT, gdb_, or_true, true_or, false_or, or_false, and_true, true_and, and_false, false_and, ifb0, ifb1, eq_self, t0, t1, t2, t3, t4, o10, o01, z139a, Bool.false_eq_true, f_X10_combine_L55, z19, z126, z119, z120, z121, bi_t, bi_f, nar1, hrem]
      · rw [hR] at z120
        refine ⟨_, fin 0 (by rw [hR]; rfl), fun e g => ?_⟩
        simp (disch := omega) only [md_, jn_, bd_, bdE_, ixl, ix_, llN, lNl, tlN, tNl, eNl, lNN, tNN, eNN, aNl, alN, mlN, nI_add, pk_mul, neg_lt0, if_true, if_false, if_pos, if_neg, up2, uL1, cp2, gdT, gdb_, or_true, true_or, false_or, or_false, and_true, true_and, and_false, false_and, ifb0, ifb1, eq_self, t0, t1, t2, t3, t4, o10, o01, z139a, Bool.false_eq_true, f_X10_combine_L55, z19, z126, z119, z120, z121, bi_t, bi_f, nar0, nar1, hrem]
  · rintro e g y ⟨j1, -⟩
    have z19 : y.1 110 19 = nI n := ((j1 110 19 (by omega)).1).trans h.2.2.1
    have n3 := h.1
    simp (disch := omega) only [md_, jn_, bd_, bdE_, ixl, ix_, llN, lNl, tlN, tNl, eNl, lNN, tNN, eNN, aNl, alN, mlN, nI_add, pk_mul, neg_lt0, if_true, if_false, if_pos, if_neg, up2, uL1, cp2, gdT, gdb_, or_true, true_or, false_or, or_false, and_true, true_and, and_false, false_and, ifb0, ifb1, eq_self, t0, t1, t2, t3, t4, o10, o01, z139a, Bool.false_eq_true, f_X10_combine_L55, z19, Nat.le_refl]
set_option maxRecDepth 100000 in
set_option maxHeartbeats 1000000 in
theorem rV_T {w : sM} {mc : sM} {o : Nat → Nat} {k : Nat} : ∀ n, (∀ i, i < n → w.2 (54 + 10 * o i + 1) = mc.2 (54 + 10 * o i + 1)) → cT mc o n k = false → rV w o n k = w.1 116 k
  | 0, _, _ => rfl
  | n + 1, hw, h => by
    rw [cT] at h
    have h1 : lb (mc.2 (54 + 10 * o n + 1) 1) k = false := by
      cases q : lb (mc.2 (54 + 10 * o n + 1) 1) k
      · rfl
      · rw [q, Bool.or_true] at h; exact absurd h (by decide)
    rw [h1, Bool.or_false] at h
    rw [rV, hw n (by omega), h1, if_neg (by decide)]
    exact rV_T n (fun i hi => hw i (by omega)) h
set_option maxRecDepth 100000 in
set_option maxHeartbeats 1000000 in
theorem q_comb {mc mm : sM} {n : Nat} {o : Nat → Nat} (h : RdyS mc mm n o) (hv : ∀ k, k < 64 → mm.1 115 k = bi (lb (mc.2 36 2) k) ∧ (lb (mc.2 36 2) k = true → mc.1 38 k = mm.1 116 k)) :
    ∃ y, f_X10_combine mm = some (.inl (), y) ∧ ag (fun a _ => a ≠ 135 ∧ a ≠ 136 ∧ a ≠ 137) mm y ∧ (∀ k, k < 64 → y.1 136 k = bi (nH mc o n k) ∧ (nH mc o n k = true → nV mc o n k = y.1 137 k)) ∧ ∀ p, p < 8 → y.1 135 p = bi (any8 (fun i => cT mc o n (p + 8 * i)) 8) := by
  have c0 : ∀ e, f_X10_combine_L2 e 5000 0 mm = e (x_fil 135 0 8 0 mm) := fun e => by
    refine lpE (fun g i (z : sM) => f_X10_combine_L2 e g (nI i) z) (fun i z => z = x_fil 135 0 i 0 mm) _ 8 ?_ ?_ 8 0 _ 5000 rfl (by decide) (fil_0 _ _ _ _).symm
    · intro i z g hi hz ih
      have := ih _ rfl
      subst hz
      rw [← fil_s, Nat.zero_add] at this
      simp (disch := omega) only [md_, jn_, bd_, bdE_, ixl, ix_, llN, lNl, tlN, tNl, eNl, lNN, tNN, eNN, aNl, alN, mlN, nI_add, pk_mul, neg_lt0, if_true, if_false, if_pos, if_neg, up2, uL1, cp2, gdT, gdb_, or_true, true_or, false_or, or_false, and_true, true_and, and_false, false_and, ifb0, ifb1, eq_self, t0, t1, t2, t3, t4, o10, o01, z139a, Bool.false_eq_true, f_X10_combine_L2, nar0]
      exact this
    · intro z g hz
      subst hz
      simp (disch := omega) only [md_, jn_, bd_, bdE_, ixl, ix_, llN, lNl, tlN, tNl, eNl, lNN, tNN, eNN, aNl, alN, mlN, nI_add, pk_mul, neg_lt0, if_true, if_false, if_pos, if_neg, up2, uL1, cp2, gdT, gdb_, or_true, true_or, false_or, or_false, and_true, true_and, and_false, false_and, ifb0, ifb1, eq_self, t0, t1, t2, t3, t4, o10, o01, z139a, Bool.false_eq_true, f_X10_combine_L2]
  refine Exists.elim (lq1 (fun e g i (y : sM) => f_X10_combine_L23 e g (nI i) y) (fun k y => ag (fun a _ => a ≠ 135 ∧ a ≠ 136 ∧ a ≠ 137) mm y ∧ (∀ j, j < k → y.1 136 j = bi (nH mc o n j) ∧ (nH mc o n j = true → nV mc o n j = y.1 137 j)) ∧ ∀ p, p < 8 → y.1 135 p = bi (aff mc o n k p)) 64 ?_ ?_ 64 0 (x_fil 135 0 8 0 mm) 5000 rfl (by decide)
    ⟨fil_ag (ag_rf _) (by intro j h1 h2; omega), fun j hj => absurd hj (Nat.not_lt_zero j), fun p hp => by rw [fil1, if_pos (by omega)]; rfl⟩) ?_
  rotate_right
  · rintro y ⟨⟨g1, g2, g3⟩, he⟩
    refine ⟨y, ?_, g1, g2, fun p hp => by rw [g3 p hp, aff_any hp]⟩
    unfold f_X10_combine
    rw [jn_, c0, jn_]
    exact he _
  · rintro k y hk ⟨j1, j2, j3⟩
    obtain ⟨v1, v2⟩ := hv k hk
    have z115 : y.1 115 k = bi (lb (mc.2 36 2) k) := ((j1 115 k (by omega)).1).trans v1
    have z116 : ∀ x, (s_up y 136 k x).1 116 k = mm.1 116 k := fun x => by rw [up1, if_neg (by omega)]; exact (j1 116 k (by omega)).1
    have t1 : ag (fun a _ => a ≠ 135 ∧ a ≠ 136 ∧ a ≠ 137) mm (s_up (s_up y 136 k (bi (lb (mc.2 36 2) k))) 137 k (mm.1 116 k)) := ag_up (ag_up j1 (by omega)) (by omega)
    obtain ⟨y2, e2, b1, b2, b3, b4⟩ := q_combIn (RdyS_ag h (ag_mo t1 (by intro a j q; omega))) hk (v0 := mm.1 116 k) (A := fun p => aff mc o n k p) (by rw [up1, if_neg (by omega)]; exact upS _ _ _ _) (upS _ _ _ _) (fun p hp => by rw [up1, if_neg (by omega), up1, if_neg (by omega)]; exact j3 p hp)
    have hrv : y2.1 137 k = rV ((s_up (s_up y 136 k (bi (lb (mc.2 36 2) k))) 137 k (mm.1 116 k)).1, mc.2) o n k := by
      rw [b3]
      cases hc : cT mc o n k
      · rw [if_neg (by decide)]
        exact ((t1 116 k (by omega)).1.symm).trans (rV_T (w := ((s_up (s_up y 136 k (bi (lb (mc.2 36 2) k))) 137 k (mm.1 116 k)).1, mc.2)) (mc := mc) n (fun _ _ => rfl) hc).symm
      · rw [if_pos rfl]
    refine ⟨y2, ⟨fun a j q => ⟨?_, ?_⟩, fun j hj => ?_, fun p hp => ?_⟩, fun e g => ?_⟩
    · rw [(b1 a j (by omega)).1]; exact (t1 a j q).1
    · rw [(b1 a j (by omega)).2]; exact (t1 a j q).2
    · by_cases e : j = k
      · subst e
        rw [b2, nH_rH h hk, hrv]
        refine ⟨rfl, fun q => ?_⟩
        rw [← nH_rH h hk] at q
        exact nV_rV h hk v2 _ (fun a j w => (t1 a j (by omega)).1) (fun _ _ => rfl) q
      · rw [(b1 136 j (by omega)).1, (b1 137 j (by omega)).1, up1, if_neg (by omega), up1, if_neg (by omega), up1, if_neg (by omega), up1, if_neg (by omega)]
        exact j2 j (by omega)
    · rw [b4 p hp]; rfl
    · simp (disch := omega) only [md_, jn_, bd_, bdE_, ixl, ix_, llN, lNl, tlN, tNl, eNl, lNN, tNN, eNN, aNl, alN, mlN, nI_add, pk_mul, neg_lt0, if_true, if_false, if_pos, if_neg, up2, uL1, cp2, gdT, gdb_, or_true, true_or, false_or, or_false, and_true, true_and, and_false, false_and, ifb0, ifb1, eq_self, t0, t1, t2, t3, t4, o10, o01, z139a, Bool.false_eq_true, f_X10_combine_L23, z115, z116, narb, e2]
  · rintro e g y -
    simp (disch := omega) only [md_, jn_, bd_, bdE_, ixl, ix_, llN, lNl, tlN, tNl, eNl, lNN, tNN, eNN, aNl, alN, mlN, nI_add, pk_mul, neg_lt0, if_true, if_false, if_pos, if_neg, up2, uL1, cp2, gdT, gdb_, or_true, true_or, false_or, or_false, and_true, true_and, and_false, false_and, ifb0, ifb1, eq_self, t0, t1, t2, t3, t4, o10, o01, z139a, Bool.false_eq_true, f_X10_combine_L23]
