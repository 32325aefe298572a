/-! PURE: the output. -/
def nM (a : Nat) : Int32 := Int32.ofInt (-(a : Int))
set_option maxRecDepth 100000 in
set_option maxHeartbeats 1000000 in
theorem nM_t {a : Nat} (h : a ≤ 2 ^ 31) : (nM a).toInt = -(a : Int) := Int32.toInt_ofInt_of_le (by omega) (by omega)
set_option maxRecDepth 100000 in
set_option maxHeartbeats 1000000 in
theorem nM_div {a : Nat} (h : a ≤ 2 ^ 31) : nM a / 10 = nM (a / 10) := by
  apply Int32.toInt_inj.mp
  rw [Int32.toInt_div_of_ne_right _ _ (by decide), nM_t h, nM_t (by omega), show (10 : Int32).toInt = 10 by decide, Int.neg_tdiv]
  rfl
set_option maxRecDepth 100000 in
set_option maxHeartbeats 1000000 in
theorem nM_rem {a : Nat} (h : a ≤ 2 ^ 31) : (48 : Int32) - (nM a - nM a / 10 * 10) = nI (48 + a % 10) := by
  have h48 : Int32.ofInt 48 = 48 := by decide
  have h10 : Int32.ofInt 10 = 10 := by decide
  have e : (48 : Int32) - (nM a - nM (a / 10) * 10) = Int32.ofInt (48 - (-(a : Int) - -((a / 10 : Nat) : Int) * 10)) := by
    rw [Int32.ofInt_sub, Int32.ofInt_sub, Int32.ofInt_mul, h48, h10]
    rfl
  rw [nM_div h, e]
  apply Int32.toInt_inj.mp
  rw [Int32.toInt_ofInt_of_le (by omega) (by omega), nI_toInt (by omega)]
  omega
set_option maxRecDepth 100000 in
set_option maxHeartbeats 1000000 in
theorem nM_lt {a : Nat} (h : a ≤ 2 ^ 31) : ((-10 : Int32) < nM a) = (a < 10) := by
  apply propext
  rw [Int32.lt_iff_toInt_lt, nM_t h, show (-10 : Int32).toInt = -10 by decide]
  omega
set_option maxRecDepth 100000 in
set_option maxHeartbeats 1000000 in
theorem chr_d : ∀ d, d < 10 → s_i2c (nI (48 + d)) = nI (48 + d) ∧ vp_nar .char (nI (48 + d)) = nI (48 + d) := by decide
-- remark: both outputs hold the same n signs
def Ou (n : Nat) (mc0 mm0 mc mm : sM) : Prop := ag (fun a j => ¬ (a = 91 ∧ j = 2) ∧ a ≠ 92 ∧ a ≠ 93) mc0 mc ∧ ag (fun a j => ¬ (a = 110 ∧ j = 23) ∧ a ≠ 128) mm0 mm ∧ mc.1 91 2 = nI n ∧ mm.1 110 23 = nI n ∧ ∀ i, i < n → mc.1 92 i = mm.1 128 i ∧ narrow .char (.int (mc.1 92 i)) = .int (mc.1 92 i)
set_option maxRecDepth 100000 in
set_option maxHeartbeats 1000000 in
theorem Ou_psh {n : Nat} {mc0 mm0 mc mm : sM} (h : Ou n mc0 mm0 mc mm) (hn : n < 960) (c c' : Int32) (hc : vp_nar .char c = vp_nar .char c') : ∃ mc' mm', f_X4_append c mc = some (.inl (), mc') ∧ f_X10_say c' mm = some (.inl (), mm') ∧ Ou (n + 1) mc0 mm0 mc' mm' ∧ ∀ j, mc'.1 93 j = mc.1 93 j := by
  obtain ⟨h1, h2, h3, h4, h5⟩ := h
  have a3 : (s_up mc 92 n (vp_nar .char c)).1 91 2 = nI n := by rw [up1, if_neg (by omega)]; exact h3
  have a4 : (s_up mm 128 n (vp_nar .char c')).1 110 23 = nI n := by rw [up1, if_neg (by omega)]; exact h4
  refine ⟨s_up (s_up mc 92 n (vp_nar .char c)) 91 2 (nI (n + 1)), s_up (s_up mm 128 n (vp_nar .char c')) 110 23 (nI (n + 1)), ?_, ?_, ⟨ag_up (ag_up h1 (by omega)) (by omega), ag_up (ag_up h2 (by omega)) (by omega), upS _ _ _ _, upS _ _ _ _, fun i hi => ?_⟩, fun j => ?_⟩
  · simp (disch := omega) only [md_, jn_, bd_, bdE_, ixl, ix_, llN, lNl, tlN, tNl, eNl, lNN, tNN, eNN, aNl, alN, mlN, nI_add, pk_mul, neg_lt0, if_true, if_false, if_pos, if_neg, up2, uL1, cp2, gdT, gdb_, or_true, true_or, false_or, or_false, and_true, true_and, and_false, false_and, ifb0, ifb1, eq_self, t0, t1, t2, t3, t4, o10, o01, z139a, Bool.false_eq_true, f_X4_append, h3, a3]
  · simp (disch := omega) only [md_, jn_, bd_, bdE_, ixl, ix_, llN, lNl, tlN, tNl, eNl, lNN, tNN, eNN, aNl, alN, mlN, nI_add, pk_mul, neg_lt0, if_true, if_false, if_pos, if_neg, up2, uL1, cp2, gdT, gdb_, or_true, true_or, false_or, or_false, and_true, true_and, and_false, false_and, ifb0, ifb1, eq_self, t0, t1, t2, t3, t4, o10, o01, z139a, Bool.false_eq_true, f_X10_say, h4, a4]
  · have c1 : (s_up (s_up mc 92 n (vp_nar .char c)) 91 2 (nI (n + 1))).1 92 i = if i = n then vp_nar .char c else mc.1 92 i := by
      rw [up1, if_neg (by omega), up1]
      by_cases e : i = n
      · rw [if_pos ⟨rfl, e⟩, if_pos e]
      · rw [if_neg (by omega), if_neg e]
    have c2 : (s_up (s_up mm 128 n (vp_nar .char c')) 110 23 (nI (n + 1))).1 128 i = if i = n then vp_nar .char c' else mm.1 128 i := by
      rw [up1, if_neg (by omega), up1]
      by_cases e : i = n
      · rw [if_pos ⟨rfl, e⟩, if_pos e]
      · rw [if_neg (by omega), if_neg e]
    rw [c1, c2]
    by_cases e : i = n
    · rw [if_pos e, if_pos e]; exact ⟨hc, narc c⟩
    · rw [if_neg e, if_neg e]; exact h5 i (by omega)
  · rw [up1, if_neg (by omega), up1, if_neg (by omega)]
def ndg : Nat → Nat → Nat
  | 0, _ => 1
  | g + 1, a => if a < 10 then 1 else ndg g (a / 10) + 1
def dgt (a : Nat) : Nat → Nat
  | 0 => a % 10
  | i + 1 => dgt (a / 10) i
set_option maxRecDepth 100000 in
set_option maxHeartbeats 1000000 in
theorem dgt_lt : ∀ i a, dgt a i < 10
  | 0, a => Nat.mod_lt _ (by decide)
  | i + 1, a => dgt_lt i (a / 10)
set_option maxRecDepth 100000 in
set_option maxHeartbeats 1000000 in
theorem ndg_le : ∀ g a, ndg g a ≤ g + 1
  | 0, _ => Nat.le_refl _
  | g + 1, a => by
    rw [ndg]
    have := ndg_le g (a / 10)
    split <;> omega
set_option maxRecDepth 100000 in
set_option maxHeartbeats 1000000 in
theorem ndg_pos : ∀ g a, 0 < ndg g a
  | 0, _ => Nat.le_refl _
  | g + 1, a => by
    rw [ndg]
    split <;> omega
-- remark: the digits from the buffer, and from the number itself
set_option maxRecDepth 100000 in
set_option maxHeartbeats 1000000 in
theorem dg_out {mc0 mm0 : sM} : ∀ g a off n mc mm, a < 10 ^ (g + 1) → a ≤ 2 ^ 31 → off + ndg g a ≤ 10 → Ou n mc0 mm0 mc mm → n + ndg g a ≤ 960 → (∀ i, i < ndg g a → mc.1 93 (off + i) = nI (48 + dgt a i)) →
    ∃ mc' mm', (∀ e f, f_X4_appendNumber_L67 e (f + ndg g a) (nI (off + ndg g a) - 1) mc = f_X4_appendNumber_L67 e f (nI off - 1) mc') ∧ (∀ x, f_X10_sd (g + 1 + x) (nM a) mm = some (.inl (), mm')) ∧ Ou (n + ndg g a) mc0 mm0 mc' mm' ∧ ∀ j, mc'.1 93 j = mc.1 93 j := by
  have one : ∀ (k off n : Nat) (mc mm : sM), off < 10 → k < 10 → Ou n mc0 mm0 mc mm → n < 960 → mc.1 93 off = nI (48 + k) → ∃ mc' mm', (∀ e f, f_X4_appendNumber_L67 e (f + 1) (nI off) mc = f_X4_appendNumber_L67 e f (nI off + (-1)) mc') ∧ f_X10_say (nI (48 + k)) mm = some (.inl (), mm') ∧ Ou (n + 1) mc0 mm0 mc' mm' ∧ ∀ j, mc'.1 93 j = mc.1 93 j := fun k off n mc mm ho hk hO hn hb => by
    obtain ⟨mc', mm', e1, e2, e3, e4⟩ := Ou_psh hO hn (nI (48 + k)) (nI (48 + k)) rfl
    refine ⟨mc', mm', fun e f => ?_, e2, e3, e4⟩
    rw [← hb] at e1
    have hz : (nI off < 0) = False := eq_false (nI_pos (by omega))
    simp (disch := omega) only [md_, jn_, bd_, bdE_, ixl, ix_, llN, lNl, tlN, tNl, eNl, lNN, tNN, eNN, aNl, alN, mlN, nI_add, pk_mul, neg_lt0, if_true, if_false, if_pos, if_neg, up2, uL1, cp2, gdT, gdb_, or_true, true_or, false_or, or_false, and_true, true_and, and_false, false_and, ifb0, ifb1, eq_self, t0, t1, t2, t3, t4, o10, o01, z139a, Bool.false_eq_true, f_X4_appendNumber_L67, hz, e1]
  have hm1 : ∀ off, nI off + (-1) = nI off - 1 := fun off => (Int32.sub_eq_add_neg _ _).symm
  have hs1 : ∀ off, nI (off + 1) - 1 = nI off := fun off => nI_pred off
  intro g
  induction g with
  | zero =>
    intro a off n mc mm ha h31 hoff hO hn hb
    have ha : a < 10 := by omega
    rw [ndg] at hoff hn hb ⊢
    obtain ⟨mc', mm', e1, e2, e3, e4⟩ := one a off n mc mm (by omega) ha hO (by omega) (by
      have := hb 0 (by decide)
      rw [dgt, Nat.mod_eq_of_lt ha] at this
      exact this)
    refine ⟨mc', mm', fun e f => ?_, fun x => ?_, e3, e4⟩
    · rw [hs1, e1, hm1]
    · have hl := nM_lt h31
      have hr := nM_rem h31
      rw [Nat.mod_eq_of_lt ha] at hr
      rw [show 0 + 1 + x = x + 1 by omega, f_X10_sd, jn_, if_pos (by rw [hl]; exact ha), hr, (chr_d a ha).1]
      dsimp only
      rw [e2, bd_]
  | succ g ih =>
    intro a off n mc mm ha h31 hoff hO hn hb
    have hl := nM_lt h31
    have hr := nM_rem h31
    by_cases q : a < 10
    · have hN : ndg (g + 1) a = 1 := by rw [ndg, if_pos q]
      rw [hN] at hoff hn hb ⊢
      obtain ⟨mc', mm', e1, e2, e3, e4⟩ := one a off n mc mm (by omega) q hO (by omega) (by
        have := hb 0 (by decide)
        rw [dgt, Nat.mod_eq_of_lt q] at this
        exact this)
      refine ⟨mc', mm', fun e f => ?_, fun x => ?_, e3, e4⟩
      · rw [hs1, e1, hm1]
      · rw [Nat.mod_eq_of_lt q] at hr
        rw [show g + 1 + 1 + x = (g + 1 + x) + 1 by omega, f_X10_sd, jn_, if_pos (by rw [hl]; exact q), hr, (chr_d a q).1]
        dsimp only
        rw [e2, bd_]
    · have hN : ndg (g + 1) a = ndg g (a / 10) + 1 := by rw [ndg, if_neg q]
      rw [hN] at hoff hn hb ⊢
      have h10 : a < 10 * 10 ^ (g + 1) := by rw [Nat.mul_comm, ← Nat.pow_succ]; exact ha
      obtain ⟨mc1, mm1, i1, i2, i3, i4⟩ := ih (a / 10) (off + 1) n mc mm (by omega) (by omega) (by omega) hO (by omega) (fun i hi => by
        have := hb (i + 1) (by omega)
        rw [dgt] at this
        rw [show off + 1 + i = off + (i + 1) by omega]
        exact this)
      obtain ⟨mc', mm', e1, e2, e3, e4⟩ := one (a % 10) off (n + ndg g (a / 10)) mc1 mm1 (by omega) (by omega) i3 (by omega) (by
        rw [i4]
        exact hb 0 (by omega))
      refine ⟨mc', mm', fun e f => ?_, fun x => ?_, e3, fun j => (e4 j).trans (i4 j)⟩
      · have := i1 e (f + 1)
        rw [show f + (ndg g (a / 10) + 1) = f + 1 + ndg g (a / 10) by omega, show off + (ndg g (a / 10) + 1) = off + 1 + ndg g (a / 10) by omega, this, hs1, e1, hm1]
      · rw [show g + 1 + 1 + x = (g + 1 + x) + 1 by omega, f_X10_sd, jn_, if_neg (by rw [hl]; exact q), nM_div h31, i2, bd_]
        rw [nM_div h31] at hr
        rw [hr, (chr_d (a % 10) (by omega)).1]
        dsimp only
        rw [e2, bd_]
set_option maxRecDepth 100000 in
set_option maxHeartbeats 1000000 in
theorem lg_0 {a : Nat} (ha : a < 2 ^ 63) : (lg_cmp (lN a) 0 ≤ 0) = (a = 0) := by
  apply propext
  have h0 : (0 : Int64) = lN 0 := rfl
  unfold lg_cmp
  by_cases q : a = 0
  · subst q
    exact ⟨fun _ => rfl, fun _ => by decide⟩
  · have h1 : lN a > 0 := by
      rw [h0]
      exact (pk_lLT (by decide) ha).mpr (by omega)
    rw [if_pos h1]
    exact ⟨fun w => absurd w (by decide), fun w => absurd w q⟩
-- remark: the class's buffer of digits
set_option maxRecDepth 100000 in
set_option maxHeartbeats 1000000 in
theorem dg_buf : ∀ g a off (m : sM), a < 10 ^ (g + 1) → a ≤ 2 ^ 31 → off + g < 10 → ∃ m', (∀ e f, f_X4_appendNumber_L21 e (f + ndg g a) (lN a) (nI off) m = e (nI (off + ndg g a)) m') ∧ (∀ i, i < ndg g a → m'.1 93 (off + i) = nI (48 + dgt a i)) ∧ (∀ j, j < off → m'.1 93 j = m.1 93 j) ∧ ag (fun b _ => b ≠ 93) m m' := by
  have rem : ∀ a, a ≤ 2 ^ 31 → vp_nar .char (s_i2c (Int64.toInt32 (48 + (lN a - lN a / 10 * 10)))) = nI (48 + a % 10) := fun a ha => by
    have h1 : lN a - lN a / 10 * 10 = lN (a % 10) := pk_lRem (b := 10) (by omega) (by decide) (by decide)
    have h2 : (48 : Int64) + lN (a % 10) = lN (48 + a % 10) := lN_add 48 _
    rw [h1, h2, lN_i, (chr_d _ (Nat.mod_lt _ (by decide))).1, (chr_d _ (Nat.mod_lt _ (by decide))).2]
  have dv : ∀ a, a ≤ 2 ^ 31 → lN a / 10 = lN (a / 10) := fun a ha => pk_lDiv (b := 10) (by omega) (by decide) (by decide)
  intro g
  induction g with
  | zero =>
    intro a off m ha h31 hoff
    have ha : a < 10 := by omega
    have e0 := rem a h31
    have ed := dv a h31
    rw [ed] at e0
    have e1 := lg_0 (a := a / 10) (by omega)
    have e2 : (a / 10 = 0) = True := eq_true (by omega)
    rw [e2] at e1
    refine ⟨s_up m 93 off (nI (48 + a % 10)), fun e f => ?_, fun i hi => ?_, fun j hj => ?_, ag_up (ag_rf m) (by omega)⟩
    · rw [ndg]
      simp (disch := omega) only [md_, jn_, bd_, bdE_, ixl, ix_, llN, lNl, tlN, tNl, eNl, lNN, tNN, eNN, aNl, alN, mlN, nI_add, pk_mul, neg_lt0, if_true, if_false, if_pos, if_neg, up2, uL1, cp2, gdT, gdb_, or_true, true_or, false_or, or_false, and_true, true_and, and_false, false_and, ifb0, ifb1, eq_self, t0, t1, t2, t3, t4, o10, o01, z139a, Bool.false_eq_true, f_X4_appendNumber_L21, e0, ed, e1]
    · rw [ndg] at hi
      obtain rfl : i = 0 := by omega
      exact upS _ _ _ _
    · rw [up1, if_neg (by omega)]
  | succ g ih =>
    intro a off m ha h31 hoff
    have e0 := rem a h31
    have ed := dv a h31
    rw [ed] at e0
    have e1 := lg_0 (a := a / 10) (by omega)
    by_cases q : a < 10
    · have hN : ndg (g + 1) a = 1 := by rw [ndg, if_pos q]
      have e2 : (a / 10 = 0) = True := eq_true (by omega)
      rw [e2] at e1
      refine ⟨s_up m 93 off (nI (48 + a % 10)), fun e f => ?_, fun i hi => ?_, fun j hj => ?_, ag_up (ag_rf m) (by omega)⟩
      · rw [hN]
        simp (disch := omega) only [md_, jn_, bd_, bdE_, ixl, ix_, llN, lNl, tlN, tNl, eNl, lNN, tNN, eNN, aNl, alN, mlN, nI_add, pk_mul, neg_lt0, if_true, if_false, if_pos, if_neg, up2, uL1, cp2, gdT, gdb_, or_true, true_or, false_or, or_false, and_true, true_and, and_false, false_and, ifb0, ifb1, eq_self, t0, t1, t2, t3, t4, o10, o01, z139a, Bool.false_eq_true, f_X4_appendNumber_L21, e0, ed, e1]
      · rw [hN] at hi
        obtain rfl : i = 0 := by omega
        exact upS _ _ _ _
      · rw [up1, if_neg (by omega)]
    · have hN : ndg (g + 1) a = ndg g (a / 10) + 1 := by rw [ndg, if_neg q]
      have e2 : (a / 10 = 0) = False := eq_false (by omega)
      rw [e2] at e1
      have h10 : a < 10 * 10 ^ (g + 1) := by rw [Nat.mul_comm, ← Nat.pow_succ]; exact ha
      obtain ⟨m', i1, i2, i3, i4⟩ := ih (a / 10) (off + 1) (s_up m 93 off (nI (48 + a % 10))) (by omega) (by omega) (by omega)
      refine ⟨m', fun e f => ?_, fun i hi => ?_, fun j hj => ?_, ag_tr (ag_up (ag_rf m) (by omega)) i4⟩
      · have := i1 e f
        rw [hN, show f + (ndg g (a / 10) + 1) = (f + ndg g (a / 10)) + 1 by omega, show off + (ndg g (a / 10) + 1) = off + 1 + ndg g (a / 10) by omega]
        simp (disch := omega) only [md_, jn_, bd_, bdE_, ixl, ix_, llN, lNl, tlN, tNl, eNl, lNN, tNN, eNN, aNl, alN, mlN, nI_add, pk_mul, neg_lt0, if_true, if_false, if_pos, if_neg, up2, uL1, cp2, gdT, gdb_, or_true, true_or, false_or, or_false, and_true, true_and, and_false, false_and, ifb0, ifb1, eq_self, t0, t1, t2, t3, t4, o10, o01, z139a, Bool.false_eq_true, f_X4_appendNumber_L21, e0, ed, e1]
        exact this
      · rcases Nat.eq_zero_or_pos i with w | w
        · subst w
          rw [Nat.add_zero, i3 off (by omega)]
          exact upS _ _ _ _
        · have := i2 (i - 1) (by omega)
          rw [show off + 1 + (i - 1) = off + i by omega] at this
          rw [this]
          obtain ⟨k, rfl⟩ : ∃ k, i = k + 1 := ⟨i - 1, by omega⟩
          rfl
      · rw [i3 j (by omega), up1, if_neg (by omega)]
