/-! PURE: the blocks that a commit writes; blocksToWrite. -/
def bts (f : Nat → Bool) : Nat → Int32
  | 0 => 0
  | i + 1 => if f i = true then bts f i ||| (1 <<< (nI i &&& 31)) else bts f i
set_option maxRecDepth 100000 in
set_option maxHeartbeats 1000000 in
theorem bts_cong {f g : Nat → Bool} : ∀ {n : Nat}, (∀ i, i < n → f i = g i) → bts f n = bts g n
  | 0, _ => rfl
  | n + 1, h => by rw [bts, bts, bts_cong (fun i hi => h i (by omega)), h n (by omega)]
set_option maxRecDepth 100000 in
set_option maxHeartbeats 1000000 in
theorem bts_0 (f : Nat → Bool) : (bts f 8 = 0) = (any8 f 8 = false) := by
  have key : ∀ b0 b1 b2 b3 b4 b5 b6 b7 : Bool, (bts (fun i => if i = 0 then b0 else if i = 1 then b1 else if i = 2 then b2 else if i = 3 then b3 else if i = 4 then b4 else if i = 5 then b5 else if i = 6 then b6 else b7) 8 = 0) ↔ (any8 (fun i => if i = 0 then b0 else if i = 1 then b1 else if i = 2 then b2 else if i = 3 then b3 else if i = 4 then b4 else if i = 5 then b5 else if i = 6 then b6 else b7) 8 = false) := by decide +kernel
  have hf : ∀ i, i < 8 → f i = (fun i => if i = 0 then f 0 else if i = 1 then f 1 else if i = 2 then f 2 else if i = 3 then f 3 else if i = 4 then f 4 else if i = 5 then f 5 else if i = 6 then f 6 else f 7) i := fun i hi => by
    obtain rfl | rfl | rfl | rfl | rfl | rfl | rfl | rfl : i = 0 ∨ i = 1 ∨ i = 2 ∨ i = 3 ∨ i = 4 ∨ i = 5 ∨ i = 6 ∨ i = 7 := by omega
    all_goals rfl
  rw [bts_cong hf, any8_cong hf]
  exact propext (key _ _ _ _ _ _ _ _)
set_option maxRecDepth 100000 in
set_option maxHeartbeats 1000000 in
theorem p_bitsOf {a p : Nat} (hp : p < 8) (m : sM) : f_X8_bitsOf a (nI p) m = some (.inl (bts (fun i => lb (m.2 a 2) (p + 8 * i)) 8), m) := by
  unfold f_X8_bitsOf
  rw [jn_]
  refine lpE (fun g i (x : Int32) => f_X8_bitsOf_L4 a (nI p) _ g x (nI i) m) (fun i x => x = bts (fun i => lb (m.2 a 2) (p + 8 * i)) i) _ 8 ?_ ?_ 8 0 _ 5000 rfl (by decide) rfl
  · intro i x g hi hx ih
    have := ih _ rfl
    subst hx
    rw [bts] at this
    have hk64 : p + 8 * i < 64 := by omega
    cases hl : lb (m.2 a 2) (p + 8 * i)
    · rw [hl, if_neg (by decide)] at this
      simp (disch := omega) only [md_, jn_, bd_, bdE_, ixl, ix_, llN, lNl, tlN, tNl, eNl, lNN, tNN, eNN, aNl, alN, mlN, nI_add, pk_mul, neg_lt0, if_true, if_false, if_pos, if_neg, up2, uL1, cp2, gdT, gdb_, or_true, true_or, false_or, or_false, and_true, true_and, and_false, false_and, ifb0, ifb1, eq_self, t0, t1, t2, t3, t4, o10, o01, z139a, Bool.false_eq_true, f_X8_bitsOf_L4, p_keyOf, p_isIn, hl, bi_f]
      exact this
    · rw [hl, if_pos rfl] at this
      simp (disch := omega) only [md_, jn_, bd_, bdE_, ixl, ix_, llN, lNl, tlN, tNl, eNl, lNN, tNN, eNN, aNl, alN, mlN, nI_add, pk_mul, neg_lt0, if_true, if_false, if_pos, if_neg, up2, uL1, cp2, gdT, gdb_, or_true, true_or, false_or, or_false, and_true, true_and, and_false, false_and, ifb0, ifb1, eq_self, t0, t1, t2, t3, t4, o10, o01, z139a, Bool.false_eq_true, f_X8_bitsOf_L4, p_keyOf, p_isIn, hl, bi_t]
      exact this
  · intro x g hx
    subst hx
    simp (disch := omega) only [md_, jn_, bd_, bdE_, ixl, ix_, llN, lNl, tlN, tNl, eNl, lNN, tNN, eNN, aNl, alN, mlN, nI_add, pk_mul, neg_lt0, if_true, if_false, if_pos, if_neg, up2, uL1, cp2, gdT, gdb_, or_true, true_or, false_or, or_false, and_true, true_and, and_false, false_and, ifb0, ifb1, eq_self, t0, t1, t2, t3, t4, o10, o01, z139a, Bool.false_eq_true, f_X8_bitsOf_L4]
set_option maxRecDepth 100000 in
set_option maxHeartbeats 1000000 in
theorem p_touch {a p : Nat} (hp : p < 8) (m : sM) : f_X0_touchesPage a (nI p) m = some (.inl (bi (any8 (fun i => lb (m.2 a 1) (p + 8 * i)) 8)), m) := by
  have key : ∀ e1 e2 : sM → Option (sR Int32), f_X0_touchesPage_L2 a (nI p) e1 e2 5000 0 m = if any8 (fun i => lb (m.2 a 1) (p + 8 * i)) 8 = true then e2 m else e1 m := fun e1 e2 => by
    refine lpE (fun g i (_ : Unit) => f_X0_touchesPage_L2 a (nI p) e1 e2 g (nI i) m) (fun i _ => any8 (fun i => lb (m.2 a 1) (p + 8 * i)) i = false) _ 8 ?_ ?_ 8 0 () 5000 rfl (by decide) rfl
    · intro i _ g hi hA ih
      have hk64 : p + 8 * i < 64 := by omega
      cases hl : lb (m.2 a 1) (p + 8 * i)
      · have := ih () (by rw [any8, hA, hl]; rfl)
        simp (disch := omega) only [md_, jn_, bd_, bdE_, ixl, ix_, llN, lNl, tlN, tNl, eNl, lNN, tNN, eNN, aNl, alN, mlN, nI_add, pk_mul, neg_lt0, if_true, if_false, if_pos, if_neg, up2, uL1, cp2, gdT, gdb_, or_true, true_or, false_or, or_false, and_true, true_and, and_false, false_and, ifb0, ifb1, eq_self, t0, t1, t2, t3, t4, o10, o01, z139a, Bool.false_eq_true, f_X0_touchesPage_L2, p_keyOf, p_isIn, hl, bi_f]
        exact this
      · rw [if_pos ((any8_t 8).mpr ⟨i, hi, hl⟩)]
        simp (disch := omega) only [md_, jn_, bd_, bdE_, ixl, ix_, llN, lNl, tlN, tNl, eNl, lNN, tNN, eNN, aNl, alN, mlN, nI_add, pk_mul, neg_lt0, if_true, if_false, if_pos, if_neg, up2, uL1, cp2, gdT, gdb_, or_true, true_or, false_or, or_false, and_true, true_and, and_false, false_and, ifb0, ifb1, eq_self, t0, t1, t2, t3, t4, o10, o01, z139a, Bool.false_eq_true, f_X0_touchesPage_L2, p_keyOf, p_isIn, hl, bi_t]
    · intro _ g hA
      rw [if_neg (by rw [hA]; decide)]
      simp (disch := omega) only [md_, jn_, bd_, bdE_, ixl, ix_, llN, lNl, tlN, tNl, eNl, lNN, tNN, eNN, aNl, alN, mlN, nI_add, pk_mul, neg_lt0, if_true, if_false, if_pos, if_neg, up2, uL1, cp2, gdT, gdb_, or_true, true_or, false_or, or_false, and_true, true_and, and_false, false_and, ifb0, ifb1, eq_self, t0, t1, t2, t3, t4, o10, o01, z139a, Bool.false_eq_true, f_X0_touchesPage_L2]
  unfold f_X0_touchesPage
  rw [jn_, jn_, key]
  cases any8 (fun i => lb (m.2 a 1) (p + 8 * i)) 8
  · rfl
  · rfl
-- remark: the next version's page: touched, and to be written
def tpg (m : sM) (p : Nat) : Bool := any8 (fun i => lb (m.2 50 1) (p + 8 * i)) 8
def wpg (m : sM) (p : Nat) : Bool := tpg m p && any8 (fun i => lb (m.2 39 2) (p + 8 * i)) 8
set_option maxRecDepth 100000 in
set_option maxHeartbeats 1000000 in
theorem p_ptw {p : Nat} (hp : p < 8) (m : sM) : f_X9_isPageToWrite (nI p) m = some (.inl (bi (wpg m p)), m) := by
  unfold f_X9_isPageToWrite wpg
  rw [p_touch hp, bd_, jn_, jn_]
  show (if bi (tpg m p) = 0 then _ else _) = _
  cases tpg m p
  · rw [if_pos bi_f]; exact gd0 _
  · rw [if_neg (by decide), p_bitsOf hp, bd_, Bool.true_and]
    cases hA : any8 (fun i => lb (m.2 39 2) (p + 8 * i)) 8
    · rw [if_pos (by rw [bts_0, hA])]; exact gd0 _
    · rw [if_neg (by rw [bts_0, hA]; decide)]; exact gd1 _
set_option maxRecDepth 100000 in
set_option maxHeartbeats 1000000 in
theorem p_dbn (m : sM) : f_X9_dataBlocksOfNext m = some (.inl (nI (1 + fb_ct (wpg m) 8)), m) := by
  unfold f_X9_dataBlocksOfNext
  rw [jn_]
  refine lpE (fun g i (x : Int32) => f_X9_dataBlocksOfNext_L4 _ g x (nI i) m) (fun i x => x = nI (1 + fb_ct (wpg m) i)) _ 8 ?_ ?_ 8 0 _ 5000 rfl (by decide) rfl
  · intro i x g hi hx ih
    have := ih _ rfl
    subst hx
    rw [fb_ct_succ] at this
    have hw := p_ptw hi m
    cases hl : wpg m i
    · rw [hl] at this hw
      simp (disch := omega) only [md_, jn_, bd_, bdE_, ixl, ix_, llN, lNl, tlN, tNl, eNl, lNN, tNN, eNN, aNl, alN, mlN, nI_add, pk_mul, neg_lt0, if_true, if_false, if_pos, if_neg, up2, uL1, cp2, gdT, gdb_, or_true, true_or, false_or, or_false, and_true, true_and, and_false, false_and, ifb0, ifb1, eq_self, t0, t1, t2, t3, t4, o10, o01, z139a, Bool.false_eq_true, f_X9_dataBlocksOfNext_L4, hw, bi_f]
      exact this
    · rw [hl] at this hw
      rw [if_pos rfl, ← Nat.add_assoc] at this
      simp (disch := omega) only [md_, jn_, bd_, bdE_, ixl, ix_, llN, lNl, tlN, tNl, eNl, lNN, tNN, eNN, aNl, alN, mlN, nI_add, pk_mul, neg_lt0, if_true, if_false, if_pos, if_neg, up2, uL1, cp2, gdT, gdb_, or_true, true_or, false_or, or_false, and_true, true_and, and_false, false_and, ifb0, ifb1, eq_self, t0, t1, t2, t3, t4, o10, o01, z139a, Bool.false_eq_true, f_X9_dataBlocksOfNext_L4, hw, bi_t]
      exact this
  · intro x g hx
    subst hx
    simp (disch := omega) only [md_, jn_, bd_, bdE_, ixl, ix_, llN, lNl, tlN, tNl, eNl, lNN, tNN, eNN, aNl, alN, mlN, nI_add, pk_mul, neg_lt0, if_true, if_false, if_pos, if_neg, up2, uL1, cp2, gdT, gdb_, or_true, true_or, false_or, or_false, and_true, true_and, and_false, false_and, ifb0, ifb1, eq_self, t0, t1, t2, t3, t4, o10, o01, z139a, Bool.false_eq_true, f_X9_dataBlocksOfNext_L4]
-- remark: both sides after the preparation
def Nxt (z y : sM) : Prop := (∀ k, k < 64 → y.1 136 k = bi (lb (z.2 39 2) k) ∧ (lb (z.2 39 2) k = true → z.1 41 k = y.1 137 k)) ∧ ∀ p, p < 8 → y.1 135 p = bi (tpg z p)
set_option maxRecDepth 100000 in
set_option maxHeartbeats 1000000 in
theorem q_new {z y : sM} (h : Nxt z y) {p : Nat} (hp : p < 8) : f_X10_isNewPage (nI p) y = some (.inl (bi (wpg z p)), y) := by
  have key : ∀ e : Int32 → Option (sR Int32), f_X10_isNewPage_L4 (nI p) y e 5000 0 (nI p) = e (bi (any8 (fun i => lb (z.2 39 2) (p + 8 * i)) 8)) := fun e => by
    have := lpE (fun g i (x : Int32) => f_X10_isNewPage_L4 (nI p) y e g x (nI (p + 8 * i))) (fun i x => x = bi (any8 (fun i => lb (z.2 39 2) (p + 8 * i)) i)) (e (bi (any8 (fun i => lb (z.2 39 2) (p + 8 * i)) 8))) 8 (fun i x g hi hx ih => by
      have := ih _ rfl
      subst hx
      have hk := (h.1 (p + 8 * i) (by omega)).1
      have hle : ¬ (64 : Int32) ≤ nI (p + 8 * i) := nI_ge (a := p + 8 * i) (b := 64) (by omega) (by decide)
      have h8 : nI (p + 8 * i) + 8 = nI (p + 8 * (i + 1)) := nI_add _ 8
      rw [any8] at this
      cases ha : any8 (fun i => lb (z.2 39 2) (p + 8 * i)) i
      · rw [ha, Bool.false_or] at this
        cases hl : lb (z.2 39 2) (p + 8 * i)
        · rw [hl] at this hk
          simp (disch := omega) only [md_, jn_, bd_, bdE_, ixl, ix_, llN, lNl, tlN, tNl, eNl, lNN, tNN, eNN, aNl, alN, mlN, nI_add, pk_mul, neg_lt0, if_true, if_false, if_pos, if_neg, up2, uL1, cp2, gdT, gdb_, or_true, true_or, false_or, or_false, and_true, true_and, and_false, false_and, ifb0, ifb1, eq_self, t0, t1, t2, t3, t4, o10, o01, z139a, Bool.false_eq_true, f_X10_isNewPage_L4, hle, h8, hk, bi_f]
          exact this
        · rw [hl] at this hk
          simp (disch := omega) only [md_, jn_, bd_, bdE_, ixl, ix_, llN, lNl, tlN, tNl, eNl, lNN, tNN, eNN, aNl, alN, mlN, nI_add, pk_mul, neg_lt0, if_true, if_false, if_pos, if_neg, up2, uL1, cp2, gdT, gdb_, or_true, true_or, false_or, or_false, and_true, true_and, and_false, false_and, ifb0, ifb1, eq_self, t0, t1, t2, t3, t4, o10, o01, z139a, Bool.false_eq_true, f_X10_isNewPage_L4, hle, h8, hk, bi_f, bi_t]
          exact this
      · rw [ha, Bool.true_or] at this
        simp (disch := omega) only [md_, jn_, bd_, bdE_, ixl, ix_, llN, lNl, tlN, tNl, eNl, lNN, tNN, eNN, aNl, alN, mlN, nI_add, pk_mul, neg_lt0, if_true, if_false, if_pos, if_neg, up2, uL1, cp2, gdT, gdb_, or_true, true_or, false_or, or_false, and_true, true_and, and_false, false_and, ifb0, ifb1, eq_self, t0, t1, t2, t3, t4, o10, o01, z139a, Bool.false_eq_true, f_X10_isNewPage_L4, hle, h8, bi_t]
        exact this) (fun x g hx => by
      subst hx
      have hle : (64 : Int32) ≤ nI (p + 8 * 8) := nI_le (a := 64) (b := p + 8 * 8) (by omega) (by omega)
      rw [f_X10_isNewPage_L4, if_pos hle]) 8 0 0 5000 rfl (by decide) rfl
    exact this
  unfold f_X10_isNewPage wpg
  rw [jn_, key, ix_ _ hp (by decide), jn_, jn_, h.2 p hp]
  cases tpg z p
  · rw [if_pos bi_f]; exact gd0 _
  · rw [if_neg (by decide), Bool.true_and]
    cases any8 (fun i => lb (z.2 39 2) (p + 8 * i)) 8
    · rw [if_pos bi_f]; exact gd0 _
    · rw [if_neg (by decide)]; exact gd1 _
set_option maxRecDepth 100000 in
set_option maxHeartbeats 1000000 in
theorem q_ptwL {z y : sM} (h : Nxt z y) (e : Int32 → sM → Option (sR Int32)) : f_X10_pagesToWrite_L8 e 5000 0 0 y = e (nI (fb_ct (wpg z) 8)) y := by
  refine lpE (fun g i (x : Int32) => f_X10_pagesToWrite_L8 e g x (nI i) y) (fun i x => x = nI (fb_ct (wpg z) i)) _ 8 ?_ ?_ 8 0 _ 5000 rfl (by decide) rfl
  · intro i x g hi hx ih
    have := ih _ rfl
    subst hx
    rw [fb_ct_succ] at this
    have hw := q_new h hi
    cases hl : wpg z i
    · rw [hl] at this hw
      simp (disch := omega) only [md_, jn_, bd_, bdE_, ixl, ix_, llN, lNl, tlN, tNl, eNl, lNN, tNN, eNN, aNl, alN, mlN, nI_add, pk_mul, neg_lt0, if_true, if_false, if_pos, if_neg, up2, uL1, cp2, gdT, gdb_, or_true, true_or, false_or, or_false, and_true, true_and, and_false, false_and, ifb0, ifb1, eq_self, t0, t1, t2, t3, t4, o10, o01, z139a, Bool.false_eq_true, f_X10_pagesToWrite_L8, hw, bi_f]
      exact this
    · rw [hl] at this hw
      simp (disch := omega) only [md_, jn_, bd_, bdE_, ixl, ix_, llN, lNl, tlN, tNl, eNl, lNN, tNN, eNN, aNl, alN, mlN, nI_add, pk_mul, neg_lt0, if_true, if_false, if_pos, if_neg, up2, uL1, cp2, gdT, gdb_, or_true, true_or, false_or, or_false, and_true, true_and, and_false, false_and, ifb0, ifb1, eq_self, t0, t1, t2, t3, t4, o10, o01, z139a, Bool.false_eq_true, f_X10_pagesToWrite_L8, hw, bi_t]
      exact this
  · intro x g hx
    subst hx
    simp (disch := omega) only [md_, jn_, bd_, bdE_, ixl, ix_, llN, lNl, tlN, tNl, eNl, lNN, tNN, eNN, aNl, alN, mlN, nI_add, pk_mul, neg_lt0, if_true, if_false, if_pos, if_neg, up2, uL1, cp2, gdT, gdb_, or_true, true_or, false_or, or_false, and_true, true_and, and_false, false_and, ifb0, ifb1, eq_self, t0, t1, t2, t3, t4, o10, o01, z139a, Bool.false_eq_true, f_X10_pagesToWrite_L8]
-- remark: the preparation on both sides
set_option maxRecDepth 100000 in
set_option maxHeartbeats 1000000 in
theorem prepB {mc mm : sM} {n : Nat} {o : Nat → Nat} (hS : RdyS mc mm n o) (hv : ∀ k, k < 64 → mm.1 115 k = bi (lb (mc.2 36 2) k) ∧ (lb (mc.2 36 2) k = true → mc.1 38 k = mm.1 116 k)) {c : Nat} (h3 : mc.1 36 3 = nI c) (hc : c < 2 ^ 30) :
    ∃ z y, f_X9_prepareNext mc = some (.inl (), z) ∧ f_X10_combine mm = some (.inl (), y) ∧ f_X10_pagesToWrite mm = some (.inl (nI (fb_ct (wpg z) 8)), y) ∧ Nxt z y ∧ ag (fun a _ => a ≠ 39 ∧ a ≠ 40 ∧ a ≠ 41 ∧ a ≠ 50 ∧ a ≠ 51) mc z ∧ ag (fun a _ => a ≠ 135 ∧ a ≠ 136 ∧ a ≠ 137) mm y ∧
      (∀ p, p < 8 → z.1 40 p = mc.1 37 p) ∧ z.1 39 3 = nI (c + 1) ∧ z.1 39 4 = nI ((c + 1) % 2) ∧ z.1 39 5 = mc.1 36 5 := by
  obtain ⟨z, e1, a1, a2, a3, a4, a5, a6, a7, a8⟩ := p_prep hS.1 hS.2.1 (fun i hi => ⟨(hS.2.2.2 i hi).1, (hS.2.2.2 i hi).2.1⟩) (fun i hi k hk => ((hS.2.2.2 i hi).2.2.2 k hk).2.1) h3 hc
  obtain ⟨y, e2, b1, b2, b3⟩ := q_comb hS hv
  have hN : Nxt z y := ⟨fun k hk => by rw [a3 k hk, a4 k hk]; exact b2 k hk, fun p hp => by
    rw [b3 p hp]
    unfold tpg
    rw [any8_cong (fun i hi => a2 (p + 8 * i) (by omega))]⟩
  refine ⟨z, y, e1, e2, ?_, hN, a1, b1, a5, a6, a7, a8⟩
  unfold f_X10_pagesToWrite
  rw [e2, bd_, jn_, q_ptwL hN]
set_option maxRecDepth 100000 in
set_option maxHeartbeats 1000000 in
theorem k_blocksToWrite {mc mm : sM} (h : R mc mm) : Agr [] (f_X9_blocksToWrite mc) (f_X10_blocksToWrite mm) := by
  have hm := R_thr (t := 0) h
  obtain ⟨n, o, hS, -⟩ := R_rdy hm
  by_cases hn : n = 0
  · have e1 : mc.1 0 7 = 0 := by rw [hS.2.1, hn]; rfl
    have e2 : (s_up mm 110 0 0).1 110 19 = 0 := by rw [hS.2.2.1, hn]; rfl
    refine Agr_ok (v := 0) (mc' := mc) (mm' := s_up mm 110 0 0) ?_ ?_ hm (upS _ _ _ _)
    · unfold f_X9_blocksToWrite; rw [if_pos e1]
    · unfold f_X10_blocksToWrite; rw [md_, jn_, if_pos e2]
  · have n3 := hS.1
    have e1 : ¬ mc.1 0 7 = 0 := by rw [hS.2.1]; exact fun q => hn ((nI_eq (b := 0) (by omega) (by decide)).mp q)
    have e2 : ¬ (s_up mm 110 0 0).1 110 19 = 0 := by rw [hS.2.2.1]; exact fun q => hn ((nI_eq (b := 0) (by omega) (by decide)).mp q)
    obtain ⟨c, hc, h3⟩ := hm.2.2.1.2.2.2.1
    obtain ⟨z, y, w1, w2, w3, w4, a1, b1, -⟩ := prepB hS (fun k hk => R_has hm hk) h3 (by omega)
    have hz := p_dbn z
    have q1 : nI (1 + fb_ct (wpg z) 8) + 1 = nI (fb_ct (wpg z) 8 + 2) := by
      have := nI_add (1 + fb_ct (wpg z) 8) 1
      rw [show 1 + fb_ct (wpg z) 8 + 1 = fb_ct (wpg z) 8 + 2 by omega] at this
      exact this
    have q2 : nI (fb_ct (wpg z) 8) + 2 = nI (fb_ct (wpg z) 8 + 2) := nI_add _ 2
    refine Agr_ok (v := nI (fb_ct (wpg z) 8 + 2)) (mc' := z) (mm' := y) ?_ ?_ (R_ag (ag_mo a1 (by intro a j q; omega)) (ag_mo b1 (by intro a j q; omega)) hm) ?_
    · unfold f_X9_blocksToWrite; rw [if_neg e1, w1, bd_, hz, bd_, q1]
    · unfold f_X10_blocksToWrite; rw [md_, jn_, if_neg e2, w3, bd_, q2]
    · rw [(b1 110 0 (by omega)).1]; exact upS _ _ _ _
