/-! PURE: the pages of the new commit: blocks, all different. -/
set_option maxRecDepth 100000 in
set_option maxHeartbeats 1000000 in
theorem frB_old {mc : sM} {b p : Nat} (hp : p < 8) (h : mc.1 37 p = nI b) : frB mc b = false := by
  have h1 := ub_pg h 8 hp
  have h0 : fre mc b 0 = false := by rw [fre, h1]; simp
  have : ∀ n, fre mc b n = false := fun n => by
    induction n with
    | zero => exact h0
    | succ n ih => rw [fre, ih, Bool.false_and]
  exact this 2
set_option maxRecDepth 100000 in
set_option maxHeartbeats 1000000 in
theorem plc_c {mc mm z : sM} {B : Nat → Nat} (h : R mc mm) (hB : isBk mc (fb_ct (wpg z) 8) B) (zp : ∀ q, q < 8 → z.1 40 q = mc.1 37 q) {q : Nat} (hq : q < 8) :
    (wpg z q = true ∧ fb_ct (wpg z) q < fb_ct (wpg z) 8 ∧ plc z B q = nI (B (fb_ct (wpg z) q))) ∨ plc z B q = -1 ∨ ∃ b, 2 ≤ b ∧ b < 32 ∧ plc z B q = nI b ∧ frB mc b = false ∧ mc.1 37 q = nI b := by
  unfold plc
  cases hw : wpg z q
  · rw [if_neg (by decide)]
    cases ht : tpg z q
    · rw [if_neg (by decide), zp q hq]
      rcases ((h.2.2.1.1.2.2.2.1 q hq).1 ▸ (h.2.2.1.1.2.2.2.1 q hq).2 : isB (mc.1 37 q)) with e | ⟨b, b1, b2, b3⟩
      · exact Or.inr (Or.inl e)
      · exact Or.inr (Or.inr ⟨b, b1, b2, b3, frB_old hq b3, b3⟩)
    · rw [if_pos rfl]; exact Or.inr (Or.inl rfl)
  · rw [if_pos rfl]
    have h1 := fb_ct_mono (wpg z) (show q + 1 ≤ 8 by omega)
    rw [fb_ct_succ, hw, if_pos rfl] at h1
    exact Or.inl ⟨rfl, by omega, rfl⟩
set_option maxRecDepth 100000 in
set_option maxHeartbeats 1000000 in
theorem bk_inj {mc : sM} {N t u : Nat} {B : Nat → Nat} (hB : isBk mc N B) (ht : t ≤ N) (hu : u ≤ N) (e : B t = B u) : t = u := by
  rw [← (hB t ht).2.2, e, (hB u hu).2.2]
set_option maxRecDepth 100000 in
set_option maxHeartbeats 1000000 in
theorem plc_isB {mc mm z : sM} {B : Nat → Nat} (h : R mc mm) (hB : isBk mc (fb_ct (wpg z) 8) B) (zp : ∀ q, q < 8 → z.1 40 q = mc.1 37 q) {q : Nat} (hq : q < 8) : isB (plc z B q) := by
  rcases plc_c h hB zp hq with ⟨-, h1, h2⟩ | h2 | ⟨b, b1, b2, b3, -⟩
  · obtain ⟨b1, b2, -⟩ := hB _ (Nat.le_of_lt h1)
    exact Or.inr ⟨_, frB_2 b2, b1, h2⟩
  · exact Or.inl h2
  · exact Or.inr ⟨b, b1, b2, b3⟩
set_option maxRecDepth 100000 in
set_option maxHeartbeats 1000000 in
theorem plc_tab {mc mm z : sM} {B : Nat → Nat} (h : R mc mm) (hB : isBk mc (fb_ct (wpg z) 8) B) (zp : ∀ q, q < 8 → z.1 40 q = mc.1 37 q) {q : Nat} (hq : q < 8) : plc z B q ≠ nI (B (fb_ct (wpg z) 8)) := by
  obtain ⟨c1, c2, -⟩ := hB _ (Nat.le_refl _)
  rcases plc_c h hB zp hq with ⟨-, h1, h2⟩ | h2 | ⟨b, b1, b2, b3, b4, -⟩
  · obtain ⟨d1, -⟩ := hB _ (Nat.le_of_lt h1)
    rw [h2]
    intro e
    have := bk_inj hB (Nat.le_of_lt h1) (Nat.le_refl _) ((nI_eq (by omega) (by omega)).mp e)
    omega
  · rw [h2]; exact fun e => nIm1 (by omega) e.symm
  · rw [b3]
    intro e
    have := (nI_eq (by omega) (by omega)).mp e
    rw [← this, b4] at c2
    exact absurd c2 (by decide)
set_option maxRecDepth 100000 in
set_option maxHeartbeats 1000000 in
theorem plc_dis {mc mm z : sM} {B : Nat → Nat} (h : R mc mm) (hB : isBk mc (fb_ct (wpg z) 8) B) (zp : ∀ q, q < 8 → z.1 40 q = mc.1 37 q) {p q : Nat} (hp : p < 8) (hq : q < 8) (hpq : p ≠ q) (e : plc z B p = plc z B q) : plc z B p = -1 := by
  rcases plc_c h hB zp hp with ⟨w1, h1, h2⟩ | h2 | ⟨b, b1, b2, b3, b4, b5⟩
  · rcases plc_c h hB zp hq with ⟨v1, g1, g2⟩ | g2 | ⟨c, c1, c2, c3, c4, -⟩
    · obtain ⟨d1, -⟩ := hB _ (Nat.le_of_lt h1)
      obtain ⟨d2, -⟩ := hB _ (Nat.le_of_lt g1)
      rw [h2, g2] at e
      have e1 := bk_inj hB (Nat.le_of_lt h1) (Nat.le_of_lt g1) ((nI_eq (by omega) (by omega)).mp e)
      exact absurd (fb_ct_kth_one w1 v1 e1) hpq
    · rw [e, g2]
    · obtain ⟨d1, d2, -⟩ := hB _ (Nat.le_of_lt h1)
      rw [h2, c3] at e
      have := (nI_eq (by omega) (by omega)).mp e
      rw [this, c4] at d2
      exact absurd d2 (by decide)
  · exact h2
  · rcases plc_c h hB zp hq with ⟨v1, g1, g2⟩ | g2 | ⟨c, c1, c2, c3, c4, c5⟩
    · obtain ⟨d1, d2, -⟩ := hB _ (Nat.le_of_lt g1)
      rw [g2, b3] at e
      have := (nI_eq (by omega) (by omega)).mp e
      rw [← this, b4] at d2
      exact absurd d2 (by decide)
    · rw [e, g2]
    · rw [b3, c3] at e
      have := (nI_eq (by omega) (by omega)).mp e
      have := h.2.2.1.2.2.2.2.2 p q hp hq hpq (by rw [b5, c5, this])
      rw [b5] at this
      exact absurd this (nIm1 (by omega))
