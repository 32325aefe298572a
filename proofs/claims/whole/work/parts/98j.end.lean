/-! PURE: the end of commit, class and reference. -/
set_option maxRecDepth 100000 in
set_option maxHeartbeats 1000000 in
theorem cm_ec {m : sM} {w lg c n : Nat} {o : Nat → Nat} {fl : Bool} (hw : m.1 52 1 = nI w) (h2 : m.1 52 2 = if fl = true then 1 else 0) (hlg : lg ≤ 8) (h94 : m.1 94 1 = nI lg) (h39 : m.1 39 3 = nI c)
    (n3 : n ≤ 3) (h7 : m.1 0 7 = nI n) (ho : ∀ i, i < n → o i < 3 ∧ m.1 84 i = nI (o i)) :
    ∃ s, f_X9_endCommit m = some (.inl (if fl = true then -1 else nI c), if fl = true then s_up (x_end s) 0 15 0 else s_up (erC o (x_cpV 36 39 s) n) 0 7 0) ∧
      ag (fun a k => ¬ (96 ≤ a ∧ a < 104) ∧ ¬ (a = 94 ∧ k = 1) ∧ a ≠ 108) m s ∧ (∀ r k, r < 8 → k < 4 → s.1 (96 + r) k = if r = 0 then lg4 (if fl = true then -1 else nI c) (nI n) (nI (fb_ct (tpg m) 8)) (nI w) k else m.1 (96 + (r - 1)) k) ∧
      s.1 94 1 = nI (if 8 ≤ lg then lg else lg + 1) ∧ ∀ i, i < 8 → s.1 108 i = stt (m.1 108) (if fl = true then 1 else 0) (nI w) (if fl = true then 1 else 0) i := by
  obtain ⟨s1, e1, a1, b1, d1⟩ := p_log (if fl = true then -1 else nI c) (nI n) (nI (fb_ct (tpg m) 8)) (nI w) hlg h94
  obtain ⟨s, hs⟩ : ∃ s, s = s_up (s_up (s_up s1 108 2 (s1.1 108 2 + s1.1 52 1)) 108 3 ((s_up s1 108 2 (s1.1 108 2 + s1.1 52 1)).1 108 3 + (s_up s1 108 2 (s1.1 108 2 + s1.1 52 1)).1 52 2)) 108 (if fl = true then 1 else 0) ((s_up (s_up s1 108 2 (s1.1 108 2 + s1.1 52 1)) 108 3 ((s_up s1 108 2 (s1.1 108 2 + s1.1 52 1)).1 108 3 + (s_up s1 108 2 (s1.1 108 2 + s1.1 52 1)).1 52 2)).1 108 (if fl = true then 1 else 0) + 1) := ⟨_, rfl⟩
  have sa : ag (fun a k => a ≠ 108) s1 s := by rw [hs]; exact ag_up (ag_up (ag_up (ag_rf s1) (by omega)) (by omega)) (by omega)
  have s108 : ∀ i, s1.1 108 i = m.1 108 i := fun i => (a1 108 i (by omega)).1
  have s52 : ∀ i, s1.1 52 i = m.1 52 i := fun i => (a1 52 i (by omega)).1
  have hst : ∀ i, i < 8 → s.1 108 i = stt (m.1 108) (if fl = true then 1 else 0) (nI w) (if fl = true then 1 else 0) i := fun i hi => by
    rw [hs]
    unfold stt
    cases fl
    · simp only [Bool.false_eq_true, if_false] at h2 ⊢
      rw [up1, up1, up1, up1, up1, up1, up1]
      simp only [s108, s52, hw, h2, true_and, reduceIte, Nat.reduceEqDiff, false_and, and_false, and_true, and_self]
      by_cases i3 : i = 3
      · subst i3; rfl
      by_cases i2 : i = 2
      · subst i2; rfl
      simp only [if_neg i3, if_neg i2]
    · simp only [if_true] at h2 ⊢
      rw [up1, up1, up1, up1, up1, up1, up1]
      simp only [s108, s52, hw, h2, true_and, reduceIte, Nat.reduceEqDiff, false_and, and_false, and_true, and_self]
      by_cases i3 : i = 3
      · subst i3; rfl
      by_cases i2 : i = 2
      · subst i2; rfl
      simp only [if_neg i3, if_neg i2]
  refine ⟨s, ?_, ag_tr (ag_mo a1 (by intro a k q; omega)) (ag_mo sa (by intro a k q; omega)), fun r k hr hk => by rw [(sa (96 + r) k (by omega)).1]; exact b1 r k hr hk, by rw [(sa 94 1 (by omega)).1]; exact d1, hst⟩
  unfold f_X9_endCommit
  cases fl
  · simp only [Bool.false_eq_true, if_false] at h2 e1 hs ⊢
    rw [jn_, h2, if_pos (Int32.le_refl 0)]
    dsimp only
    rw [jn_, if_pos rfl]
    dsimp only
    rw [h39, p_cnt, bd_, h7]
    rw [hw, e1, bd_, ixl _ (by decide) (by decide), ixl _ (by decide) (by decide), md_, ixl _ (by decide) (by decide), ixl _ (by decide) (by decide), md_, jn_, if_pos rfl, ixl _ (by decide) (by decide), ixl _ (by decide) (by decide), md_, ← hs, p_cpV (by decide), bd_, p_erd (n := n) (o := o) n3 ?_ ?_, bd_]
    · rw [(cpV_ag (P := fun a j => a = 0) (ag_rf s) (by intro b j; omega) 0 7 rfl).1, (sa 0 7 (by omega)).1, (a1 0 7 (by omega)).1]; exact h7
    · intro i hi
      rw [(cpV_ag (P := fun a j => a = 84) (ag_rf s) (by intro b j; omega) 84 i rfl).1, (sa 84 i (by omega)).1, (a1 84 i (by omega)).1]; exact ho i hi
  · simp only [if_true] at h2 e1 hs ⊢
    rw [jn_, h2, if_neg (by decide)]
    dsimp only
    rw [jn_, if_neg (by decide)]
    dsimp only
    rw [p_cnt, bd_, h7]
    rw [hw, e1, bd_, ixl _ (by decide) (by decide), ixl _ (by decide) (by decide), md_, ixl _ (by decide) (by decide), ixl _ (by decide) (by decide), md_, jn_, if_neg (by decide), ixl _ (by decide) (by decide), ixl _ (by decide) (by decide), md_, ← hs, p_end, bd_, md_]
