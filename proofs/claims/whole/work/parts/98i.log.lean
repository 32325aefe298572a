/-! PURE: a commit's log, statistics and end. -/
set_option maxRecDepth 100000 in
set_option maxHeartbeats 1000000 in
theorem p_cnt (m : sM) : f_X0_countPages 50 m = some (.inl (nI (fb_ct (tpg m) 8)), m) := by
  unfold f_X0_countPages
  rw [jn_]
  refine lpE (fun g i (x : Int32) => f_X0_countPages_L4 50 _ g x (nI i) m) (fun i x => x = nI (fb_ct (tpg m) i)) _ 8 ?_ ?_ 8 0 _ 5000 rfl (by decide) rfl
  · intro i x g hi hx ih
    have := ih _ rfl
    subst hx
    rw [fb_ct_succ] at this
    have hw : f_X0_touchesPage 50 (nI i) m = some (.inl (bi (tpg m i)), m) := p_touch hi m
    cases hl : tpg m i
    · rw [hl] at this hw
      simp (disch := omega) only [md_, jn_, bd_, bdE_, ixl, ix_, llN, lNl, tlN, tNl, eNl, lNN, tNN, eNN, aNl, alN, mlN, nI_add, pk_mul, neg_lt0, if_true, if_false, if_pos, if_neg, up2, uL1, cp2, gdT, gdb_, or_true, true_or, false_or, or_false, and_true, true_and, and_false, false_and, ifb0, ifb1, eq_self, t0, t1, t2, t3, t4, o10, o01, z139a, Bool.false_eq_true, f_X0_countPages_L4, hw, bi_f]
      exact this
    · rw [hl] at this hw
      simp (disch := omega) only [md_, jn_, bd_, bdE_, ixl, ix_, llN, lNl, tlN, tNl, eNl, lNN, tNN, eNN, aNl, alN, mlN, nI_add, pk_mul, neg_lt0, if_true, if_false, if_pos, if_neg, up2, uL1, cp2, gdT, gdb_, or_true, true_or, false_or, or_false, and_true, true_and, and_false, false_and, ifb0, ifb1, eq_self, t0, t1, t2, t3, t4, o10, o01, z139a, Bool.false_eq_true, f_X0_countPages_L4, hw, bi_t]
      exact this
  · intro x g hx
    subst hx
    simp (disch := omega) only [md_, jn_, bd_, bdE_, ixl, ix_, llN, lNl, tlN, tNl, eNl, lNN, tNN, eNN, aNl, alN, mlN, nI_add, pk_mul, neg_lt0, if_true, if_false, if_pos, if_neg, up2, uL1, cp2, gdT, gdb_, or_true, true_or, false_or, or_false, and_true, true_and, and_false, false_and, ifb0, ifb1, eq_self, t0, t1, t2, t3, t4, o10, o01, z139a, Bool.false_eq_true, f_X0_countPages_L4]
def lg4 (a b c d : Int32) : Nat → Int32 := fun w => if w = 0 then a else if w = 1 then b else if w = 2 then c else d
set_option maxRecDepth 100000 in
set_option maxHeartbeats 1000000 in
theorem p_logL (a b c d : Int32) (m : sM) : ∃ s, (∀ e, f_X3_append_L4 a b c d e 5000 7 m = e s) ∧ ag (fun a _ => ¬ (96 ≤ a ∧ a < 104)) m s ∧ ∀ r w, r < 8 → w < 4 → s.1 (96 + r) w = if r = 0 then m.1 96 w else m.1 (96 + (r - 1)) w := by
  refine Exists.elim (lq1 (fun e g i (s : sM) => f_X3_append_L4 a b c d e g (nI (7 - i)) s) (fun i s => ag (fun a _ => ¬ (96 ≤ a ∧ a < 104)) m s ∧ ∀ r w, r < 8 → w < 4 → s.1 (96 + r) w = if 7 - i < r then m.1 (96 + (r - 1)) w else m.1 (96 + r) w) 7 ?_ ?_ 7 0 m 5000 rfl (by decide) ⟨ag_rf m, fun r w hr hw => by rw [if_neg (by omega)]⟩) ?_
  rotate_right
  · rintro s ⟨⟨h1, h2⟩, he⟩
    refine ⟨s, he, h1, fun r w hr hw => ?_⟩
    rw [h2 r w hr hw]
    by_cases q : r = 0
    · rw [if_neg (by omega), if_pos q, q]
    · rw [if_pos (by omega), if_neg q]
  · rintro i s hi ⟨j1, j2⟩
    have h0 : ¬ nI (7 - i) ≤ 0 := nI_ge (a := 0) (b := 7 - i) (by omega) (by omega)
    have hs : nI (7 - i) - 1 = nI (6 - i) := by
      have := nI_pred (6 - i)
      rwa [show 6 - i + 1 = 7 - i by omega] at this
    have hm : nI (7 - i) + (-1) = nI (7 - (i + 1)) := by
      have := pk_m1 (7 - (i + 1))
      rwa [show 7 - (i + 1) + 1 = 7 - i by omega] at this
    have e0 : (0 : Int32).toNatClampNeg = 0 := by decide
    have e4 : (4 : Int32).toNatClampNeg = 4 := by decide
    refine ⟨s_cp s (96 + (6 - i)) (96 + (7 - i)) 0 0 4, ⟨ag_cp j1 (by intro j _ _; omega), fun r w hr hw => ?_⟩, fun e g => ?_⟩
    · rw [cp1]
      by_cases q : r = 7 - i
      · have c1 : 96 + r = 96 + (7 - i) ∧ 0 ≤ w ∧ w < 0 + 4 := ⟨by omega, by omega, by omega⟩
        have := j2 (6 - i) w (by omega) hw
        rw [if_neg (by omega)] at this
        rw [if_pos c1, if_pos (by omega), show 0 + (w - 0) = w by omega, this, show 6 - i = r - 1 by omega]
      · rw [if_neg (by omega), j2 r w hr hw]
        by_cases q2 : 7 - i < r
        · rw [if_pos q2, if_pos (by omega)]
        · rw [if_neg q2, if_neg (by omega)]
    · rw [f_X3_append_L4, if_neg h0, hs, ix_ _ (by omega) (by decide), ix_ _ (by omega) (by decide), gd_ ⟨by decide, by decide, by decide, by decide, by decide, fun _ _ => rfl⟩, md_, e0, e4, Nat.one_mul, Nat.one_mul, hm]
  · rintro e g s -
    rw [f_X3_append_L4, if_pos (by decide)]
set_option maxRecDepth 100000 in
set_option maxHeartbeats 1000000 in
theorem p_log (a b c d : Int32) {m : sM} {n : Nat} (hn : n ≤ 8) (hm : m.1 94 1 = nI n) : ∃ s, f_X3_append a b c d m = some (.inl (), s) ∧ ag (fun a k => ¬ (96 ≤ a ∧ a < 104) ∧ ¬ (a = 94 ∧ k = 1)) m s ∧ (∀ r w, r < 8 → w < 4 → s.1 (96 + r) w = if r = 0 then lg4 a b c d w else m.1 (96 + (r - 1)) w) ∧ s.1 94 1 = nI (if 8 ≤ n then n else n + 1) := by
  obtain ⟨s, he, h1, h2⟩ := p_logL a b c d m
  obtain ⟨X, hX⟩ : ∃ X, X = s_up (s_up (s_up (s_up s 96 0 a) 96 1 b) 96 2 c) 96 3 d := ⟨_, rfl⟩
  have hXa : ag (fun a _ => ¬ (96 ≤ a ∧ a < 104)) m X := by rw [hX]; exact ag_up (ag_up (ag_up (ag_up h1 (by omega)) (by omega)) (by omega)) (by omega)
  have hX94 : X.1 94 1 = nI n := ((hXa 94 1 (by omega)).1).trans hm
  have hXr : ∀ r w, r < 8 → w < 4 → X.1 (96 + r) w = if r = 0 then lg4 a b c d w else m.1 (96 + (r - 1)) w := fun r w hr hw => by
    rw [hX, up1, up1, up1, up1]
    by_cases q : r = 0
    · subst q
      unfold lg4
      rw [if_pos rfl]
      obtain rfl | rfl | rfl | rfl : w = 0 ∨ w = 1 ∨ w = 2 ∨ w = 3 := by omega
      all_goals rfl
    · rw [if_neg (by omega), if_neg (by omega), if_neg (by omega), if_neg (by omega), h2 r w hr hw]
      rw [if_neg q, if_neg q]
  have hf : f_X3_append a b c d m = (if 8 ≤ X.1 94 1 then some (.inl (), X) else some (.inl (), s_up X 94 1 (X.1 94 1 + 1))) := by
    unfold f_X3_append
    rw [jn_, he, ixl _ (by decide) (by decide), ixl _ (by decide) (by decide), md_, ixl _ (by decide) (by decide), ixl _ (by decide) (by decide), md_, ixl _ (by decide) (by decide), ixl _ (by decide) (by decide), md_, ixl _ (by decide) (by decide), ixl _ (by decide) (by decide), md_, jn_]
    rw [hX]
    rfl
  rw [hf, hX94]
  by_cases q : 8 ≤ n
  · have q' : (8 : Int32) ≤ nI n := nI_le (a := 8) q (by omega)
    rw [if_pos q']
    refine ⟨X, rfl, ag_mo hXa (by intro a k q; omega), hXr, ?_⟩
    rw [if_pos q]; exact hX94
  · have q' : ¬ (8 : Int32) ≤ nI n := nI_ge (a := n) (b := 8) (by omega) (by decide)
    have n1 : nI n + 1 = nI (n + 1) := nI_add n 1
    rw [if_neg q', n1]
    refine ⟨_, rfl, ag_up (ag_mo hXa (by intro a k q; omega)) (by omega), fun r w hr hw => ?_, ?_⟩
    · rw [up1, if_neg (by omega)]; exact hXr r w hr hw
    · rw [if_neg q]; exact upS _ _ _ _
set_option maxRecDepth 100000 in
set_option maxHeartbeats 1000000 in
theorem q_logL {m : sM} {T : Nat → Bool} (hT : ∀ p, p < 8 → m.1 135 p = bi (T p)) (p1 p2 : Int32) (e : sM → Option (sR Unit)) : f_X10_logCommit_L41 p1 p2 e 5000 0 (s_up m 129 2 0) = e (s_up m 129 2 (nI (fb_ct T 8))) := by
  refine lpE (fun g i (z : sM) => f_X10_logCommit_L41 p1 p2 e g (nI i) z) (fun i z => z = s_up m 129 2 (nI (fb_ct T i))) _ 8 ?_ ?_ 8 0 _ 5000 rfl (by decide) rfl
  · intro i z g hi hz ih
    have := ih _ rfl
    subst hz
    rw [fb_ct_succ] at this
    have e135 : (s_up m 129 2 (nI (fb_ct T i))).1 135 i = bi (T i) := by rw [up1, if_neg (by omega)]; exact hT i hi
    have two : ∀ x y, s_up (s_up m 129 2 x) 129 2 y = s_up m 129 2 y := fun x y => sM_ext (fun a j => by
      rw [up1, up1, up1]
      by_cases q : a = 129 ∧ j = 2
      · rw [if_pos q, if_pos q]
      · rw [if_neg q, if_neg q, if_neg q]) rfl
    cases hl : T i
    · rw [hl] at this e135
      simp (disch := omega) only [md_, jn_, bd_, bdE_, ixl, ix_, llN, lNl, tlN, tNl, eNl, lNN, tNN, eNN, aNl, alN, mlN, nI_add, pk_mul, neg_lt0, if_true, if_false, if_pos, if_neg, up2, uL1, cp2, gdT, gdb_, or_true, true_or, false_or, or_false, and_true, true_and, and_false, false_and, ifb0, ifb1, eq_self, t0, t1, t2, t3, t4, o10, o01, z139a, Bool.false_eq_true, f_X10_logCommit_L41, e135, upS, two, bi_f]
      exact this
    · rw [hl] at this e135
      simp (disch := omega) only [md_, jn_, bd_, bdE_, ixl, ix_, llN, lNl, tlN, tNl, eNl, lNN, tNN, eNN, aNl, alN, mlN, nI_add, pk_mul, neg_lt0, if_true, if_false, if_pos, if_neg, up2, uL1, cp2, gdT, gdb_, or_true, true_or, false_or, or_false, and_true, true_and, and_false, false_and, ifb0, ifb1, eq_self, t0, t1, t2, t3, t4, o10, o01, z139a, Bool.false_eq_true, f_X10_logCommit_L41, e135, upS, two, bi_t]
      exact this
  · intro z g hz
    subst hz
    simp (disch := omega) only [md_, jn_, bd_, bdE_, ixl, ix_, llN, lNl, tlN, tNl, eNl, lNN, tNN, eNN, aNl, alN, mlN, nI_add, pk_mul, neg_lt0, if_true, if_false, if_pos, if_neg, up2, uL1, cp2, gdT, gdb_, or_true, true_or, false_or, or_false, and_true, true_and, and_false, false_and, ifb0, ifb1, eq_self, t0, t1, t2, t3, t4, o10, o01, z139a, Bool.false_eq_true, f_X10_logCommit_L41]
-- remark: the statistics behind a commit
def stt (f : Nat → Int32) (k : Nat) (w q : Int32) : Nat → Int32 := fun i => if i = 3 then f 3 + q else if i = 2 then f 2 + w else if i = k then f k + 1 else f i
set_option maxRecDepth 100000 in
set_option maxHeartbeats 1000000 in
theorem q_log {m : sM} {T : Nat → Bool} {n : Nat} (hT : ∀ p, p < 8 → m.1 135 p = bi (T p)) (hn : n ≤ 8) (h25 : m.1 110 25 = nI n) (p1 p2 : Int32) (k : Nat) (hk : k = if 0 ≤ p1 then 0 else 1) : ∃ u, f_X10_logCommit p1 p2 m = some (.inl (), u) ∧ ag (fun a j => a ≠ 129 ∧ a ≠ 130 ∧ ¬ (a = 110 ∧ j = 25)) m u ∧
    (∀ r w, r < 8 → w < 4 → u.1 129 (4 * r + w) = if r = 0 then lg4 p1 (m.1 110 19) (nI (fb_ct T 8)) p2 w else m.1 129 (4 * (r - 1) + w)) ∧ u.1 110 25 = nI (if 8 ≤ n then n else n + 1) ∧ ∀ i, i < 8 → u.1 130 i = stt (m.1 130) k p2 (if 0 ≤ p1 then 0 else 1) i := by
  have e0 : (0 : Int32).toNatClampNeg = 0 := by decide
  have e4 : (4 : Int32).toNatClampNeg = 4 := by decide
  have e28 : (28 : Int32).toNatClampNeg = 28 := by decide
  obtain ⟨M1, hM1⟩ : ∃ M1, M1 = s_up (s_up (s_cp m 129 129 0 4 28) 129 0 p1) 129 1 (m.1 110 19) := ⟨_, rfl⟩
  have m1a : ag (fun a _ => a ≠ 129) m M1 := by rw [hM1]; exact ag_up (ag_up (ag_cp (ag_rf m) (by intro j _ _; omega)) (by omega)) (by omega)
  have m1T : ∀ p, p < 8 → M1.1 135 p = bi (T p) := fun p hp => ((m1a 135 p (by omega)).1).trans (hT p hp)
  have c19 : (s_up (s_cp m 129 129 0 4 28) 129 0 p1).1 110 19 = m.1 110 19 := by rw [up1, if_neg (by omega), cp1, if_neg (by omega)]
  obtain ⟨M2, hM2⟩ : ∃ M2, M2 = s_up (s_up M1 129 2 (nI (fb_ct T 8))) 129 3 p2 := ⟨_, rfl⟩
  have m2a : ag (fun a _ => a ≠ 129) m M2 := by rw [hM2]; exact ag_up (ag_up m1a (by omega)) (by omega)
  have m2r : ∀ r w, r < 8 → w < 4 → M2.1 129 (4 * r + w) = if r = 0 then lg4 p1 (m.1 110 19) (nI (fb_ct T 8)) p2 w else m.1 129 (4 * (r - 1) + w) := fun r w hr hw => by
    rw [hM2, up1, up1, hM1, up1, up1, cp1]
    by_cases q : r = 0
    · subst q
      unfold lg4
      rw [if_pos rfl]
      obtain rfl | rfl | rfl | rfl : w = 0 ∨ w = 1 ∨ w = 2 ∨ w = 3 := by omega
      all_goals rfl
    · have i1 : 129 = 129 ∧ 4 ≤ 4 * r + w ∧ 4 * r + w < 4 + 28 := ⟨rfl, by omega, by omega⟩
      rw [if_neg (show ¬ (129 = 129 ∧ 4 * r + w = 3) by omega), if_neg (show ¬ (129 = 129 ∧ 4 * r + w = 2) by omega), if_neg (show ¬ (129 = 129 ∧ 4 * r + w = 1) by omega), if_neg (show ¬ (129 = 129 ∧ 4 * r + w = 0) by omega), if_pos i1, if_neg q, show 0 + (4 * r + w - 4) = 4 * (r - 1) + w by omega]
  have h25' : M2.1 110 25 = nI n := ((m2a 110 25 (by omega)).1).trans h25
  have n1 : nI n + 1 = nI (n + 1) := nI_add n 1
  have hsz : (if nI (n + 1) < 8 then nI (n + 1) else 8) = nI (if 8 ≤ n then n else n + 1) := by
    by_cases q : 8 ≤ n
    · have q' : ¬ nI (n + 1) < (8 : Int32) := nI_nlt (a := n + 1) (b := 8) (by omega) (by omega)
      rw [if_neg q', if_pos q, show n = 8 by omega]
      rfl
    · by_cases q2 : n = 7
      · subst q2; decide
      · have q' : nI (n + 1) < (8 : Int32) := nI_lt (a := n + 1) (b := 8) (by omega) (by decide)
        rw [if_pos q', if_neg q]
  obtain ⟨M3, hM3⟩ : ∃ M3, M3 = s_up M2 110 25 (nI (if 8 ≤ n then n else n + 1)) := ⟨_, rfl⟩
  have m3s : ∀ i, M3.1 130 i = m.1 130 i := fun i => by rw [hM3, up1, if_neg (by omega), (m2a 130 i (by omega)).1]
  have hf : f_X10_logCommit p1 p2 m = some (.inl (), s_up (s_up (s_up M3 130 k (M3.1 130 k + 1)) 130 2 ((s_up M3 130 k (M3.1 130 k + 1)).1 130 2 + p2)) 130 3 ((s_up (s_up M3 130 k (M3.1 130 k + 1)) 130 2 ((s_up M3 130 k (M3.1 130 k + 1)).1 130 2 + p2)).1 130 3 + (if 0 ≤ p1 then 0 else 1))) := by
    unfold f_X10_logCommit
    rw [gd_ ⟨by decide, by decide, by decide, by decide, by decide, fun _ _ => rfl⟩, md_, e0, e4, e28, ixl _ (by decide) (by decide), md_, ixl _ (by decide) (by decide), c19, md_, ← hM1, ixl _ (by decide) (by decide), md_, jn_, q_logL m1T, ixl _ (by decide) (by decide), md_, ← hM2, h25', n1, hsz, md_, ← hM3, jn_]
    by_cases q : 0 ≤ p1
    · rw [if_pos q] at hk
      subst hk
      rw [if_pos q]
      dsimp only
      rw [ixl _ (by decide) (by decide), ixl _ (by decide) (by decide), md_, ixl _ (by decide) (by decide), ixl _ (by decide) (by decide), md_, ixl _ (by decide) (by decide), jn_, if_pos q]
      dsimp only
      rw [ixl _ (by decide) (by decide), md_, if_pos q]
    · rw [if_neg q] at hk
      subst hk
      rw [if_neg q]
      dsimp only
      rw [ixl _ (by decide) (by decide), ixl _ (by decide) (by decide), md_, ixl _ (by decide) (by decide), ixl _ (by decide) (by decide), md_, ixl _ (by decide) (by decide), jn_, if_neg q]
      dsimp only
      rw [ixl _ (by decide) (by decide), md_, if_neg q]
  have hk01 : k < 2 := by rw [hk]; split <;> decide
  refine ⟨_, hf, ?_, fun r w hr hw => ?_, ?_, fun i hi => ?_⟩
  · refine ag_up (ag_up (ag_up ?_ (by omega)) (by omega)) (by omega)
    rw [hM3]
    exact ag_up (ag_mo m2a (by intro a j q; omega)) (by omega)
  · rw [up1, if_neg (by omega), up1, if_neg (by omega), up1, if_neg (by omega), hM3, up1, if_neg (by omega)]; exact m2r r w hr hw
  · rw [up1, if_neg (by omega), up1, if_neg (by omega), up1, if_neg (by omega), hM3]; exact upS _ _ _ _
  · have v2 : (s_up M3 130 k (M3.1 130 k + 1)).1 130 2 = m.1 130 2 := by rw [up1, if_neg (by omega), m3s]
    have v3 : ∀ x, (s_up (s_up M3 130 k (M3.1 130 k + 1)) 130 2 x).1 130 3 = m.1 130 3 := fun x => by rw [up1, if_neg (by omega), up1, if_neg (by omega), m3s]
    rw [v3, v2, m3s, up1, up1, up1, m3s]
    unfold stt
    by_cases q3 : i = 3
    · rw [if_pos ⟨rfl, q3⟩, if_pos q3]
    · rw [if_neg (fun w => q3 w.2), if_neg q3]
      by_cases q2 : i = 2
      · rw [if_pos ⟨rfl, q2⟩, if_pos q2]
      · rw [if_neg (fun w => q2 w.2), if_neg q2]
        by_cases qk : i = k
        · rw [if_pos ⟨rfl, qk⟩, if_pos qk]
        · rw [if_neg (fun w => qk w.2), if_neg qk]
/-! the ready slots are emptied -/
def erC (o : Nat → Nat) (m : sM) : Nat → sM
  | 0 => m
  | i + 1 => x_rst (54 + 10 * o i) 0 (erC o m i)
def eiM (o : Nat → Nat) (m : sM) : Nat → sM
  | 0 => m
  | i + 1 => y_idl (o i) (eiM o m i)
set_option maxRecDepth 100000 in
set_option maxHeartbeats 1000000 in
theorem erC_ag {P : Nat → Nat → Prop} {o : Nat → Nat} {m m1 : sM} (h : ag P m m1) : ∀ n, (∀ i, i < n → ¬ P (54 + 10 * o i) 3 ∧ ¬ P (54 + 10 * o i) 2 ∧ ¬ P (54 + 10 * o i + 1) 1 ∧ ¬ P (54 + 10 * o i + 1) 2) → ag P m (erC o m1 n)
  | 0, _ => h
  | n + 1, hp => by
    rw [erC]
    obtain ⟨a, b, c, d⟩ := hp n (by omega)
    exact rst_ag (erC_ag h n (fun i hi => hp i (by omega))) a b c d
set_option maxRecDepth 100000 in
set_option maxHeartbeats 1000000 in
theorem eiM_ag {P : Nat → Nat → Prop} {o : Nat → Nat} {m m1 : sM} (h : ag P m m1) : ∀ n, (∀ i, i < n → ¬ P 118 (o i) ∧ ¬ P 122 (o i) ∧ ∀ j, 64 * o i ≤ j → j < 64 * o i + 64 → ¬ P 119 j) → ag P m (eiM o m1 n)
  | 0, _ => h
  | n + 1, hp => by
    rw [eiM]
    obtain ⟨a, b, c⟩ := hp n (by omega)
    exact idl_ag (eiM_ag h n (fun i hi => hp i (by omega))) a b c
set_option maxRecDepth 100000 in
set_option maxHeartbeats 1000000 in
theorem erC_at (o : Nat → Nat) (m : sM) : ∀ n i, i < n → (erC o m n).1 (54 + 10 * o i) 3 = 0 ∧ (erC o m n).1 (54 + 10 * o i) 2 = 0 ∧ (erC o m n).2 (54 + 10 * o i + 1) 1 = 0 ∧ (erC o m n).2 (54 + 10 * o i + 1) 2 = 0
  | 0, i, h => absurd h (Nat.not_lt_zero i)
  | n + 1, i, h => by
    rw [erC]
    by_cases e : o i = o n
    · rw [e]
      exact ⟨by rw [rst1, if_neg (by omega), if_pos ⟨rfl, rfl⟩], by rw [rst1, if_pos ⟨rfl, rfl⟩], (rstT _ _ _).1, (rstT _ _ _).2⟩
    · have hin : i < n := by
        by_cases q : i = n
        · subst q; exact absurd rfl e
        · omega
      have ih := erC_at o m n i hin
      have ha := rst_ag (P := fun a _ => a = 54 + 10 * o i ∨ a = 54 + 10 * o i + 1) (a := 54 + 10 * o n) (p := 0) (ag_rf (erC o m n)) (by omega) (by omega) (by omega) (by omega)
      exact ⟨((ha _ 3 (Or.inl rfl)).1).trans ih.1, ((ha _ 2 (Or.inl rfl)).1).trans ih.2.1, ((ha _ 1 (Or.inr rfl)).2).trans ih.2.2.1, ((ha _ 2 (Or.inr rfl)).2).trans ih.2.2.2⟩
set_option maxRecDepth 100000 in
set_option maxHeartbeats 1000000 in
theorem eiM_at (o : Nat → Nat) (m : sM) : ∀ n i, i < n → (eiM o m n).1 118 (o i) = 0 ∧ (eiM o m n).1 122 (o i) = 0 ∧ ∀ k, k < 64 → (eiM o m n).1 119 (64 * o i + k) = 0
  | 0, i, h => absurd h (Nat.not_lt_zero i)
  | n + 1, i, h => by
    rw [eiM]
    by_cases e : o i = o n
    · rw [e]
      exact ⟨by rw [idl1, if_neg (by omega), if_neg (by omega), if_pos ⟨rfl, rfl⟩], by rw [idl1, if_neg (by omega), if_pos ⟨rfl, rfl⟩], fun k hk => by rw [idl1, if_pos (by omega)]⟩
    · have hin : i < n := by
        by_cases q : i = n
        · subst q; exact absurd rfl e
        · omega
      have ih := eiM_at o m n i hin
      exact ⟨by rw [idl1, if_neg (by omega), if_neg (by omega), if_neg (by omega)]; exact ih.1, by rw [idl1, if_neg (by omega), if_neg (by omega), if_neg (by omega)]; exact ih.2.1, fun k hk => by rw [idl1, if_neg (by omega), if_neg (by omega), if_neg (by omega)]; exact ih.2.2 k hk⟩
set_option maxRecDepth 100000 in
set_option maxHeartbeats 1000000 in
theorem p_erd {m : sM} {n : Nat} {o : Nat → Nat} (n3 : n ≤ 3) (h7 : m.1 0 7 = nI n) (ho : ∀ i, i < n → o i < 3 ∧ m.1 84 i = nI (o i)) : f_X9_endReadySlots m = some (.inl (), s_up (erC o m n) 0 7 0) := by
  have key : ∀ e, f_X9_endReadySlots_L2 e 5000 0 m = e (erC o m n) := fun e => by
    refine lpE (fun g i (z : sM) => f_X9_endReadySlots_L2 e g (nI i) z) (fun i z => i ≤ n ∧ z = erC o m i) _ n ?_ ?_ n 0 _ 5000 (by omega) (by omega) ⟨Nat.zero_le _, rfl⟩
    · rintro i z g hi ⟨h1, hz⟩ ih
      have := ih _ ⟨by omega, rfl⟩
      subst hz
      have ha := erC_ag (P := fun a j => (a = 0 ∧ j = 7) ∨ a = 84) (o := o) (ag_rf m) i (fun j hj => by have := (ho j (by omega)).1; omega)
      have e7 : (erC o m i).1 0 7 = nI n := ((ha 0 7 (by omega)).1).trans h7
      have e84 : (erC o m i).1 84 i = nI (o i) := ((ha 84 i (by omega)).1).trans (ho i hi).2
      have o3 := (ho i hi).1
      rw [erC] at this
      simp (disch := omega) only [md_, jn_, bd_, bdE_, ixl, ix_, llN, lNl, tlN, tNl, eNl, lNN, tNN, eNN, aNl, alN, mlN, nI_add, pk_mul, neg_lt0, if_true, if_false, if_pos, if_neg, up2, uL1, cp2, gdT, gdb_, or_true, true_or, false_or, or_false, and_true, true_and, and_false, false_and, ifb0, ifb1, eq_self, t0, t1, t2, t3, t4, o10, o01, z139a, Bool.false_eq_true, f_X9_endReadySlots_L2, e7, e84, p_rst]
      exact this
    · rintro z g ⟨h1, hz⟩
      subst hz
      have ha := erC_ag (P := fun a j => (a = 0 ∧ j = 7) ∨ a = 84) (o := o) (ag_rf m) n (fun j hj => by have := (ho j (by omega)).1; omega)
      have e7 : (erC o m n).1 0 7 = nI n := ((ha 0 7 (by omega)).1).trans h7
      simp (disch := omega) only [md_, jn_, bd_, bdE_, ixl, ix_, llN, lNl, tlN, tNl, eNl, lNN, tNN, eNN, aNl, alN, mlN, nI_add, pk_mul, neg_lt0, if_true, if_false, if_pos, if_neg, up2, uL1, cp2, gdT, gdb_, or_true, true_or, false_or, or_false, and_true, true_and, and_false, false_and, ifb0, ifb1, eq_self, t0, t1, t2, t3, t4, o10, o01, z139a, Bool.false_eq_true, f_X9_endReadySlots_L2, e7, Nat.le_refl]
  unfold f_X9_endReadySlots
  rw [jn_, key, md_]
set_option maxRecDepth 100000 in
set_option maxHeartbeats 1000000 in
theorem q_eid {m : sM} {n : Nat} {o : Nat → Nat} (n3 : n ≤ 3) (h19 : m.1 110 19 = nI n) (ho : ∀ i, i < n → o i < 3 ∧ m.1 126 i = nI (o i)) (y4 : Int32) (e : sM → Option (sR Int32)) : f_X10_commit_L475 y4 e 5000 0 m = e (eiM o m n) := by
  refine lpE (fun g i (z : sM) => f_X10_commit_L475 y4 e g (nI i) z) (fun i z => i ≤ n ∧ z = eiM o m i) _ n ?_ ?_ n 0 _ 5000 (by omega) (by omega) ⟨Nat.zero_le _, rfl⟩
  · rintro i z g hi ⟨h1, hz⟩ ih
    have := ih _ ⟨by omega, rfl⟩
    subst hz
    have ha := eiM_ag (P := fun a j => (a = 110 ∧ j = 19) ∨ a = 126) (o := o) (ag_rf m) i (fun j hj => ⟨by omega, by omega, by intro k _ _; omega⟩)
    have e19 : (eiM o m i).1 110 19 = nI n := ((ha 110 19 (by omega)).1).trans h19
    have e126 : (eiM o m i).1 126 i = nI (o i) := ((ha 126 i (by omega)).1).trans (ho i hi).2
    have o3 := (ho i hi).1
    rw [eiM] at this
    simp (disch := omega) only [md_, jn_, bd_, bdE_, ixl, ix_, llN, lNl, tlN, tNl, eNl, lNN, tNN, eNN, aNl, alN, mlN, nI_add, pk_mul, neg_lt0, if_true, if_false, if_pos, if_neg, up2, uL1, cp2, gdT, gdb_, or_true, true_or, false_or, or_false, and_true, true_and, and_false, false_and, ifb0, ifb1, eq_self, t0, t1, t2, t3, t4, o10, o01, z139a, Bool.false_eq_true, f_X10_commit_L475, e19, e126, q_idle o3]
    exact this
  · rintro z g ⟨h1, hz⟩
    subst hz
    have ha := eiM_ag (P := fun a j => (a = 110 ∧ j = 19) ∨ a = 126) (o := o) (ag_rf m) n (fun j hj => ⟨by omega, by omega, by intro k _ _; omega⟩)
    have e19 : (eiM o m n).1 110 19 = nI n := ((ha 110 19 (by omega)).1).trans h19
    simp (disch := omega) only [md_, jn_, bd_, bdE_, ixl, ix_, llN, lNl, tlN, tNl, eNl, lNN, tNN, eNN, aNl, alN, mlN, nI_add, pk_mul, neg_lt0, if_true, if_false, if_pos, if_neg, up2, uL1, cp2, gdT, gdb_, or_true, true_or, false_or, or_false, and_true, true_and, and_false, false_and, ifb0, ifb1, eq_self, t0, t1, t2, t3, t4, o10, o01, z139a, Bool.false_eq_true, f_X10_commit_L475, e19, Nat.le_refl]
