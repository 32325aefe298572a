/-! PURE: reopen, the call. -/
set_option maxRecDepth 100000 in
set_option maxHeartbeats 1000000 in
theorem p_root0 (m : sM) : f_X1_isUsableRoot 0 m = some (.inl (bi (rootOk m 0)), m) := p_root (r := 0) (by decide) m
set_option maxRecDepth 100000 in
set_option maxHeartbeats 1000000 in
theorem p_root1 (m : sM) : f_X1_isUsableRoot 1 m = some (.inl (bi (rootOk m 1)), m) := p_root (r := 1) (by decide) m
set_option maxRecDepth 100000 in
set_option maxHeartbeats 1000000 in
theorem q_root0 {mc mm : sM} (hd : rDisk mc mm) : f_X10_isUsable 0 mm = some (.inl (bi (rootOk mc 0)), mm) := q_root hd (r := 0) (by decide)
set_option maxRecDepth 100000 in
set_option maxHeartbeats 1000000 in
theorem q_root1 {mc mm : sM} (hd : rDisk mc mm) : f_X10_isUsable 1 mm = some (.inl (bi (rootOk mc 1)), mm) := q_root hd (r := 1) (by decide)
-- remark: what is known of a usable root
set_option maxRecDepth 100000 in
set_option maxHeartbeats 1000000 in
theorem rootOk_t {m : sM} {r : Nat} (h : rootOk m r = true) : ∃ n t, n ≤ 999999 ∧ 2 ≤ t ∧ t < 32 ∧ m.1 (4 + r) 1 = nI n ∧ m.1 (4 + r) 2 = nI t ∧ m.1 (4 + t) 0 = 2 ∧ enAll m t 8 = true := by
  unfold rootOk at h
  rw [Bool.and_eq_true_iff, Bool.and_eq_true_iff] at h
  obtain ⟨⟨-, h2⟩, h3⟩ := h
  have q1 : ¬ m.1 (4 + r) 1 < 0 := fun q => by rw [decide_eq_true q, Bool.not_true, Bool.false_and] at h2; exact absurd h2 (by decide)
  have q2 : ¬ 999999 < m.1 (4 + r) 1 := fun q => by rw [decide_eq_true q, Bool.not_true, Bool.and_false] at h2; exact absurd h2 (by decide)
  obtain ⟨n, hn, en⟩ := nI_of q1
  unfold tabOk at h3
  rcases data_or (m.1 (4 + r) 2) with hd | ⟨t, t1, t2, ht⟩
  · rw [isD_f hd, Bool.false_and, Bool.false_and, Bool.false_and] at h3; exact absurd h3 (by decide)
  · rw [ht, isD_t t1 t2, nI_clamp (by omega), Bool.and_eq_true_iff, Bool.and_eq_true_iff, Bool.true_and, Bool.and_eq_true_iff] at h3
    refine ⟨n, t, ?_, t1, t2, en, ht, of_decide_eq_true h3.1.1.2, h3.2⟩
    rw [en] at q2
    by_cases q : 999999 < n
    · exact absurd (nI_lt (a := 999999) (b := n) q hn) q2
    · omega
-- remark: an entry that is read: none, or a page's block
set_option maxRecDepth 100000 in
set_option maxHeartbeats 1000000 in
theorem enOk_t {m : sM} {t p : Nat} (h : enOk m t p = true) : m.1 (4 + t) (4 + p) = -1 ∨ ∃ b, 2 ≤ b ∧ b < 32 ∧ m.1 (4 + t) (4 + p) = nI b ∧ m.1 (4 + b) 0 = 3 ∧ m.1 (4 + b) 2 = nI p := by
  unfold enOk at h
  by_cases q : m.1 (4 + t) (4 + p) = -1
  · exact Or.inl q
  · rcases data_or (m.1 (4 + t) (4 + p)) with hd | ⟨b, b1, b2, hb⟩
    · rw [decide_eq_false q, isD_f hd, Bool.false_and, Bool.false_or] at h; exact absurd h (by decide)
    · rw [decide_eq_false q, hb, isD_t b1 b2, nI_clamp (by omega), Bool.false_or, Bool.true_and] at h
      unfold usp at h
      rw [Bool.and_eq_true_iff, Bool.and_eq_true_iff] at h
      exact Or.inr ⟨b, b1, b2, hb, of_decide_eq_true h.1.2, of_decide_eq_true h.2⟩
def rootSel (m : sM) : Int32 := if rootOk m 0 = true then (if rootOk m 1 = true then (if m.1 5 1 ≤ m.1 4 1 then 0 else 1) else 0) else (if rootOk m 1 = true then 1 else -1)
set_option maxRecDepth 100000 in
set_option maxHeartbeats 1000000 in
theorem p_usr (m : sM) : f_X9_usableRoot m = some (.inl (rootSel m), m) := by
  unfold f_X9_usableRoot rootSel
  rw [p_root0, bd_, p_root1, bd_, jn_]
  cases rootOk m 0 <;> cases rootOk m 1
  · rfl
  · rfl
  · rfl
  · rw [bi_t, if_neg n10, if_neg n10, ixl _ (by decide) (by decide), ixl _ (by decide) (by decide), ixl _ (by decide) (by decide), ixl _ (by decide) (by decide), jn_]
    by_cases q : m.1 5 1 ≤ m.1 4 1
    · rw [if_pos q, if_pos rfl, if_pos rfl, if_pos q]
    · rw [if_neg q, if_pos rfl, if_pos rfl, if_neg q]
set_option maxRecDepth 100000 in
set_option maxHeartbeats 1000000 in
theorem p_load {r : Nat} (hr : r < 2) {m : sM} (h : rootOk m r = true) : ∃ s n t, f_X8_load 36 (nI r) m = some (.inl (), s) ∧ n ≤ 999999 ∧ 2 ≤ t ∧ t < 32 ∧ m.1 (4 + r) 1 = nI n ∧ m.1 (4 + r) 2 = nI t ∧ m.1 (4 + t) 0 = 2 ∧ enAll m t 8 = true ∧
    ag (fun a _ => a ≠ 36 ∧ a ≠ 37 ∧ a ≠ 38) m s ∧ s.1 36 4 = nI r ∧ s.1 36 3 = nI n ∧ s.1 36 5 = nI t ∧ (∀ q, q < 8 → s.1 37 q = m.1 (4 + t) (4 + q)) ∧
    (∀ k, k < 64 → lb (s.2 36 2) k = enH m t k ∧ (enH m t k = true → s.1 38 k = enV m t k)) := by
  obtain ⟨n, t, hn, t1, t2, en, et, e2, hA⟩ := rootOk_t h
  obtain ⟨X, hX⟩ : ∃ X, X = s_uL (s_up (s_up (s_up m 36 4 (nI r)) 36 3 (nI n)) 36 5 (nI t)) 36 2 0 := ⟨_, rfl⟩
  have hag : ag (fun a _ => a ≠ 36) m X := by rw [hX]; exact ag_uL (ag_up (ag_up (ag_up (ag_rf m) (by omega)) (by omega)) (by omega)) (by omega)
  have x2 : X.2 36 2 = 0 := by rw [hX, uL2, if_pos ⟨rfl, rfl⟩]
  have x5 : X.1 36 5 = nI t := by rw [hX, uL1]; exact upS _ _ _ _
  have x3 : X.1 36 3 = nI n := by rw [hX, uL1, up1, if_neg (by omega)]; exact upS _ _ _ _
  have x4 : X.1 36 4 = nI r := by rw [hX, uL1, up1, if_neg (by omega), up1, if_neg (by omega)]; exact upS _ _ _ _
  have dk : ∀ b c, b < 32 → X.1 (4 + b) c = m.1 (4 + b) c := fun b c hb => (hag _ c (by omega)).1
  have eu : ∀ b p, b < 32 → usp X b p = usp m b p := fun b p hb => by
    have hk : ck (X.1 (4 + b)) (nI (b + 17)) 12 = ck (m.1 (4 + b)) (nI (b + 17)) 12 := ck_cong fun c _ => dk b c hb
    unfold usp okc
    rw [hk, dk b 12 hb, dk b 0 hb, dk b 2 hb]
  have eo : ∀ p, p < 8 → enOk X t p = enOk m t p := fun p hp => by
    have hk := enAll_t 8 hA p hp
    unfold enOk
    rw [dk t _ t2]
    rcases enOk_t hk with q | ⟨b, b1, b2, hb, -⟩
    · rw [decide_eq_true q, Bool.true_or, Bool.true_or]
    · rw [hb, nI_clamp (by omega), eu b _ b2]
  have hA2 : ∀ i, i ≤ 8 → enAll X t i = enAll m t i := by
    intro i
    induction i with
    | zero => intro _; rfl
    | succ i ih => intro hi; rw [enAll, enAll, ih (by omega), eo i (by omega)]
  have hH : ∀ k, k < 64 → enH X t k = enH m t k ∧ (enH m t k = true → enV X t k = enV m t k) := fun k hk => by
    unfold enH enV
    rw [dk t _ t2]
    rcases enOk_t (enAll_t 8 hA (k % 8) (by omega)) with q | ⟨b, b1, b2, hb, -⟩
    · rw [q, isD_m1, Bool.false_and, Bool.false_and]; exact ⟨rfl, fun w => absurd w (by decide)⟩
    · rw [hb, nI_clamp (by omega), dk b _ b2, dk b _ b2]
      exact ⟨rfl, fun _ => rfl⟩
  obtain ⟨s, he, l1, l2, l3, l4⟩ := p_loadL t2 (m := X) x5 x2 ((hA2 8 (Nat.le_refl _)).trans hA)
  refine ⟨s, n, t, ?_, hn, t1, t2, en, et, e2, hA, fun a j q => ?_, ?_, ?_, ?_, fun q hq => ?_, fun k hk => ⟨?_, fun w => ?_⟩⟩
  · have c1 : (s_up m 36 4 (nI r)).1 (4 + r) 1 = nI n := by rw [up1, if_neg (by omega)]; exact en
    have c2 : (s_up (s_up m 36 4 (nI r)) 36 3 (nI n)).1 (4 + r) 2 = nI t := by rw [up1, if_neg (by omega), up1, if_neg (by omega)]; exact et
    unfold f_X8_load
    rw [md_, ix_ _ (by omega) (by decide), ixl _ (by decide) (by decide), Nat.one_mul, c1, md_, ix_ _ (by omega) (by decide), ixl _ (by decide) (by decide), Nat.one_mul, c2, md_, md_, jn_, ← hX]
    exact he _
  · exact ⟨((l1 a j (by omega)).1).trans (hag a j q.1).1, ((l1 a j (by omega)).2).trans (hag a j q.1).2⟩
  · rw [(l1 36 4 (by omega)).1]; exact x4
  · rw [(l1 36 3 (by omega)).1]; exact x3
  · rw [(l1 36 5 (by omega)).1]; exact x5
  · rw [l2 q hq]; exact dk t _ t2
  · rw [l3 k hk, decide_eq_true (by omega : k % 8 < 8), Bool.true_and, (hH k hk).1]
  · rw [l4 k hk (by omega) ((hH k hk).1.trans w)]; exact (hH k hk).2 w
set_option maxRecDepth 100000 in
set_option maxHeartbeats 1000000 in
theorem q_atc {mc mm : sM} (hd : rDisk mc mm) {b c : Nat} (hb : b < 32) (hc : c < 13) : f_X10_at (nI b) (nI c) mm = some (.inl (mc.1 (4 + b) c), mm) := by
  rw [hd b c hb hc]
  simp (disch := omega) only [md_, jn_, bd_, bdE_, ixl, ix_, llN, lNl, tlN, tNl, eNl, lNN, tNN, eNN, aNl, alN, mlN, nI_add, pk_mul, neg_lt0, if_true, if_false, if_pos, if_neg, up2, uL1, cp2, gdT, gdb_, or_true, true_or, false_or, or_false, and_true, true_and, and_false, false_and, ifb0, ifb1, eq_self, t0, t1, t2, t3, t4, o10, o01, z139a, Bool.false_eq_true, f_X10_at]
noncomputable def y_tail (s0_100 : Int32) (m100_ : sM) : Option (sR Int32) :=
  s_md (s_up m100_ 110 3 s0_100) fun m14 => s_bd (f_X10_at s0_100 1 m14) fun r15 m16 => s_ix 0 3 fun j17 => s_md (s_up m16 112 j17 r15) fun m18 => s_bd (f_X10_at s0_100 2 m18) fun r19 m20 => s_ix 0 3 fun j21 => s_md (s_up m20 113 j21 r19) fun m22 => s_jn (fun (m258_ : sM) => s_ix 0 3 fun j23 => some (.inl (m258_.1 112 j23), m258_)) fun e258_133 => f_X10_reopen_L133 e258_133 5000 0 m22
set_option maxRecDepth 100000 in
set_option maxHeartbeats 1000000 in
theorem q_tail {mc y : sM} (hd : rDisk mc y) {r n t : Nat} (hr : r < 2) (t2 : t < 32) (en : mc.1 (4 + r) 1 = nI n) (et : mc.1 (4 + r) 2 = nI t) (hA : enAll mc t 8 = true) : ∃ y2, y_tail (nI r) y = some (.inl (nI n), y2) ∧ ag (fun a j => ¬ (a = 114 ∧ j < 8) ∧ ¬ ((a = 115 ∨ a = 116) ∧ j < 64) ∧ ¬ (a = 110 ∧ j = 3) ∧ ¬ (a = 112 ∧ j = 0) ∧ ¬ (a = 113 ∧ j = 0)) y y2 ∧ y2.1 110 3 = nI r ∧ y2.1 112 0 = nI n ∧ y2.1 113 0 = nI t ∧
    (∀ q, q < 8 → y2.1 114 q = mc.1 (4 + t) (4 + q)) ∧ (∀ k, k < 64 → y2.1 115 k = bi (enH mc t k) ∧ (enH mc t k = true → y2.1 116 k = enV mc t k)) := by
  have hag : ag (fun a j => ¬ (a = 110 ∧ j = 3) ∧ ¬ (a = 112 ∧ j = 0) ∧ ¬ (a = 113 ∧ j = 0)) y (s_up (s_up (s_up y 110 3 (nI r)) 112 0 (nI n)) 113 0 (nI t)) := ag_up (ag_up (ag_up (ag_rf y) (by omega)) (by omega)) (by omega)
  obtain ⟨y2, he, l1, l2, l3⟩ := q_loadL (y0 := s_up (s_up (s_up y 110 3 (nI r)) 112 0 (nI n)) 113 0 (nI t)) (rDisk_ag (ag_rf _) (ag_mo hag (by intro a j q; omega)) hd) t2 (upS _ _ _ _) hA
  refine ⟨y2, ?_, fun a j q => ?_, ?_, ?_, ?_, l2, fun k hk => l3 k hk (by omega)⟩
  · have a1 : f_X10_at (nI r) 1 (s_up y 110 3 (nI r)) = some (.inl (nI n), s_up y 110 3 (nI r)) := by
      have d1 : (s_up y 110 3 (nI r)).1 111 (13 * r + 1) = nI n := by rw [up1, if_neg (by omega), ← hd r 1 (by omega) (by decide)]; exact en
      simp (disch := omega) only [md_, jn_, bd_, bdE_, ixl, ix_, llN, lNl, tlN, tNl, eNl, lNN, tNN, eNN, aNl, alN, mlN, nI_add, pk_mul, neg_lt0, if_true, if_false, if_pos, if_neg, up2, uL1, cp2, gdT, gdb_, or_true, true_or, false_or, or_false, and_true, true_and, and_false, false_and, ifb0, ifb1, eq_self, t0, t1, t2, t3, t4, o10, o01, z139a, Bool.false_eq_true, f_X10_at, d1]
    have a2 : f_X10_at (nI r) 2 (s_up (s_up y 110 3 (nI r)) 112 0 (nI n)) = some (.inl (nI t), s_up (s_up y 110 3 (nI r)) 112 0 (nI n)) := by
      have d1 : (s_up (s_up y 110 3 (nI r)) 112 0 (nI n)).1 111 (13 * r + 2) = nI t := by rw [up1, if_neg (by omega), up1, if_neg (by omega), ← hd r 2 (by omega) (by decide)]; exact et
      simp (disch := omega) only [md_, jn_, bd_, bdE_, ixl, ix_, llN, lNl, tlN, tNl, eNl, lNN, tNN, eNN, aNl, alN, mlN, nI_add, pk_mul, neg_lt0, if_true, if_false, if_pos, if_neg, up2, uL1, cp2, gdT, gdb_, or_true, true_or, false_or, or_false, and_true, true_and, and_false, false_and, ifb0, ifb1, eq_self, t0, t1, t2, t3, t4, o10, o01, z139a, Bool.false_eq_true, f_X10_at, d1]
    unfold y_tail
    rw [md_, a1, bd_, ixl _ (by decide) (by decide), md_, a2, bd_, ixl _ (by decide) (by decide), md_, jn_, he, ixl _ (by decide) (by decide), (l1 112 0 (by omega)).1, up1, if_neg (by omega), up1, if_pos ⟨rfl, rfl⟩]
  · exact ⟨((l1 a j (by omega)).1).trans (hag a j (by omega)).1, ((l1 a j (by omega)).2).trans (hag a j (by omega)).2⟩
  · rw [(l1 110 3 (by omega)).1, up1, if_neg (by omega), up1, if_neg (by omega)]; exact upS _ _ _ _
  · rw [(l1 112 0 (by omega)).1, up1, if_neg (by omega)]; exact upS _ _ _ _
  · rw [(l1 113 0 (by omega)).1]; exact upS _ _ _ _
-- remark: the reference up to its choice
def y_re (o : Int32) (i : Nat) (mm : sM) : sM := s_up (s_up (y_rst (s_up mm 110 0 0)) 110 2 o) 130 i ((s_up (y_rst (s_up mm 110 0 0)) 110 2 o).1 130 i + 1)
set_option maxRecDepth 100000 in
set_option maxHeartbeats 1000000 in
theorem q_reopen0 {mc mm : sM} (hd : rDisk mc (y_rst (s_up mm 110 0 0))) (h0 : rootOk mc 0 = false) (h1 : rootOk mc 1 = false) : f_X10_reopen mm = some (.inl 0, s_up (y_re 0 5 mm) 110 0 1) := by
  have e : (s_up (s_up (y_rst (s_up mm 110 0 0)) 110 2 0) 130 5 ((s_up (y_rst (s_up mm 110 0 0)) 110 2 0).1 130 5 + 1)).1 110 2 = 0 := by rw [up1, if_neg (by omega)]; exact upS _ _ _ _
  unfold f_X10_reopen
  rw [md_, q_rst, bd_, q_root0 hd, bd_, q_root1 hd, bd_, jn_, jn_, h0, h1, if_pos bi_f, if_pos bi_f]
  dsimp only
  rw [gd0, md_, jn_, if_pos (upS _ _ _ _)]
  dsimp only
  rw [ixl _ (by decide) (by decide), ixl _ (by decide) (by decide), md_, if_pos e]
  rfl
set_option maxRecDepth 100000 in
set_option maxHeartbeats 1000000 in
theorem q_reopen1 {mc mm : sM} (hd : rDisk mc (y_rst (s_up mm 110 0 0))) (h : rootOk mc 0 = true ∨ rootOk mc 1 = true) : f_X10_reopen mm = y_tail (rootSel mc) (y_re 1 4 mm) := by
  have e : (s_up (s_up (y_rst (s_up mm 110 0 0)) 110 2 1) 130 4 ((s_up (y_rst (s_up mm 110 0 0)) 110 2 1).1 130 4 + 1)).1 110 2 = 1 := by rw [up1, if_neg (by omega)]; exact upS _ _ _ _
  have e2 : (s_up (y_rst (s_up mm 110 0 0)) 110 2 1).1 110 2 = 1 := upS _ _ _ _
  have hdr : rDisk mc (y_re 1 4 mm) := rDisk_ag (ag_rf _) (ag_up (ag_up (ag_rf _) (by omega)) (by omega)) hd
  have at1 : f_X10_at 1 1 (y_re 1 4 mm) = some (.inl (mc.1 5 1), y_re 1 4 mm) := by
    exact q_atc hdr (b := 1) (c := 1) (by decide) (by decide)
  have at0 : f_X10_at 0 1 (y_re 1 4 mm) = some (.inl (mc.1 4 1), y_re 1 4 mm) := by
    exact q_atc hdr (b := 0) (c := 1) (by decide) (by decide)
  unfold f_X10_reopen rootSel
  rw [md_, q_rst, bd_, q_root0 hd, bd_, q_root1 hd, bd_, jn_, jn_]
  cases h0 : rootOk mc 0 <;> cases h1 : rootOk mc 1
  · rw [h0, h1] at h; exact absurd h (by decide)
  · rw [if_pos bi_f, if_neg (by decide)]
    dsimp only
    rw [gd1, md_, jn_, if_neg (by rw [e2]; decide)]
    dsimp only
    rw [ixl _ (by decide) (by decide), ixl _ (by decide) (by decide), md_, if_neg (by rw [e]; decide), jn_, jn_, if_pos bi_f]
    rfl
  · rw [if_neg (by decide)]
    dsimp only
    rw [gd1, md_, jn_, if_neg (by rw [e2]; decide)]
    dsimp only
    rw [ixl _ (by decide) (by decide), ixl _ (by decide) (by decide), md_, if_neg (by rw [e]; decide), jn_, jn_, if_neg (by decide), jn_, if_pos bi_f]
    rfl
  · rw [if_neg (by decide)]
    dsimp only
    rw [gd1, md_, jn_, if_neg (by rw [e2]; decide)]
    dsimp only
    rw [ixl _ (by decide) (by decide), ixl _ (by decide) (by decide), md_, if_neg (by rw [e]; decide), jn_, jn_, if_neg (by decide), jn_, if_neg (by decide), if_pos rfl, if_pos rfl]
    show s_bd (f_X10_at 1 1 (y_re 1 4 mm)) _ = _
    rw [at1, bd_, at0, bd_]
    by_cases q : mc.1 5 1 ≤ mc.1 4 1
    · rw [if_pos q, if_pos q]; rfl
    · rw [if_neg q, if_neg q]; rfl
set_option maxRecDepth 100000 in
set_option maxHeartbeats 1000000 in
theorem rootSel_t {m : sM} (h : rootOk m 0 = true ∨ rootOk m 1 = true) : ∃ r, r < 2 ∧ rootSel m = nI r ∧ rootOk m r = true := by
  unfold rootSel
  cases h0 : rootOk m 0 <;> cases h1 : rootOk m 1
  · rw [h0, h1] at h; exact absurd h (by decide)
  · exact ⟨1, by decide, rfl, h1⟩
  · exact ⟨0, by decide, rfl, h0⟩
  · rw [if_pos rfl, if_pos rfl]
    by_cases q : m.1 5 1 ≤ m.1 4 1
    · rw [if_pos q]; exact ⟨0, by decide, rfl, h0⟩
    · rw [if_neg q]; exact ⟨1, by decide, rfl, h1⟩
set_option maxRecDepth 100000 in
set_option maxHeartbeats 1000000 in
theorem rootSel_f {m : sM} (h0 : rootOk m 0 = false) (h1 : rootOk m 1 = false) : rootSel m = -1 := by
  unfold rootSel
  rw [h0, h1]
  rfl
set_option maxRecDepth 100000 in
set_option maxHeartbeats 1000000 in
theorem re_ag {P : Nat → Nat → Prop} {m m0 : sM} {o : Int32} {i : Nat} (h : ag P m0 (y_rst (s_up m 110 0 0))) (h1 : ¬ P 110 2) (h2 : ¬ P 130 i) : ag P m0 (y_re o i m) := ag_up (ag_up h h1) h2
set_option maxRecDepth 100000 in
set_option maxHeartbeats 1000000 in
theorem rStat_up {mc mc' mm mm' : sM} {i : Nat} {x x' : Int32} (h : rStat mc mm) (hc : ∀ j, mc'.1 108 j = if j = i then x else mc.1 108 j) (hm : ∀ j, mm'.1 130 j = if j = i then x' else mm.1 130 j) (hx : x = x') : rStat mc' mm' := fun j hj => by
  rw [hc, hm]
  by_cases e : j = i
  · rw [if_pos e, if_pos e]; exact hx
  · rw [if_neg e, if_neg e]; exact h j hj
set_option maxRecDepth 100000 in
set_option maxHeartbeats 1000000 in
theorem k_reopen {mc mm : sM} (h : R mc mm) : Agr [eIS] (f_X9_reopen mc) (f_X10_reopen mm) := by
  have hm := R_end (R_thr (t := 0) h)
  have hd := hm.1
  have s108 : ∀ j, (x_end mc).1 108 j = mc.1 108 j := fun j => (end_ag (P := fun a _ => a = 108) (ag_rf mc) (by intro a j q; omega) 108 j rfl).1
  by_cases hr : rootOk (x_end mc) 0 = true ∨ rootOk (x_end mc) 1 = true
  · obtain ⟨r, hr2, hsel, hok⟩ := rootSel_t hr
    obtain ⟨s, n, t, hs, hn, t1, t2, en, et, e20, hA, l1, l4, l3, l5, l37, lk⟩ := p_load hr2 hok
    have hdr : rDisk (x_end mc) (y_re 1 4 mm) := rDisk_ag (ag_rf _) (re_ag (ag_rf _) (by omega) (by omega)) hd
    obtain ⟨y2, hy, g1, g3, g112, g113, g114, gk⟩ := q_tail hdr hr2 t2 en et hA
    have ac : ∀ {P : Nat → Nat → Prop}, (∀ a j, a = 36 ∨ a = 37 ∨ a = 38 ∨ (a = 0 ∧ j = 15) ∨ (a = 108 ∧ j = 4) → ¬ P a j) → ag P (x_end mc) (s_up (s_up s 0 15 1) 108 4 ((s_up s 0 15 1).1 108 4 + 1)) := fun hp => ag_up (ag_up (ag_mo l1 (fun a j q => ⟨fun w => hp a j (by omega) q, fun w => hp a j (by omega) q, fun w => hp a j (by omega) q⟩)) (hp _ _ (by omega))) (hp _ _ (by omega))
    have am : ∀ {P : Nat → Nat → Prop}, (∀ a j, (a = 114 ∧ j < 8) ∨ ((a = 115 ∨ a = 116) ∧ j < 64) ∨ (a = 110 ∧ (j = 2 ∨ j = 3)) ∨ (a = 112 ∧ j = 0) ∨ (a = 113 ∧ j = 0) ∨ (a = 130 ∧ j = 4) → ¬ P a j) → ag P (y_rst (s_up mm 110 0 0)) y2 := fun hp => ag_tr (re_ag (ag_rf _) (hp _ _ (by omega)) (hp _ _ (by omega))) (ag_mo g1 (fun a j q => ⟨fun w => hp a j (by omega) q, fun w => hp a j (by omega) q, fun w => hp a j (by omega) q, fun w => hp a j (by omega) q, fun w => hp a j (by omega) q⟩))
    have z36 : ∀ j, (s_up (s_up s 0 15 1) 108 4 ((s_up s 0 15 1).1 108 4 + 1)).1 36 j = s.1 36 j := fun j => by rw [up1, if_neg (by omega), up1, if_neg (by omega)]
    have z37 : ∀ j, (s_up (s_up s 0 15 1) 108 4 ((s_up s 0 15 1).1 108 4 + 1)).1 37 j = s.1 37 j := fun j => by rw [up1, if_neg (by omega), up1, if_neg (by omega)]
    have z38 : ∀ j, (s_up (s_up s 0 15 1) 108 4 ((s_up s 0 15 1).1 108 4 + 1)).1 (36 + 2) j = s.1 38 j := fun j => by rw [up1, if_neg (by omega), up1, if_neg (by omega)]
    have pg : ∀ p, p < 8 → (s.1 37 p = -1 ∨ ∃ b, 2 ≤ b ∧ b < 32 ∧ s.1 37 p = nI b ∧ (x_end mc).1 (4 + b) 0 = 3 ∧ (x_end mc).1 (4 + b) 2 = nI p) := fun p hp => by rw [l37 p hp]; exact enOk_t (enAll_t 8 hA p hp)
    refine Agr_ok (v := nI n) (mc' := s_up (s_up s 0 15 1) 108 4 ((s_up s 0 15 1).1 108 4 + 1)) (mm' := y2) ?_ ?_ ?_ ?_
    · unfold f_X9_reopen
      rw [p_end, bd_, p_usr, bd_, hsel, if_neg (nIm1 (by omega)), hs, bd_, md_, ixl _ (by decide) (by decide), ixl _ (by decide) (by decide), md_, z36, l3]
    · rw [q_reopen1 hd hr, hsel]; exact hy
    · obtain ⟨h1, h2, h3, h4, h5, h6, h7, h8, h9, h10, h11⟩ := hm
      refine ⟨rDisk_ag (ac ?_) (am ?_) h1, ⟨true, ?_, ?_⟩, ⟨⟨?_, ?_, ⟨t, t1, t2, g113⟩, fun p hp => ⟨?_, ?_⟩, fun k hk => ⟨?_, fun w => ?_⟩⟩, ?_, ?_, ⟨n, hn, ?_⟩, fun p hp => ?_, fun p q hp hq hpq heq => ?_⟩, rPins_ag (ac ?_) (am ?_) h4, fun s hs => rSlot_ag (ac ?_) (am ?_) (h5 s hs), rOrd_ag (fun a j q => (ac (P := dcOrd) (by intro a j q1 q2; omega) a j q).1) (am ?_) h6, rIn_ag (ac ?_) (am ?_) h7, rOut_ag (ac ?_) (am ?_) h8, rLog_ag (ac ?_) (am ?_) h9, ?_, rSalv_ag (ac ?_) (am ?_) h11⟩
      case refine_3 => rw [up1, if_neg (by omega)]; exact upS _ _ _ _
      case refine_4 => rw [(g1 110 2 (by omega)).1, y_re, up1, if_neg (by omega)]; exact upS _ _ _ _
      case refine_5 => rw [z36, l3, g112]
      case refine_6 => rw [z36, l5, g113]
      case refine_7 => rw [z37, l37 p hp, Nat.mul_zero, Nat.zero_add, g114 p hp]
      case refine_8 =>
        rw [Nat.mul_zero, Nat.zero_add, g114 p hp, ← l37 p hp]
        rcases pg p hp with q | ⟨b, b1, b2, b3, -⟩
        · exact Or.inl q
        · exact Or.inr ⟨b, b1, b2, b3⟩
      case refine_9 =>
        rw [Nat.mul_zero, Nat.zero_add, (gk k hk).1, up2, up2, (lk k hk).1]
      case refine_10 =>
        rw [up2, up2, (lk k hk).1] at w
        rw [Nat.mul_zero, Nat.zero_add, (gk k hk).2 w, z38, (lk k hk).2 w]
      case refine_11 => rw [z36, l4, g3]
      case refine_12 =>
        rw [z36, l4]
        rcases (by omega : r = 0 ∨ r = 1) with q | q <;> subst q
        · exact Or.inl rfl
        · exact Or.inr rfl
      case refine_13 => rw [z36, l3]
      case refine_14 =>
        rw [z37, z36, l5]
        rcases pg p hp with q | ⟨b, b1, b2, b3, b4, -⟩
        · rw [q]; exact fun w => nIm1 (by omega) w.symm
        · rw [b3]
          intro w
          have : b = t := (nI_eq (by omega) (by omega)).mp w
          subst this
          rw [e20] at b4
          exact absurd b4 (by decide)
      case refine_15 =>
        rw [z37] at heq ⊢
        rw [z37] at heq
        rcases pg p hp with w | ⟨b, b1, b2, b3, b4, b5⟩
        · exact w
        · rcases pg q hq with w | ⟨c, c1, c2, c3, c4, c5⟩
          · rw [heq]; exact w
          · rw [b3, c3] at heq
            have : b = c := (nI_eq (by omega) (by omega)).mp heq
            subst this
            rw [b5] at c5
            exact absurd ((nI_eq (by omega) (by omega)).mp c5) hpq
      case refine_27 =>
        have e1 : ∀ j, s.1 108 j = (x_end mc).1 108 j := fun j => (l1 108 j (by omega)).1
        have e2 : ∀ j, y2.1 130 j = (y_re 1 4 mm).1 130 j := fun j => (g1 130 j (by omega)).1
        refine rStat_up (i := 4) (x := (s_up s 0 15 1).1 108 4 + 1) (x' := (s_up (y_rst (s_up mm 110 0 0)) 110 2 1).1 130 4 + 1) h10 (fun j => ?_) (fun j => ?_) ?_
        · rw [up1]
          by_cases e : j = 4
          · rw [if_pos ⟨rfl, e⟩, if_pos e]
          · rw [if_neg (by omega), if_neg e, up1, if_neg (by omega)]; exact e1 j
        · rw [e2, y_re, up1]
          by_cases e : j = 4
          · rw [if_pos ⟨rfl, e⟩, if_pos e]
          · rw [if_neg (by omega), if_neg e, up1, if_neg (by omega)]
        · rw [up1, if_neg (by omega), up1, if_neg (by omega), e1, h10 4 (by decide)]
      all_goals (intro a j q; omega)
    · have e0 := (am (P := fun a j => a = 110 ∧ j = 0) (by intro a j q1 q2; omega) 110 0 ⟨rfl, rfl⟩).1
      rw [e0]
      exact ((rstM_ag (P := fun a j => a = 110 ∧ j = 0) (ag_rf (s_up mm 110 0 0)) (by intro a j q1 q2; omega) 110 0 ⟨rfl, rfl⟩).1).trans (upS _ _ _ _)
  · have h0 : rootOk (x_end mc) 0 = false := by
      cases q : rootOk (x_end mc) 0
      · rfl
      · exact absurd (Or.inl q) hr
    have h1 : rootOk (x_end mc) 1 = false := by
      cases q : rootOk (x_end mc) 1
      · rfl
      · exact absurd (Or.inr q) hr
    refine Agr_ex (v := 0) 0 (mc' := s_up (s_up (x_end mc) 0 15 0) 108 5 ((s_up (x_end mc) 0 15 0).1 108 5 + 1)) (mm' := s_up (y_re 0 5 mm) 110 0 1) ?_ (q_reopen0 hd h0 h1) ?_ rfl (upS _ _ _ _)
    · unfold f_X9_reopen
      rw [p_end, bd_, p_usr, bd_, rootSel_f h0 h1, if_pos rfl, md_, ixl _ (by decide) (by decide), ixl _ (by decide) (by decide), md_]
    · obtain ⟨h1, h2, h3, h4, h5, h6, h7, h8, h9, h10, h11⟩ := hm
      have ac : ∀ {P : Nat → Nat → Prop}, (∀ a j, (a = 0 ∧ j = 15) ∨ (a = 108 ∧ j = 5) → ¬ P a j) → ag P (x_end mc) (s_up (s_up (x_end mc) 0 15 0) 108 5 ((s_up (x_end mc) 0 15 0).1 108 5 + 1)) := fun hp => ag_up (ag_up (ag_rf _) (hp _ _ (by omega))) (hp _ _ (by omega))
      have am : ∀ {P : Nat → Nat → Prop}, (∀ a j, (a = 110 ∧ (j = 0 ∨ j = 2)) ∨ (a = 130 ∧ j = 5) → ¬ P a j) → ag P (y_rst (s_up mm 110 0 0)) (s_up (y_re 0 5 mm) 110 0 1) := fun hp => ag_up (re_ag (ag_rf _) (hp _ _ (by omega)) (hp _ _ (by omega))) (hp _ _ (by omega))
      refine ⟨rDisk_ag (ac ?_) (am ?_) h1, ⟨false, ?_, ?_⟩, rPres_ag (ac ?_) (am ?_) h3, rPins_ag (ac ?_) (am ?_) h4, fun s hs => rSlot_ag (ac ?_) (am ?_) (h5 s hs), rOrd_ag (fun a j q => (ac (P := dcOrd) (by intro a j q1 q2; omega) a j q).1) (am ?_) h6, rIn_ag (ac ?_) (am ?_) h7, rOut_ag (ac ?_) (am ?_) h8, rLog_ag (ac ?_) (am ?_) h9, ?_, rSalv_ag (ac ?_) (am ?_) h11⟩
      case refine_3 => rw [up1, if_neg (by omega)]; exact upS _ _ _ _
      case refine_4 => rw [up1, if_neg (by omega), y_re, up1, if_neg (by omega)]; exact upS _ _ _ _
      case refine_18 =>
        refine rStat_up (i := 5) (x := (s_up (x_end mc) 0 15 0).1 108 5 + 1) (x' := (s_up (y_rst (s_up mm 110 0 0)) 110 2 0).1 130 5 + 1) h10 (fun j => ?_) (fun j => ?_) ?_
        · rw [up1]
          by_cases e : j = 5
          · rw [if_pos ⟨rfl, e⟩, if_pos e]
          · rw [if_neg (by omega), if_neg e, up1, if_neg (by omega)]
        · rw [up1, if_neg (by omega), y_re, up1]
          by_cases e : j = 5
          · rw [if_pos ⟨rfl, e⟩, if_pos e]
          · rw [if_neg (by omega), if_neg e, up1, if_neg (by omega)]
        · rw [up1, if_neg (by omega), up1, if_neg (by omega), h10 5 (by decide)]
      all_goals (intro a j q; omega)
