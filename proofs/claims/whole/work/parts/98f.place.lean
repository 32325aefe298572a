/-! PURE: a commit's placing. -/
set_option maxRecDepth 100000 in
set_option maxHeartbeats 1000000 in
theorem ub_cong {m m' : sM} {v b : Nat} (h5 : m'.1 v 5 = m.1 v 5) : ∀ n, (∀ p, p < n → m'.1 (v + 1) p = m.1 (v + 1) p) → ub m' v b n = ub m v b n
  | 0, _ => by rw [ub, ub, h5]
  | n + 1, hp => by rw [ub, ub, ub_cong h5 n (fun p q => hp p (by omega)), hp n (by omega)]
set_option maxRecDepth 100000 in
set_option maxHeartbeats 1000000 in
theorem fre_cong {m m' : sM} {b : Nat} (ha : ag (fun a _ => a = 36 ∨ a = 37 ∨ (42 ≤ a ∧ a ≤ 49)) m m') : ∀ n, n ≤ 2 → fre m' b n = fre m b n
  | 0, _ => by rw [fre, fre, ub_cong (v := 36) (ha 36 5 (by omega)).1 8 (fun p _ => (ha 37 p (by omega)).1)]
  | n + 1, hn => by
    rw [fre, fre, fre_cong ha n (by omega), (ha 49 n (by omega)).1, ub_cong (v := 42 + 3 * n) (ha _ 5 (by omega)).1 8 (fun p _ => (ha _ p (by omega)).1)]
set_option maxRecDepth 100000 in
set_option maxHeartbeats 1000000 in
theorem vOk_cong {m m' : sM} {v : Nat} (ha : ag (fun a _ => a = v ∨ a = v + 1) m m') (h : vOk m v) : vOk m' v := by
  obtain ⟨⟨t, t1, t2, t3⟩, hp⟩ := h
  exact ⟨⟨t, t1, t2, ((ha v 5 (Or.inl rfl)).1).trans t3⟩, fun p q => by rw [(ha (v + 1) p (Or.inr rfl)).1]; exact hp p q⟩
abbrev frB (m : sM) (b : Nat) : Bool := fre m b 2
set_option maxRecDepth 100000 in
set_option maxHeartbeats 1000000 in
theorem R_zfree {mc mm z : sM} (h : R mc mm) (ha : ag (fun a _ => a = 36 ∨ a = 37 ∨ (42 ≤ a ∧ a ≤ 49)) mc z) : ∃ x, f_X9_freeBlocks z = some (.inl x, z) ∧ ∀ b, b < 64 → lb x b = frB mc b := by
  obtain ⟨x, hx, hb⟩ := p_free (m := z) (vOk_cong (ag_mo ha (by intro a j q; omega)) (rVer_ok h.2.2.1.1)) (fun p hp => by
    rw [(ha 49 p (by omega)).1]
    rcases R_pin h hp with ⟨e, -⟩ | ⟨e, -, hv⟩
    · exact Or.inl e
    · exact Or.inr ⟨e, vOk_cong (ag_mo ha (by intro a j q; omega)) (rVer_ok hv)⟩)
  exact ⟨x, hx, fun b hb64 => by rw [hb b hb64, fre_cong ha 2 (Nat.le_refl _)]⟩
set_option maxRecDepth 100000 in
set_option maxHeartbeats 1000000 in
theorem R_yfree {mc mm y : sM} (h : R mc mm) (ha : ag (fun a _ => 112 ≤ a ∧ a ≤ 117) mm y) {b : Nat} (hb : b < 32) : f_X10_isFree (nI b) y = some (.inl (bi (frB mc b)), y) := by
  refine q_free (rVer_ag (ag_rf _) (ag_mo ha (by intro a j q; omega)) h.2.2.1.1) (fun p hp => ?_) hb
  rw [(ha 117 p (by omega)).1]
  rcases R_pin h hp with ⟨e, e2⟩ | ⟨e, e2, hv⟩
  · exact Or.inl ⟨e, e2⟩
  · exact Or.inr ⟨e, e2, rVer_ag (ag_rf _) (ag_mo ha (by intro a j q; omega)) hv⟩
-- remark: the free blocks in their order
def isBk (mc : sM) (N : Nat) (B : Nat → Nat) : Prop := ∀ t, t ≤ N → B t < 32 ∧ frB mc (B t) = true ∧ fb_ct (frB mc) (B t) = t
set_option maxRecDepth 100000 in
set_option maxHeartbeats 1000000 in
theorem bk_ex {mc : sM} {N : Nat} (h : N < fb_ct (frB mc) 32) : ∃ B, isBk mc N B := by
  have ex : ∀ t, ∃ b, t ≤ N → b < 32 ∧ frB mc b = true ∧ fb_ct (frB mc) b = t := fun t => by
    by_cases q : t ≤ N
    · obtain ⟨i, h1, h2, h3⟩ := fb_ct_kth (p := frB mc) (k := t) (n := 32) (by omega)
      exact ⟨i, fun _ => ⟨h1, h2, h3⟩⟩
    · exact ⟨0, fun w => absurd w q⟩
  obtain ⟨B, hB⟩ := Classical.axiomOfChoice ex
  exact ⟨B, hB⟩
set_option maxRecDepth 100000 in
set_option maxHeartbeats 1000000 in
theorem frB_2 {mc : sM} {b : Nat} (h : frB mc b = true) : 2 ≤ b := by
  by_cases q : b < 2
  · have := fre_lo mc q 2
    rw [show fre mc b 2 = frB mc b from rfl, h] at this
    exact absurd this (by decide)
  · omega
set_option maxRecDepth 100000 in
set_option maxHeartbeats 1000000 in
theorem wpg_ag {z s : sM} (ha : ag (fun a j => a = 50 ∨ (a = 39 ∧ j = 2)) z s) (p : Nat) : tpg s p = tpg z p ∧ wpg s p = wpg z p := by
  have e1 : s.2 50 1 = z.2 50 1 := (ha 50 1 (by omega)).2
  have e2 : s.2 39 2 = z.2 39 2 := (ha 39 2 (by omega)).2
  unfold wpg tpg
  rw [e1, e2]
  exact ⟨rfl, rfl⟩
-- remark: the next version's page blocks
def plc (z : sM) (B : Nat → Nat) (q : Nat) : Int32 := if wpg z q = true then nI (B (fb_ct (wpg z) q)) else if tpg z q = true then -1 else z.1 40 q
set_option maxRecDepth 100000 in
set_option maxHeartbeats 1000000 in
theorem p_place {mc z : sM} {B : Nat → Nat} {x : Int64} (hx : f_X9_freeBlocks z = some (.inl x, z)) (hb : ∀ b, b < 64 → lb x b = frB mc b) (hB : isBk mc (fb_ct (wpg z) 8) B) :
    ∃ s, f_X9_placeNext z = some (.inl (), s) ∧ ag (fun a j => ¬ (a = 40 ∧ j < 8) ∧ ¬ (a = 39 ∧ j = 5)) z s ∧ (∀ q, q < 8 → s.1 40 q = plc z B q) ∧ s.1 39 5 = nI (B (fb_ct (wpg z) 8)) := by
  have mem : ∀ t, t ≤ fb_ct (wpg z) 8 → ∀ m, f_X9_memberAt x (nI t) m = some (.inl (nI (B t)), m) := fun t ht m => by
    obtain ⟨h1, h2, h3⟩ := hB t ht
    exact p_mem (by omega) (by rw [hb _ (by omega)]; exact h2) ((fb_ct_cong fun k hk => hb k (by omega)).trans h3) m
  refine Exists.elim (lq1 (fun e g i (t : Int32 × sM) => f_X9_placeNext_L10 x (fun a m => e (a, m)) g t.1 (nI i) t.2) (fun p t => t.1 = nI (fb_ct (wpg z) p) ∧ ag (fun a j => ¬ (a = 40 ∧ j < 8)) z t.2 ∧ (∀ q, q < p → t.2.1 40 q = plc z B q) ∧ (∀ q, p ≤ q → q < 8 → t.2.1 40 q = z.1 40 q)) 8 ?_ ?_ 8 0 (0, z) 5000 rfl (by decide) ⟨rfl, ag_rf z, fun q h => absurd h (Nat.not_lt_zero _), fun q _ _ => rfl⟩) ?_
  rotate_right
  · rintro ⟨t, s⟩ ⟨⟨h1, h2, h3, -⟩, he⟩
    refine ⟨s_up s 39 5 (nI (B (fb_ct (wpg z) 8))), ?_, ag_up (ag_mo h2 (by intro a j q; omega)) (by omega), fun q hq => ?_, upS _ _ _ _⟩
    · unfold f_X9_placeNext
      rw [hx, bd_, jn_]
      refine (he (fun u => s_bd (f_X9_memberAt x u.1 u.2) fun r3 m4 => s_md (s_up m4 39 5 r3) fun m5 => some (.inl (), m5))).trans ?_
      dsimp only at h1 ⊢
      rw [h1, mem _ (Nat.le_refl _), bd_, md_]
    · rw [up1, if_neg (by omega)]; exact h3 q hq
  · rintro p ⟨t, s⟩ hp ⟨h1, h2, h3, h4⟩
    dsimp only at h1 h2 h3 h4
    subst h1
    obtain ⟨w1, w2⟩ := wpg_ag (ag_mo h2 (by intro a j q; omega)) p
    have ht := fb_ct_mono (wpg z) (show p ≤ 8 by omega)
    have hpw := p_ptw hp s
    rw [w2] at hpw
    have htp : f_X0_touchesPage 50 (nI p) s = some (.inl (bi (tpg s p)), s) := p_touch hp s
    rw [w1] at htp
    have hm := mem (fb_ct (wpg z) p) ht s
    have new : ∀ v, v = plc z B p → (∀ q, q < p + 1 → (s_up s 40 p v).1 40 q = plc z B q) ∧ (∀ q, p + 1 ≤ q → q < 8 → (s_up s 40 p v).1 40 q = z.1 40 q) := fun v hv => by
      refine ⟨fun q hq => ?_, fun q hq1 hq2 => ?_⟩
      · rw [up1]
        by_cases e : q = p
        · rw [if_pos ⟨rfl, e⟩, e]; exact hv
        · rw [if_neg (by omega)]; exact h3 q (by omega)
      · rw [up1, if_neg (by omega)]; exact h4 q (by omega) hq2
    have hsc : fb_ct (wpg z) (p + 1) = fb_ct (wpg z) p + (if wpg z p = true then 1 else 0) := fb_ct_succ _ _
    cases hw : wpg z p
    · rw [hw] at hpw hsc
      rw [if_neg (by decide), Nat.add_zero] at hsc
      cases htg : tpg z p
      · rw [htg] at htp
        refine ⟨(nI (fb_ct (wpg z) p), s), ⟨by rw [hsc]; rfl, h2, fun q hq => ?_, fun q hq1 hq2 => h4 q (by omega) hq2⟩, fun e g => ?_⟩
        · by_cases e : q = p
          · subst e
            unfold plc
            rw [hw, htg, if_neg (by decide), if_neg (by decide)]
            exact h4 q (Nat.le_refl _) hp
          · exact h3 q (by omega)
        · simp (disch := omega) only [md_, jn_, bd_, bdE_, ixl, ix_, llN, lNl, tlN, tNl, eNl, lNN, tNN, eNN, aNl, alN, mlN, nI_add, pk_mul, neg_lt0, if_true, if_false, if_pos, if_neg, up2, uL1, cp2, gdT, gdb_, or_true, true_or, false_or, or_false, and_true, true_and, and_false, false_and, ifb0, ifb1, eq_self, t0, t1, t2, t3, t4, o10, o01, z139a, Bool.false_eq_true, f_X9_placeNext_L10, hpw, htp, bi_f]
      · rw [htg] at htp
        obtain ⟨n1, n2⟩ := new (-1) (by unfold plc; rw [hw, htg, if_neg (by decide), if_pos rfl])
        refine ⟨(nI (fb_ct (wpg z) p), s_up s 40 p (-1)), ⟨by rw [hsc]; rfl, ag_up h2 (by omega), n1, n2⟩, fun e g => ?_⟩
        simp (disch := omega) only [md_, jn_, bd_, bdE_, ixl, ix_, llN, lNl, tlN, tNl, eNl, lNN, tNN, eNN, aNl, alN, mlN, nI_add, pk_mul, neg_lt0, if_true, if_false, if_pos, if_neg, up2, uL1, cp2, gdT, gdb_, or_true, true_or, false_or, or_false, and_true, true_and, and_false, false_and, ifb0, ifb1, eq_self, t0, t1, t2, t3, t4, o10, o01, z139a, Bool.false_eq_true, f_X9_placeNext_L10, hpw, htp, bi_f, bi_t]
    · rw [hw] at hpw hsc
      rw [if_pos rfl] at hsc
      obtain ⟨n1, n2⟩ := new (nI (B (fb_ct (wpg z) p))) (by unfold plc; rw [hw, if_pos rfl])
      refine ⟨(nI (fb_ct (wpg z) p + 1), s_up s 40 p (nI (B (fb_ct (wpg z) p)))), ⟨by rw [hsc], ag_up h2 (by omega), n1, n2⟩, fun e g => ?_⟩
      simp (disch := omega) only [md_, jn_, bd_, bdE_, ixl, ix_, llN, lNl, tlN, tNl, eNl, lNN, tNN, eNN, aNl, alN, mlN, nI_add, pk_mul, neg_lt0, if_true, if_false, if_pos, if_neg, up2, uL1, cp2, gdT, gdb_, or_true, true_or, false_or, or_false, and_true, true_and, and_false, false_and, ifb0, ifb1, eq_self, t0, t1, t2, t3, t4, o10, o01, z139a, Bool.false_eq_true, f_X9_placeNext_L10, hpw, hm, bi_t]
  · rintro e g ⟨t, s⟩ -
    simp (disch := omega) only [md_, jn_, bd_, bdE_, ixl, ix_, llN, lNl, tlN, tNl, eNl, lNN, tNN, eNN, aNl, alN, mlN, nI_add, pk_mul, neg_lt0, if_true, if_false, if_pos, if_neg, up2, uL1, cp2, gdT, gdb_, or_true, true_or, false_or, or_false, and_true, true_and, and_false, false_and, ifb0, ifb1, eq_self, t0, t1, t2, t3, t4, o10, o01, z139a, Bool.false_eq_true, f_X9_placeNext_L10]
-- remark: the reference's search
set_option maxRecDepth 100000 in
set_option maxHeartbeats 1000000 in
theorem bk_gap {mc : sM} {x b t : Nat} (hx : fb_ct (frB mc) x = t) (hb : frB mc b = true) (ht : fb_ct (frB mc) b = t) : x ≤ b ∧ ∀ i, x ≤ i → i < b → frB mc i = false := by
  refine ⟨?_, fun i h1 h2 => ?_⟩
  · by_cases q : x ≤ b
    · exact q
    · have h := fb_ct_mono (frB mc) (show b + 1 ≤ x by omega)
      rw [fb_ct_succ, hb, if_pos rfl] at h
      omega
  · cases q : frB mc i
    · rfl
    · have e1 := fb_ct_mono (frB mc) h1
      have e2 := fb_ct_mono (frB mc) (show i + 1 ≤ b by omega)
      rw [fb_ct_succ, q, if_pos rfl] at e2
      omega
set_option maxRecDepth 100000 in
set_option maxHeartbeats 1000000 in
theorem q_sr168 {mc mm y : sM} (h : R mc mm) (ha : ag (fun a _ => 112 ≤ a ∧ a ≤ 117) mm y) {x b t : Nat} (hx : fb_ct (frB mc) x = t) (hb32 : b < 32) (hb : frB mc b = true) (ht : fb_ct (frB mc) b = t) (y1 y2 y3 y4 y7 : Int32) (e : Int32 → sM → Option (sR Int32)) : f_X10_commit_L168 y1 y2 y3 y4 y7 e 5000 (nI x) y = e (nI b) y := by
  obtain ⟨hxb, hg⟩ := bk_gap hx hb ht
  refine lpE (fun g i (_ : Unit) => f_X10_commit_L168 y1 y2 y3 y4 y7 e g (nI i) y) (fun i _ => x ≤ i) _ b ?_ ?_ (b - x) x () 5000 (by omega) (by omega) (Nat.le_refl _)
  · intro i _ g hi hxi ih
    have := ih () (by omega)
    have hf := R_yfree h ha (b := i) (by omega)
    rw [hg i hxi hi] at hf
    simp (disch := omega) only [md_, jn_, bd_, bdE_, ixl, ix_, llN, lNl, tlN, tNl, eNl, lNN, tNN, eNN, aNl, alN, mlN, nI_add, pk_mul, neg_lt0, if_true, if_false, if_pos, if_neg, up2, uL1, cp2, gdT, gdb_, or_true, true_or, false_or, or_false, and_true, true_and, and_false, false_and, ifb0, ifb1, eq_self, t0, t1, t2, t3, t4, o10, o01, z139a, Bool.false_eq_true, f_X10_commit_L168, hf, bi_f]
    exact this
  · intro _ g _
    have hf := R_yfree h ha hb32
    rw [hb] at hf
    simp (disch := omega) only [md_, jn_, bd_, bdE_, ixl, ix_, llN, lNl, tlN, tNl, eNl, lNN, tNN, eNN, aNl, alN, mlN, nI_add, pk_mul, neg_lt0, if_true, if_false, if_pos, if_neg, up2, uL1, cp2, gdT, gdb_, or_true, true_or, false_or, or_false, and_true, true_and, and_false, false_and, ifb0, ifb1, eq_self, t0, t1, t2, t3, t4, o10, o01, z139a, Bool.false_eq_true, f_X10_commit_L168, hf, bi_t]
set_option maxRecDepth 100000 in
set_option maxHeartbeats 1000000 in
theorem q_sr303 {mc mm y : sM} (h : R mc mm) (ha : ag (fun a _ => 112 ≤ a ∧ a ≤ 117) mm y) {x b t : Nat} (hx : fb_ct (frB mc) x = t) (hb32 : b < 32) (hb : frB mc b = true) (ht : fb_ct (frB mc) b = t) (y1 y2 y3 y4 : Int32) (e : Int32 → sM → Option (sR Int32)) : f_X10_commit_L303 y1 y2 y3 y4 e 5000 (nI x) y = e (nI b) y := by
  obtain ⟨hxb, hg⟩ := bk_gap hx hb ht
  refine lpE (fun g i (_ : Unit) => f_X10_commit_L303 y1 y2 y3 y4 e g (nI i) y) (fun i _ => x ≤ i) _ b ?_ ?_ (b - x) x () 5000 (by omega) (by omega) (Nat.le_refl _)
  · intro i _ g hi hxi ih
    have := ih () (by omega)
    have hf := R_yfree h ha (b := i) (by omega)
    rw [hg i hxi hi] at hf
    simp (disch := omega) only [md_, jn_, bd_, bdE_, ixl, ix_, llN, lNl, tlN, tNl, eNl, lNN, tNN, eNN, aNl, alN, mlN, nI_add, pk_mul, neg_lt0, if_true, if_false, if_pos, if_neg, up2, uL1, cp2, gdT, gdb_, or_true, true_or, false_or, or_false, and_true, true_and, and_false, false_and, ifb0, ifb1, eq_self, t0, t1, t2, t3, t4, o10, o01, z139a, Bool.false_eq_true, f_X10_commit_L303, hf, bi_f]
    exact this
  · intro _ g _
    have hf := R_yfree h ha hb32
    rw [hb] at hf
    simp (disch := omega) only [md_, jn_, bd_, bdE_, ixl, ix_, llN, lNl, tlN, tNl, eNl, lNN, tNN, eNN, aNl, alN, mlN, nI_add, pk_mul, neg_lt0, if_true, if_false, if_pos, if_neg, up2, uL1, cp2, gdT, gdb_, or_true, true_or, false_or, or_false, and_true, true_and, and_false, false_and, ifb0, ifb1, eq_self, t0, t1, t2, t3, t4, o10, o01, z139a, Bool.false_eq_true, f_X10_commit_L303, hf, bi_t]
