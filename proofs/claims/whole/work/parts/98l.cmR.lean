/-! PURE: the relation after commit. -/
abbrev cmC (a k : Nat) : Prop := a ≠ 3 ∧ ¬ (4 ≤ a ∧ a < 36) ∧ a ≠ 39 ∧ a ≠ 40 ∧ a ≠ 41 ∧ a ≠ 50 ∧ a ≠ 51 ∧ a ≠ 52 ∧ ¬ (96 ≤ a ∧ a < 104) ∧ ¬ (a = 94 ∧ k = 1) ∧ a ≠ 108
abbrev cmM (a k : Nat) : Prop := a ≠ 135 ∧ a ≠ 136 ∧ a ≠ 137 ∧ a ≠ 111 ∧ a ≠ 138 ∧ a ≠ 139 ∧ ¬ (a = 110 ∧ (k = 0 ∨ k = 37 ∨ k = 25)) ∧ a ≠ 129 ∧ a ≠ 130
set_option maxRecDepth 100000 in
set_option maxHeartbeats 1000000 in
theorem R_cmF {mc mm s u : sM} (h : R mc mm) (hc : ag cmC mc s) (hm : ag cmM mm u) (hd : rDisk s u) (hl : rLog s u) (hst : rStat s u) : R (s_up (x_end s) 0 15 0) (s_up (y_rst u) 110 2 0) := by
  obtain ⟨h1, h2, h3, h4, h5, h6, h7, h8, h9, h10, h11⟩ := h
  have ac : ∀ {P : Nat → Nat → Prop}, (∀ a j, ((a = 54 ∨ a = 64 ∨ a = 74) ∧ (j = 2 ∨ j = 3)) ∨ ((a = 55 ∨ a = 65 ∨ a = 75) ∧ (j = 1 ∨ j = 2)) ∨ (a = 0 ∧ (j = 7 ∨ j = 15)) ∨ (a = 49 ∧ j < 2) → ¬ P a j) → ag P s (s_up (x_end s) 0 15 0) := fun hp => ag_up (end_ag (ag_rf _) (by intro a j q; exact hp a j (by omega))) (hp _ _ (by omega))
  have am : ∀ {P : Nat → Nat → Prop}, (∀ a j, ((a = 118 ∨ a = 122) ∧ j < 3) ∨ (a = 119 ∧ j < 192) ∨ (a = 110 ∧ (j = 19 ∨ j = 2)) ∨ (a = 117 ∧ j < 2) → ¬ P a j) → ag P u (s_up (y_rst u) 110 2 0) := fun hp => ag_up (rstM_ag (ag_rf _) (by intro a j q; exact hp a j (by omega))) (hp _ _ (by omega))
  have bc : ∀ {P : Nat → Nat → Prop}, (∀ a j, a = 0 ∧ j = 15 → ¬ P a j) → ag P (x_end s) (s_up (x_end s) 0 15 0) := fun hp => ag_up (ag_rf _) (hp _ _ (by omega))
  have bm : ∀ {P : Nat → Nat → Prop}, (∀ a j, a = 110 ∧ j = 2 → ¬ P a j) → ag P (y_rst u) (s_up (y_rst u) 110 2 0) := fun hp => ag_up (ag_rf _) (hp _ _ (by omega))
  refine ⟨rDisk_ag (ac ?_) (am ?_) hd, ⟨false, upS _ _ _ _, upS _ _ _ _⟩, rPres_ag (ag_tr (ag_mo hc ?_) (ac ?_)) (ag_tr (ag_mo hm ?_) (am ?_)) h3, rPins_ag (bc ?_) (bm ?_) (end_pins s u), fun t ht => rSlot_ag (bc ?_) (bm ?_) (end_slot ht fun k hk => ?_), rOrd_ag (fun a j q => (bc (P := dcOrd) (by intro a j q1 q2; omega) a j q).1) (bm ?_) (end_ord s u), rIn_ag (ag_tr (ag_mo hc ?_) (ac ?_)) (ag_tr (ag_mo hm ?_) (am ?_)) h7, rOut_ag (ag_tr (ag_mo hc ?_) (ac ?_)) (ag_tr (ag_mo hm ?_) (am ?_)) h8, rLog_ag (ac ?_) (am ?_) hl, rStat_ag (ac ?_) (am ?_) hst, rSalv_ag (ag_tr (ag_mo hc ?_) (ac ?_)) (ag_tr (ag_mo hm ?_) (am ?_)) h11⟩
  case refine_11 =>
    rw [(hm 120 (64 * t + k) (by omega)).1]
    exact R_120 ⟨h1, h2, h3, h4, h5, h6, h7, h8, h9, h10, h11⟩ ht k hk
  all_goals (intro a j q; omega)
def y_cm (r c b : Int32) (u : sM) : sM := s_cp (s_cp (s_cp (s_up (s_up (s_up u 110 3 r) 112 0 c) 113 0 b) 139 114 0 0 8) 136 115 0 0 64) 137 116 0 0 64
set_option maxRecDepth 100000 in
set_option maxHeartbeats 1000000 in
theorem cm1 (r c b : Int32) (u : sM) (a j : Nat) : (y_cm r c b u).1 a j = if a = 116 ∧ j < 64 then u.1 137 j else if a = 115 ∧ j < 64 then u.1 136 j else if a = 114 ∧ j < 8 then u.1 139 j else if a = 113 ∧ j = 0 then b else if a = 112 ∧ j = 0 then c else if a = 110 ∧ j = 3 then r else u.1 a j := by
  unfold y_cm
  rw [cp1]
  by_cases q1 : a = 116 ∧ j < 64
  · obtain ⟨rfl, q⟩ := q1
    rw [if_pos ⟨rfl, Nat.zero_le _, by omega⟩, if_pos ⟨rfl, q⟩, cp1, if_neg (by omega), cp1, if_neg (by omega), up1, if_neg (by omega), up1, if_neg (by omega), up1, if_neg (by omega), Nat.zero_add, Nat.sub_zero]
  rw [if_neg (by omega), if_neg q1, cp1]
  by_cases q2 : a = 115 ∧ j < 64
  · obtain ⟨rfl, q⟩ := q2
    rw [if_pos ⟨rfl, Nat.zero_le _, by omega⟩, if_pos ⟨rfl, q⟩, cp1, if_neg (by omega), up1, if_neg (by omega), up1, if_neg (by omega), up1, if_neg (by omega), Nat.zero_add, Nat.sub_zero]
  rw [if_neg (by omega), if_neg q2, cp1]
  by_cases q3 : a = 114 ∧ j < 8
  · obtain ⟨rfl, q⟩ := q3
    rw [if_pos ⟨rfl, Nat.zero_le _, by omega⟩, if_pos ⟨rfl, q⟩, up1, if_neg (by omega), up1, if_neg (by omega), up1, if_neg (by omega), Nat.zero_add, Nat.sub_zero]
  rw [if_neg (by omega), if_neg q3, up1, up1, up1]
set_option maxRecDepth 100000 in
set_option maxHeartbeats 1000000 in
theorem cm_ag {P : Nat → Nat → Prop} {r c b : Int32} {m u : sM} (h : ag P m u) (hp : ∀ a j, (a = 116 ∧ j < 64) ∨ (a = 115 ∧ j < 64) ∨ (a = 114 ∧ j < 8) ∨ (a = 113 ∧ j = 0) ∨ (a = 112 ∧ j = 0) ∨ (a = 110 ∧ j = 3) → ¬ P a j) : ag P m (y_cm r c b u) := by
  unfold y_cm
  exact ag_cp (ag_cp (ag_cp (ag_up (ag_up (ag_up h (hp _ _ (by omega))) (hp _ _ (by omega))) (hp _ _ (by omega))) (fun j _ _ => hp _ _ (by omega))) (fun j _ _ => hp _ _ (by omega))) (fun j _ _ => hp _ _ (by omega))
set_option maxRecDepth 100000 in
set_option maxHeartbeats 1000000 in
theorem R_cmS {mc mm s u : sM} {n c r t : Nat} {o : Nat → Nat} {Q : Nat → Int32} (h : R mc mm) (hc : ag cmC mc s) (hm : ag cmM mm u) (hd : rDisk s u) (hl : rLog s u) (hst : rStat s u)
    (ho : ∀ i, i < n → o i < 3) (ho2 : ∀ i, i < n → mc.1 (54 + 10 * o i) 3 = 2) (hall : ∀ s, s < 3 → mc.1 (54 + 10 * s) 3 = 2 → ∃ i, i < n ∧ o i = s)
    (v3 : s.1 39 3 = nI c) (hcc : c ≤ 999999) (v4 : s.1 39 4 = nI r) (hr : r < 2) (v5 : s.1 39 5 = nI t) (ht2 : 2 ≤ t) (ht : t < 32) (vq : ∀ q, q < 8 → s.1 40 q = Q q ∧ u.1 139 q = Q q) (vB : ∀ q, q < 8 → isB (Q q)) (vt : ∀ q, q < 8 → Q q ≠ nI t) (vd : ∀ p q, p < 8 → q < 8 → p ≠ q → Q p = Q q → Q p = -1)
    (vk : ∀ k, k < 64 → u.1 136 k = bi (lb (s.2 39 2) k) ∧ (lb (s.2 39 2) k = true → s.1 41 k = u.1 137 k)) :
    R (s_up (erC o (x_cpV 36 39 s) n) 0 7 0) (s_up (eiM o (y_cm (nI r) (nI c) (nI t) u) n) 110 19 0) := by
  obtain ⟨h1, h2, h3, h4, h5, h6, h7, h8, h9, h10, h11⟩ := id h
  obtain ⟨S, hS⟩ : ∃ S, S = s_up (erC o (x_cpV 36 39 s) n) 0 7 0 := ⟨_, rfl⟩
  obtain ⟨U, hU⟩ : ∃ U, U = s_up (eiM o (y_cm (nI r) (nI c) (nI t) u) n) 110 19 0 := ⟨_, rfl⟩
  rw [← hS, ← hU]
  have ac : ∀ {P : Nat → Nat → Prop}, (∀ a j, ((a = 54 ∨ a = 64 ∨ a = 74) ∧ (j = 2 ∨ j = 3)) ∨ ((a = 55 ∨ a = 65 ∨ a = 75) ∧ (j = 1 ∨ j = 2)) ∨ (a = 0 ∧ j = 7) ∨ (36 ≤ a ∧ a < 39) → ¬ P a j) → ag P s S := fun hp => by
    rw [hS]
    exact ag_up (erC_ag (cpV_ag (ag_rf _) (by intro a j q1 q2; exact hp a j (by omega))) n (fun i hi => by have := ho i hi; exact ⟨hp _ _ (by omega), hp _ _ (by omega), hp _ _ (by omega), hp _ _ (by omega)⟩)) (hp _ _ (by omega))
  have am : ∀ {P : Nat → Nat → Prop}, (∀ a j, ((a = 118 ∨ a = 122) ∧ j < 3) ∨ (a = 119 ∧ j < 192) ∨ (a = 110 ∧ (j = 19 ∨ j = 3)) ∨ (a = 116 ∧ j < 64) ∨ (a = 115 ∧ j < 64) ∨ (a = 114 ∧ j < 8) ∨ (a = 113 ∧ j = 0) ∨ (a = 112 ∧ j = 0) → ¬ P a j) → ag P u U := fun hp => by
    rw [hU]
    exact ag_up (eiM_ag (cm_ag (ag_rf _) (by intro a j q; exact hp a j (by omega))) n (fun i hi => by have := ho i hi; exact ⟨hp _ _ (by omega), hp _ _ (by omega), fun j _ _ => hp _ _ (by omega)⟩)) (hp _ _ (by omega))
  have bc : ag (fun a _ => 36 ≤ a ∧ a < 39) (x_cpV 36 39 s) S := by
    rw [hS]
    exact ag_up (erC_ag (ag_rf _) n (fun i hi => by have := ho i hi; exact ⟨by omega, by omega, by omega, by omega⟩)) (by omega)
  have bm : ag (fun a j => (112 ≤ a ∧ a < 117) ∨ (a = 110 ∧ j = 3)) (y_cm (nI r) (nI c) (nI t) u) U := by
    rw [hU]
    exact ag_up (eiM_ag (ag_rf _) n (fun i hi => by have := ho i hi; exact ⟨by omega, by omega, fun j _ _ => by omega⟩)) (by omega)
  have S36 : ∀ j, j = 3 ∨ j = 4 ∨ j = 5 → S.1 36 j = s.1 39 j := fun j hj => by rw [(bc 36 j (by omega)).1, cpV1 (by decide), if_pos ⟨rfl, hj⟩]
  have S37 : ∀ p, p < 8 → S.1 37 p = Q p := fun p hp => by rw [(bc 37 p (by omega)).1, cpV1 (by decide), if_neg (by omega), if_neg (by omega), if_pos ⟨rfl, hp⟩]; exact (vq p hp).1
  have S38 : ∀ k, k < 64 → S.1 38 k = s.1 41 k := fun k hk => by rw [(bc 38 k (by omega)).1, cpV1 (by decide), if_neg (by omega), if_pos ⟨rfl, hk⟩]
  have S2 : S.2 36 2 = s.2 39 2 := by rw [(bc 36 2 (by omega)).2, cpV2]
  have U3 : U.1 110 3 = nI r := by rw [(bm 110 3 (by omega)).1, cm1, if_neg (by omega), if_neg (by omega), if_neg (by omega), if_neg (by omega), if_neg (by omega), if_pos ⟨rfl, rfl⟩]
  have U112 : U.1 112 0 = nI c := by rw [(bm 112 0 (by omega)).1, cm1, if_neg (by omega), if_neg (by omega), if_neg (by omega), if_neg (by omega), if_pos ⟨rfl, rfl⟩]
  have U113 : U.1 113 0 = nI t := by rw [(bm 113 0 (by omega)).1, cm1, if_neg (by omega), if_neg (by omega), if_neg (by omega), if_pos ⟨rfl, rfl⟩]
  have U114 : ∀ p, p < 8 → U.1 114 (8 * 0 + p) = Q p := fun p hp => by rw [Nat.mul_zero, Nat.zero_add, (bm 114 p (by omega)).1, cm1, if_neg (by omega), if_neg (by omega), if_pos ⟨rfl, hp⟩]; exact (vq p hp).2
  have U115 : ∀ k, k < 64 → U.1 115 (64 * 0 + k) = bi (lb (s.2 39 2) k) := fun k hk => by rw [Nat.mul_zero, Nat.zero_add, (bm 115 k (by omega)).1, cm1, if_neg (by omega), if_pos ⟨rfl, hk⟩]; exact (vk k hk).1
  have U116 : ∀ k, k < 64 → U.1 116 (64 * 0 + k) = u.1 137 k := fun k hk => by rw [Nat.mul_zero, Nat.zero_add, (bm 116 k (by omega)).1, cm1, if_pos ⟨rfl, hk⟩]
  have hat : ∀ x, x < 3 → mc.1 (54 + 10 * x) 3 = 2 → S.1 (54 + 10 * x) 3 = 0 ∧ S.1 (54 + 10 * x) 2 = 0 ∧ S.2 (54 + 10 * x + 1) 1 = 0 ∧ S.2 (54 + 10 * x + 1) 2 = 0 ∧ U.1 118 x = 0 ∧ U.1 122 x = 0 ∧ ∀ k, k < 64 → U.1 119 (64 * x + k) = 0 := fun x hx h2 => by
    obtain ⟨i, hi, e⟩ := hall x hx h2
    obtain ⟨a1, a2, a3, a4⟩ := erC_at o (x_cpV 36 39 s) n i hi
    obtain ⟨b1, b2, b3⟩ := eiM_at o (y_cm (nI r) (nI c) (nI t) u) n i hi
    rw [e] at a1 a2 a3 a4 b1 b2 b3
    rw [hS, hU]
    refine ⟨?_, ?_, a3, a4, ?_, ?_, fun k hk => ?_⟩
    · rw [up1, if_neg (by omega)]; exact a1
    · rw [up1, if_neg (by omega)]; exact a2
    · rw [up1, if_neg (by omega)]; exact b1
    · rw [up1, if_neg (by omega)]; exact b2
    · rw [up1, if_neg (by omega)]; exact b3 k hk
  have hno : ∀ x, x < 3 → ¬ mc.1 (54 + 10 * x) 3 = 2 → ag (dcSlot x) s S ∧ ag (dmSlot x) u U := fun x hx hne => by
    have hq : ∀ i, i < n → o i ≠ x := fun i hi e => hne (e ▸ ho2 i hi)
    rw [hS, hU]
    exact ⟨ag_up (erC_ag (cpV_ag (ag_rf _) (by intro a j q1 q2; omega)) n (fun i hi => by have := ho i hi; have := hq i hi; exact ⟨by omega, by omega, by omega, by omega⟩)) (by omega),
      ag_up (eiM_ag (cm_ag (ag_rf _) (by intro a j q; omega)) n (fun i hi => by have := ho i hi; have := hq i hi; exact ⟨by omega, by omega, fun j _ _ => by omega⟩)) (by omega)⟩
  refine ⟨rDisk_ag (ac ?_) (am ?_) hd, rOpen_ag (ag_tr (ag_mo hc ?_) (ac ?_)) (ag_tr (ag_mo hm ?_) (am ?_)) h2, ⟨⟨?_, ?_, ⟨t, ht2, ht, U113⟩, fun p hp => ⟨?_, ?_⟩, fun k hk => ⟨?_, fun w => ?_⟩⟩, ?_, ?_, ⟨c, hcc, ?_⟩, fun p hp => ?_, fun p q hp hq hpq heq => ?_⟩, rPins_ag (ag_tr (ag_mo hc ?_) (ac ?_)) (ag_tr (ag_mo hm ?_) (am ?_)) h4, fun x hx => ?_, ⟨0, fun _ => 0, by decide, ?_, ?_, fun i hi => absurd hi (Nat.not_lt_zero i), fun i j hi => absurd hi (Nat.not_lt_zero i), fun x hx hx2 => ?_⟩, rIn_ag (ag_tr (ag_mo hc ?_) (ac ?_)) (ag_tr (ag_mo hm ?_) (am ?_)) h7, rOut_ag (ag_tr (ag_mo hc ?_) (ac ?_)) (ag_tr (ag_mo hm ?_) (am ?_)) h8, rLog_ag (ac ?_) (am ?_) hl, rStat_ag (ac ?_) (am ?_) hst, rSalv_ag (ag_tr (ag_mo hc ?_) (ac ?_)) (ag_tr (ag_mo hm ?_) (am ?_)) h11⟩
  case refine_7 => rw [S36 3 (by omega), v3, U112]
  case refine_8 => rw [S36 5 (by omega), v5, U113]
  case refine_9 => rw [S37 p hp, U114 p hp]
  case refine_10 => rw [U114 p hp]; exact vB p hp
  case refine_11 => rw [U115 k hk, S2]
  case refine_12 => rw [S2] at w; rw [S38 k hk, U116 k hk]; exact (vk k hk).2 w
  case refine_13 => rw [S36 4 (by omega), v4, U3]
  case refine_14 =>
    rw [S36 4 (by omega), v4]
    rcases (by omega : r = 0 ∨ r = 1) with q | q <;> subst q
    · exact Or.inl rfl
    · exact Or.inr rfl
  case refine_15 => rw [S36 3 (by omega), v3]
  case refine_16 => rw [S37 p hp, S36 5 (by omega), v5]; exact vt p hp
  case refine_17 => rw [S37 p hp, S37 q hq] at heq; rw [S37 p hp]; exact vd p q hp hq hpq heq
  case refine_22 =>
    by_cases q : mc.1 (54 + 10 * x) 3 = 2
    · obtain ⟨d1, d2, d3, d4, d5, d6, d7⟩ := hat x hx q
      refine rSlot_mt (st := 0) (by decide) d1 d5 d2 d6 d3 d4 d7 (fun k hk => ?_)
      rw [(am (P := fun a _ => a = 120) (by intro a j q1 q2; omega) 120 _ rfl).1, (hm 120 _ (by omega)).1]
      exact R_120 h hx k hk
    · obtain ⟨d1, d2⟩ := hno x hx q
      exact rSlot_ag (ag_tr (ag_mo hc (by intro a j q; omega)) d1) (ag_tr (ag_mo hm (by intro a j q; omega)) d2) (h5 x hx)
  case refine_23 => rw [hS]; exact upS _ _ _ _
  case refine_24 => rw [hU]; exact upS _ _ _ _
  case refine_25 =>
    by_cases q : mc.1 (54 + 10 * x) 3 = 2
    · rw [(hat x hx q).1] at hx2; exact absurd hx2 (by decide)
    · obtain ⟨d1, -⟩ := hno x hx q
      rw [(d1 _ 3 (by omega)).1, (hc _ 3 (by omega)).1] at hx2
      exact absurd hx2 q
  all_goals (intro a j q; omega)
