/-! PURE: readChanges. -/
abbrev En : Type := Bool × Nat × Int32 × Int32
set_option maxRecDepth 100000 in
set_option maxHeartbeats 1000000 in
theorem dgc_t {ch : Int32} (h : dgc ch = true) : ∃ d, d < 10 ∧ ch - 48 = nI d := by
  unfold dgc at h
  rw [Bool.and_eq_true_iff] at h
  have h1 : ¬ ch < 48 := fun q => by rw [decide_eq_true q] at h; exact absurd h.1 (by decide)
  have h2 : ¬ 57 < ch := fun q => by rw [decide_eq_true q] at h; exact absurd h.2 (by decide)
  have h0 : ¬ ch < 0 := fun q => h1 (by
    rw [Int32.lt_iff_toInt_lt] at q ⊢
    rw [show (0 : Int32).toInt = 0 by decide] at q
    rw [show (48 : Int32).toInt = 48 by decide]
    omega)
  obtain ⟨k, hk, rfl⟩ := nI_of h0
  have k1 : 48 ≤ k := by
    by_cases q : k < 48
    · exact absurd (nI_lt (a := k) (b := 48) q (by decide)) h1
    · omega
  have k2 : k ≤ 57 := by
    by_cases q : 57 < k
    · exact absurd (nI_lt (a := 57) (b := k) q hk) h2
    · omega
  exact ⟨k - 48, by omega, pk_sub (b := 48) k1⟩
set_option maxRecDepth 100000 in
set_option maxHeartbeats 1000000 in
theorem num_2 {s : Nat → Int32} {n a : Nat} (hd : dg s n a = true) : ∃ k, k < 100 ∧ num s a (bd s n a 2 - a) = nI k := by
  obtain ⟨d, d1, d2⟩ := dgc_t (dg_t hd).2
  have hb : bd s n a 2 = if dg s n (a + 1) then a + 2 else a + 1 := by rw [bd, if_pos hd, bd, bd]
  cases hd2 : dg s n (a + 1)
  · rw [hd2, if_neg (by decide)] at hb
    rw [hb, show a + 1 - a = 1 by omega, num_1, d2]
    exact ⟨d, by omega, rfl⟩
  · rw [hd2, if_pos rfl] at hb
    obtain ⟨e, e1, e2⟩ := dgc_t (dg_t hd2).2
    rw [hb, show a + 2 - a = 1 + 1 by omega, num_s, num_1, d2, e2]
    refine ⟨10 * d + e, by omega, ?_⟩
    have m1 : (10 : Int32) * nI d = nI (10 * d) := pk_mul 10 d
    rw [m1, nI_add]
set_option maxRecDepth 100000 in
set_option maxHeartbeats 1000000 in
theorem ent_key {s : Nat → Int32} {n a b : Nat} {x : En} (h : ent s n a = .inr (b, x)) : a < b ∧ (a ≤ n → b ≤ n) ∧ x.2.1 ≤ n ∧ ∃ k, k < 100 ∧ x.2.2.1 = nI k := by
  unfold ent at h
  cases r : sg s n a 45
  · rw [r] at h
    simp only [Bool.false_eq_true, if_false, Nat.add_zero] at h
    by_cases k0 : bd s n a 2 = a
    · rw [if_pos k0] at h; cases h
    · rw [if_neg k0] at h
      have hd : dg s n a = true := by
        cases w : dg s n a
        · exact absurd (bd_dg.mpr w) k0
        · rfl
      have hb := bd_ge s n 2 a
      have han := (dg_t hd).1
      cases q61 : sg s n (bd s n a 2) 61
      · rw [q61, if_neg (by decide)] at h; cases h
      · rw [q61, if_pos rfl] at h
        have hkn := sg_lt q61
        generalize hd0 : bd s n a 2 + 1 + (if sg s n (bd s n a 2 + 1) 45 then 1 else 0) = d0 at h
        have hdle : d0 ≤ n := by
          rw [← hd0]
          cases q45 : sg s n (bd s n a 2 + 1) 45
          · simp only [Bool.false_eq_true, if_false]; omega
          · have := sg_lt q45
            simp only [if_true]; omega
        have hdge : bd s n a 2 < d0 := by omega
        have hdb := bd_ge s n 4 d0
        by_cases qd : bd s n d0 4 = d0
        · rw [if_pos qd] at h; cases h
        · rw [if_neg qd] at h
          cases h
          exact ⟨by omega, fun _ => hdb.2.2 hdle, by show a ≤ n; omega, num_2 hd⟩
  · rw [r] at h
    simp only [if_true] at h
    have han := sg_lt r
    by_cases k0 : bd s n (a + 1) 2 = a + 1
    · rw [if_pos k0] at h; cases h
    · rw [if_neg k0] at h
      have hd : dg s n (a + 1) = true := by
        cases w : dg s n (a + 1)
        · exact absurd (bd_dg.mpr w) k0
        · rfl
      have hb := bd_ge s n 2 (a + 1)
      cases h
      exact ⟨by omega, fun _ => hb.2.2 (by omega), by show a + 1 ≤ n; omega, num_2 hd⟩
set_option maxRecDepth 100000 in
set_option maxHeartbeats 1000000 in
theorem ent_err {s : Nat → Int32} {n a e : Nat} (h : ent s n a = .inl e) (ha : a ≤ n) : e ≤ n := by
  unfold ent at h
  cases r : sg s n a 45
  · rw [r] at h
    simp only [Bool.false_eq_true, if_false, Nat.add_zero] at h
    have hb := (bd_ge s n 2 a).2.2 ha
    by_cases k0 : bd s n a 2 = a
    · rw [if_pos k0] at h; cases h; exact hb
    · rw [if_neg k0] at h
      cases q61 : sg s n (bd s n a 2) 61
      · rw [q61, if_neg (by decide)] at h; cases h; exact hb
      · rw [q61, if_pos rfl] at h
        have hkn := sg_lt q61
        generalize hd0 : bd s n a 2 + 1 + (if sg s n (bd s n a 2 + 1) 45 then 1 else 0) = d0 at h
        have hdle : d0 ≤ n := by
          rw [← hd0]
          cases q45 : sg s n (bd s n a 2 + 1) 45
          · simp only [Bool.false_eq_true, if_false]; omega
          · have := sg_lt q45
            simp only [if_true]; omega
        by_cases qd : bd s n d0 4 = d0
        · rw [if_pos qd] at h; cases h; exact (bd_ge s n 4 d0).2.2 hdle
        · rw [if_neg qd] at h; cases h
  · rw [r] at h
    simp only [if_true] at h
    have han := sg_lt r
    by_cases k0 : bd s n (a + 1) 2 = a + 1
    · rw [if_pos k0] at h; cases h; exact (bd_ge s n 2 (a + 1)).2.2 (by omega)
    · rw [if_neg k0] at h; cases h
set_option maxRecDepth 100000 in
set_option maxHeartbeats 1000000 in
theorem prs_err {s : Nat → Int32} {n : Nat} : ∀ d a e, a ≤ n → (prs s n d a).2 = some e → e ≤ n
  | 0, a, e, _, h => by cases h
  | d + 1, a, e, ha, h => by
    rw [prs] at h
    cases he : ent s n a with
    | inl e' =>
      rw [he] at h
      cases h
      exact ent_err he ha
    | inr y =>
      obtain ⟨b, x⟩ := y
      rw [he] at h
      dsimp only at h
      have hk := ent_key he
      have hbn := hk.2.1 ha
      by_cases q : b = n
      · rw [if_pos q] at h; cases h
      · rw [if_neg q] at h
        by_cases q44 : s b = 44
        · rw [if_pos q44] at h; exact prs_err d (b + 1) e (by omega) h
        · rw [if_neg q44] at h; cases h; exact hbn
set_option maxRecDepth 100000 in
set_option maxHeartbeats 1000000 in
theorem prs_key {s : Nat → Int32} {n : Nat} : ∀ d a, a ≤ n → ∀ x ∈ (prs s n d a).1, x.2.1 ≤ n ∧ ∃ k, k < 100 ∧ x.2.2.1 = nI k
  | 0, a, _, x, h => by cases h
  | d + 1, a, ha, x, h => by
    rw [prs] at h
    cases he : ent s n a with
    | inl e' =>
      rw [he] at h
      cases h
    | inr y =>
      obtain ⟨b, y⟩ := y
      rw [he] at h
      dsimp only at h
      have hk := ent_key he
      have hbn := hk.2.1 ha
      by_cases q : b = n
      · rw [if_pos q] at h
        rcases List.mem_cons.mp h with rfl | h
        · exact hk.2.2
        · cases h
      · rw [if_neg q] at h
        by_cases q44 : s b = 44
        · rw [if_pos q44] at h
          rcases List.mem_cons.mp h with rfl | h
          · exact hk.2.2
          · exact prs_key d (b + 1) (by omega) x h
        · rw [if_neg q44] at h
          rcases List.mem_cons.mp h with rfl | h
          · exact hk.2.2
          · cases h
-- remark: the place of the first key that is too great
def lkl (o : Int32) : List En → Int32
  | [] => o
  | x :: l => lkl (lkn o x.2.2.1 x.2.1) l
set_option maxRecDepth 100000 in
set_option maxHeartbeats 1000000 in
theorem lkl_nn {o : Int32} (h : 0 ≤ o) : ∀ l, lkl o l = o
  | [] => rfl
  | x :: l => by
    rw [lkl, lkn, if_pos h]
    exact lkl_nn h l
set_option maxRecDepth 100000 in
set_option maxHeartbeats 1000000 in
theorem lkl_64 : ∀ (l : List En), (∀ x ∈ l, x.2.1 ≤ 60) → lkl (-1) l = -1 → ∀ x ∈ l, x.2.2.1 < 64
  | [], _, _, x, hx => by cases hx
  | y :: l, hp, h, x, hx => by
    rw [lkl] at h
    have hy := hp y (List.mem_cons_self ..)
    by_cases q : y.2.2.1 < 64
    · have e : lkn (-1) y.2.2.1 y.2.1 = -1 := by unfold lkn; rw [if_neg (by decide), if_pos q]
      rw [e] at h
      rcases List.mem_cons.mp hx with rfl | hx
      · exact q
      · exact lkl_64 l (fun z hz => hp z (List.mem_cons_of_mem _ hz)) h x hx
    · have e : lkn (-1) y.2.2.1 y.2.1 = nI y.2.1 := by unfold lkn; rw [if_neg (by decide), if_neg q]
      rw [e, lkl_nn (nI_le (a := 0) (Nat.zero_le _) (by omega))] at h
      exact absurd h (nIm1 (by omega))
set_option maxRecDepth 100000 in
set_option maxHeartbeats 1000000 in
theorem p_great {m : sM} : ∀ (l : List En) c g, m.1 85 6 = nI (c + l.length) → c + l.length ≤ 60 → (∀ i x, l[i]? = some x → Sto m (c + i) x ∧ x.2.1 ≤ 60) → l.length < g → f_X2_placeOfGreatKey_L2 m (some (.inl (-1), m)) (fun (x1_21 : Int32) => s_ix x1_21 60 fun j1 => some (.inl (m.1 88 j1), m)) g (nI c) = some (.inl (lkl (-1) l), m)
  | [], c, g, h6, h60, hS, hg => by
    obtain ⟨g, rfl⟩ : ∃ g', g = g' + 1 := ⟨g - 1, by omega⟩
    rw [List.length_nil, Nat.add_zero] at h6 h60
    rw [f_X2_placeOfGreatKey_L2, h6, if_pos (nI_le (Nat.le_refl _) (by omega))]
    rfl
  | x :: l, c, g, h6, h60, hS, hg => by
    obtain ⟨g, rfl⟩ : ∃ g', g = g' + 1 := ⟨g - 1, by omega⟩
    rw [List.length_cons] at h6 h60 hg
    obtain ⟨⟨w1, w2, w3, w4⟩, hx⟩ := hS 0 x rfl
    rw [Nat.add_zero] at w1 w2
    have c1 : nI c + 1 = nI (c + 1) := nI_add c 1
    rw [f_X2_placeOfGreatKey_L2, h6, if_neg (nI_ge (by omega) (by omega)), ix_ _ (by omega) (by decide), w1, lkl]
    by_cases q : x.2.2.1 < 64
    · have e : lkn (-1) x.2.2.1 x.2.1 = -1 := by unfold lkn; rw [if_neg (by decide), if_pos q]
      rw [if_pos q, e, c1]
      exact p_great l (c + 1) g (by rw [h6]; congr 1; omega) (by omega) (fun i y hy => by
        have := hS (i + 1) y hy
        rw [show c + (i + 1) = c + 1 + i by omega] at this
        exact this) (by omega)
    · have e : lkn (-1) x.2.2.1 x.2.1 = nI x.2.1 := by unfold lkn; rw [if_neg (by decide), if_neg q]
      rw [if_neg q, e, lkl_nn (nI_le (a := 0) (Nat.zero_le _) (by omega)), ix_ _ (by omega) (by decide), w2]
-- remark: the reference's first reading
def fin1 : Option Nat → Int32
  | none => -1
  | some e => nI e
set_option maxRecDepth 100000 in
set_option maxHeartbeats 1000000 in
theorem q_prsA {s : Nat → Int32} {n : Nat} (hn : n ≤ 60) : ∀ d a (m : sM) g, n - a < d → a ≤ n → Inp s n m → n - a < g → ∃ m', f_X10_read_L12 (-1) eRd eOk eRd eRd eRd g (nI a) m = some (.inl (fin1 (prs s n d a).2), m') ∧ ag (fun b j => ¬ (b = 110 ∧ (j = 31 ∨ j = 32))) m m' ∧ ((prs s n d a).2 = none → m'.1 110 32 = lkl (m.1 110 32) (prs s n d a).1)
  | 0, a, m, g, h0, _, _, _ => absurd h0 (Nat.not_lt_zero _)
  | d + 1, a, m, g, h0, ha, h, hg => by
    obtain ⟨g, rfl⟩ : ∃ g', g = g' + 1 := ⟨g - 1, by omega⟩
    obtain ⟨E1, E2⟩ := q_ent h hn ha (-1)
    rw [prs]
    cases he : ent s n a with
    | inl e =>
      obtain ⟨m', t1, t2⟩ := E1 e he
      exact ⟨m', t2 g, t1, fun q => by cases q⟩
    | inr y =>
      obtain ⟨b, r, kp, k, v⟩ := y
      obtain ⟨hab, hbn, -⟩ := ent_key he
      have hbn := hbn ha
      have t1 : ag (fun b j => ¬ (b = 110 ∧ (j = 31 ∨ j = 32))) m (s_up (s_up m 110 32 (lkn (m.1 110 32) k kp)) 110 31 (m.1 110 31 + 1)) := ag_up (ag_up (ag_rf m) (by omega)) (by omega)
      have hI : Inp s n (s_up (s_up m 110 32 (lkn (m.1 110 32) k kp)) 110 31 (m.1 110 31 + 1)) := Inp_ag h (ag_mo t1 (by intro a j q; omega))
      have hE := E2 b r kp k v he _ _ rfl (fun K => if_pos (by decide)) hI g
      have e32 : (s_up (s_up m 110 32 (lkn (m.1 110 32) k kp)) 110 31 (m.1 110 31 + 1)).1 110 32 = lkn (m.1 110 32) k kp := by rw [up1, if_neg (by omega)]; exact upS _ _ _ _
      dsimp only
      rw [hE]
      by_cases q : b = n
      · rw [if_pos q, if_pos q]
        exact ⟨_, rfl, t1, fun _ => e32⟩
      · rw [if_neg q, if_neg q]
        by_cases q44 : s b = 44
        · rw [if_pos q44, if_pos q44]
          obtain ⟨m', i1, i2, i3⟩ := q_prsA hn d (b + 1) _ g (by omega) (by omega) hI (by omega)
          refine ⟨m', i1, ag_tr t1 i2, fun w => ?_⟩
          rw [i3 w, e32]
          rfl
        · rw [if_neg q44, if_neg q44]
          exact ⟨_, rfl, t1, fun w => by cases w⟩
-- remark: what the entries do to a slot
def apC (a : Nat) : List En → sM → sM
  | [], m => m
  | x :: l, m => apC a l (if x.1 then x_drp a x.2.2.1.toNatClampNeg m else x_ren a x.2.2.1.toNatClampNeg x.2.2.2 m)
def apM (s : Nat) : List En → sM → sM
  | [], m => m
  | x :: l, m => apM s l (if x.1 then y_drp s x.2.2.1.toNatClampNeg m else y_chg s x.2.2.1.toNatClampNeg x.2.2.2 m)
def K64 (l : List En) : Prop := ∀ x ∈ l, ∃ k, k < 64 ∧ x.2.2.1 = nI k
set_option maxRecDepth 100000 in
set_option maxHeartbeats 1000000 in
theorem ag_up2 {P : Nat → Nat → Prop} {m m' : sM} {a k : Nat} {v : Int32} (h : ag P m m') : ag P (s_up m a k v) (s_up m' a k v) := fun b j p => by
  rw [up1, up1, up2, up2]
  by_cases e : b = a ∧ j = k
  · rw [if_pos e, if_pos e]; exact ⟨rfl, (h b j p).2⟩
  · rw [if_neg e, if_neg e]; exact h b j p
set_option maxRecDepth 100000 in
set_option maxHeartbeats 1000000 in
theorem apM_ag2 {P : Nat → Nat → Prop} {s : Nat} : ∀ (l : List En) {m m' : sM}, ag P m m' → ag P (apM s l m) (apM s l m')
  | [], _, _, h => h
  | x :: l, m, m', h => by
    rw [apM, apM]
    refine apM_ag2 l ?_
    cases x.1
    · exact ag_up2 (ag_up2 (ag_up2 h))
    · exact ag_up2 (ag_up2 h)
set_option maxRecDepth 100000 in
set_option maxHeartbeats 1000000 in
theorem apM_ag {P : Nat → Nat → Prop} {s : Nat} (hp : ∀ b j, 119 ≤ b → b ≤ 121 → 64 * s ≤ j → j < 64 * s + 64 → ¬ P b j) : ∀ (l : List En) {m m' : sM}, K64 l → ag P m m' → ag P m (apM s l m')
  | [], _, _, _, h => h
  | x :: l, m, m', hk, h => by
    obtain ⟨k, k1, k2⟩ := hk x (List.mem_cons_self ..)
    rw [apM]
    refine apM_ag hp l (fun y hy => hk y (List.mem_cons_of_mem _ hy)) ?_
    rw [k2, nI_clamp (by omega)]
    cases x.1
    · exact chg_ag h (hp _ _ (by decide) (by decide) (by omega) (by omega)) (hp _ _ (by decide) (by decide) (by omega) (by omega)) (hp _ _ (by decide) (by decide) (by omega) (by omega))
    · exact ydrp_ag h (hp _ _ (by decide) (by decide) (by omega) (by omega)) (hp _ _ (by decide) (by decide) (by omega) (by omega))
set_option maxRecDepth 100000 in
set_option maxHeartbeats 1000000 in
theorem apC_ag {P : Nat → Nat → Prop} {a : Nat} (h1 : ¬ P a 1) (h2 : ¬ P a 2) (h3 : ∀ j, ¬ P (a + 1) j) : ∀ (l : List En) {m m' : sM}, ag P m m' → ag P m (apC a l m')
  | [], _, _, h => h
  | x :: l, m, m', h => by
    rw [apC]
    refine apC_ag h1 h2 h3 l ?_
    cases x.1
    · exact ren_ag h h1 h2 (h3 _)
    · exact drp_ag h h1 h2
set_option maxRecDepth 100000 in
set_option maxHeartbeats 1000000 in
theorem ap_rel {a s : Nat} : ∀ (l : List En) {mc mm : sM}, K64 l → rChg mc mm a 119 120 121 (64 * s) → rChg (apC a l mc) (apM s l mm) a 119 120 121 (64 * s)
  | [], _, _, _, h => h
  | x :: l, mc, mm, hk, h => by
    obtain ⟨k, k1, k2⟩ := hk x (List.mem_cons_self ..)
    rw [apC, apM]
    refine ap_rel l (fun y hy => hk y (List.mem_cons_of_mem _ hy)) ?_
    rw [k2, nI_clamp (by omega)]
    cases x.1
    · exact rChg_ren k1 _ h
    · exact rChg_drp k1 h
-- remark: the reference's second reading
set_option maxRecDepth 100000 in
set_option maxHeartbeats 1000000 in
theorem q_prsB {s : Nat → Int32} {n sl : Nat} (hn : n ≤ 60) (hsl : sl < 3) : ∀ d a (m : sM) g, n - a < d → a ≤ n → Inp s n m → n - a < g → (prs s n d a).2 = none → K64 (prs s n d a).1 → ∃ m', f_X10_read_L12 (nI sl) eRd eOk eRd eRd eRd g (nI a) m = some (.inl (-1), m') ∧ ag (fun b j => ¬ (b = 110 ∧ (j = 31 ∨ j = 32))) (apM sl (prs s n d a).1 m) m' ∧ m'.1 110 31 = m.1 110 31 + nI (prs s n d a).1.length
  | 0, a, m, g, h0, _, _, _, _, _ => absurd h0 (Nat.not_lt_zero _)
  | d + 1, a, m, g, h0, ha, h, hg, hN, hK => by
    obtain ⟨g, rfl⟩ : ∃ g', g = g' + 1 := ⟨g - 1, by omega⟩
    obtain ⟨E1, E2⟩ := q_ent h hn ha (nI sl)
    rw [prs] at hN hK ⊢
    cases he : ent s n a with
    | inl e =>
      rw [he] at hN
      cases hN
    | inr y =>
      obtain ⟨b, r, kp, k, v⟩ := y
      rw [he] at hN hK
      dsimp only at hN hK ⊢
      obtain ⟨hab, hbn, -⟩ := ent_key he
      have hbn := hbn ha
      have hk64 : ∃ kn, kn < 64 ∧ k = nI kn := by
        by_cases q : b = n
        · rw [if_pos q] at hK; exact hK (r, kp, k, v) (List.mem_cons_self ..)
        · rw [if_neg q] at hK
          by_cases q44 : s b = 44
          · rw [if_pos q44] at hK; exact hK (r, kp, k, v) (List.mem_cons_self ..)
          · rw [if_neg q44] at hK; exact hK (r, kp, k, v) (List.mem_cons_self ..)
      obtain ⟨kn, kn1, rfl⟩ := hk64
      have t1 : ag (fun b j => ¬ (b = 110 ∧ (j = 31 ∨ j = 32))) m (s_up (s_up m 110 32 (lkn (m.1 110 32) (nI kn) kp)) 110 31 (m.1 110 31 + 1)) := ag_up (ag_up (ag_rf m) (by omega)) (by omega)
      have ex : ∃ m2, (∀ K : sM → Option (sR Int32), (if nI sl < 0 then K (s_up (s_up m 110 32 (lkn (m.1 110 32) (nI kn) kp)) 110 31 (m.1 110 31 + 1)) else if bi r = 0 then s_bd (f_X10_change (nI sl) (nI kn) v (s_up (s_up m 110 32 (lkn (m.1 110 32) (nI kn) kp)) 110 31 (m.1 110 31 + 1))) (fun _ z => K z) else s_bd (f_X10_drop (nI sl) (nI kn) (s_up (s_up m 110 32 (lkn (m.1 110 32) (nI kn) kp)) 110 31 (m.1 110 31 + 1))) (fun _ z => K z)) = K m2) ∧ ag (fun b j => ¬ (b = 110 ∧ (j = 31 ∨ j = 32))) (if r then y_drp sl kn m else y_chg sl kn v m) m2 ∧ m2.1 110 31 = m.1 110 31 + 1 ∧ Inp s n m2 := by
        cases r
        · refine ⟨y_chg sl kn v (s_up (s_up m 110 32 (lkn (m.1 110 32) (nI kn) kp)) 110 31 (m.1 110 31 + 1)), fun K => ?_, ag_up2 (ag_up2 (ag_up2 t1)), ?_, ?_⟩
          · rw [if_neg (nI_pos (by omega)), if_pos bi_f, q_chg hsl kn1, bd_]
          · rw [chg1, if_neg (by omega), if_neg (by omega), if_neg (by omega)]; exact upS _ _ _ _
          · exact Inp_ag h (chg_ag (ag_mo t1 (by intro a j q; omega)) (by omega) (by omega) (by omega))
        · refine ⟨y_drp sl kn (s_up (s_up m 110 32 (lkn (m.1 110 32) (nI kn) kp)) 110 31 (m.1 110 31 + 1)), fun K => ?_, ag_up2 (ag_up2 t1), ?_, ?_⟩
          · rw [if_neg (nI_pos (by omega)), if_neg (by decide), q_drp hsl kn1, bd_]
          · rw [ydrp1, if_neg (by omega), if_neg (by omega)]; exact upS _ _ _ _
          · exact Inp_ag h (ydrp_ag (ag_mo t1 (by intro a j q; omega)) (by omega) (by omega))
      obtain ⟨m2, hKm, t2, t31, hI⟩ := ex
      have hE := E2 b r kp (nI kn) v he _ m2 rfl hKm hI g
      have ap1 : ∀ l, apM sl ((r, kp, nI kn, v) :: l) m = apM sl l (if r then y_drp sl kn m else y_chg sl kn v m) := fun l => by
        rw [apM]
        show apM sl l (if r = true then y_drp sl (nI kn).toNatClampNeg m else y_chg sl (nI kn).toNatClampNeg v m) = _
        rw [nI_clamp (by omega)]
      rw [hE]
      by_cases q : b = n
      · rw [if_pos q, if_pos q, ap1]
        exact ⟨m2, rfl, t2, by rw [t31]; rfl⟩
      · rw [if_neg q] at hN hK ⊢
        rw [if_neg q]
        by_cases q44 : s b = 44
        · rw [if_pos q44] at hN hK ⊢
          rw [if_pos q44, ap1]
          obtain ⟨m', i1, i2, i3⟩ := q_prsB hn hsl d (b + 1) m2 g (by omega) (by omega) hI (by omega) hN (fun x hx => hK x (List.mem_cons_of_mem _ hx))
          refine ⟨m', i1, ag_tr (apM_ag2 _ t2) i2, ?_⟩
          have e1 : (1 : Int32) + nI (prs s n d (b + 1)).1.length = nI ((prs s n d (b + 1)).1.length + 1) := by
            rw [Nat.add_comm (prs s n d (b + 1)).1.length 1]
            exact nI_add 1 _
          rw [i3, t31, List.length_cons, Int32.add_assoc, e1]
        · rw [if_neg q44] at hN
          cases hN
set_option maxRecDepth 100000 in
set_option maxHeartbeats 1000000 in
theorem p_enter {a : Nat} (ha : 54 ≤ a ∧ a + 1 < 84) : ∀ (l : List En) c (m : sM) g (e : sM → Option (sR Unit)), m.1 85 6 = nI (c + l.length) → c + l.length ≤ 60 → K64 l → (∀ i x, l[i]? = some x → Sto m (c + i) x) → l.length < g → f_X2_enter_L2 a e g (nI c) m = e (apC a l m)
  | [], c, m, g, e, h6, h60, hk, hS, hg => by
    obtain ⟨g, rfl⟩ : ∃ g', g = g' + 1 := ⟨g - 1, by omega⟩
    rw [List.length_nil, Nat.add_zero] at h6 h60
    rw [f_X2_enter_L2, h6, if_pos (nI_le (Nat.le_refl _) (by omega))]
    rfl
  | x :: l, c, m, g, e, h6, h60, hk, hS, hg => by
    obtain ⟨g, rfl⟩ : ∃ g', g = g' + 1 := ⟨g - 1, by omega⟩
    rw [List.length_cons] at h6 h60 hg
    obtain ⟨k, k1, k2⟩ := hk x (List.mem_cons_self ..)
    obtain ⟨w1, w2, w3, w4⟩ := hS 0 x rfl
    rw [Nat.add_zero] at w1 w3 w4
    rw [k2] at w1
    have c1 : nI c + 1 = nI (c + 1) := nI_add c 1
    have go : ∀ z : sM, ag (fun b _ => 85 ≤ b ∧ b ≤ 90) m z → f_X2_enter_L2 a e g (nI (c + 1)) z = e (apC a l z) := fun z hz => by
      refine p_enter ha l (c + 1) z g e ?_ (by omega) (fun y hy => hk y (List.mem_cons_of_mem _ hy)) (fun i y hy => ?_) (by omega)
      · rw [(hz 85 6 (by omega)).1, h6]; congr 1; omega
      · have := hS (i + 1) y hy
        rw [show c + (i + 1) = c + 1 + i by omega] at this
        obtain ⟨v1, v2, v3, v4⟩ := this
        exact ⟨((hz 87 _ (by omega)).1).trans v1, ((hz 88 _ (by omega)).1).trans v2, ((hz 89 _ (by omega)).1).trans v3, ((hz 90 _ (by omega)).1).trans v4⟩
    rw [f_X2_enter_L2, h6, if_neg (nI_ge (by omega) (by omega)), ix_ _ (by omega) (by decide), jn_, w4, apC, k2, nI_clamp (by omega)]
    cases x.1
    · rw [if_pos bi_f, ix_ _ (by omega) (by decide), ix_ _ (by omega) (by decide), w1, w3, p_ren k1, bd_, c1]
      exact go (x_ren a k x.2.2.2 m) (ren_ag (ag_rf m) (by omega) (by omega) (by omega))
    · rw [if_neg (by decide), ix_ _ (by omega) (by decide), w1, p_drp, bd_, c1]
      exact go (x_drp a k m) (drp_ag (ag_rf m) (by omega) (by omega))
set_option maxRecDepth 100000 in
set_option maxHeartbeats 1000000 in
theorem R_in2 {mc mc' mm mm' : sM} (h : R mc mm) (hc : ag (fun a j => dcAll a j ∧ ¬ dcIn a j ∧ ¬ (a = 85 ∧ j = 6)) mc mc') (hm : ag (fun a j => dmAll a j ∧ ¬ dmIn a j) mm mm') (hi : rIn mc' mm') : R mc' mm' := by
  obtain ⟨h1, h2, h3, h4, h5, h6, h7, h8, h9, h10, h11⟩ := h
  refine ⟨rDisk_ag (ag_mo hc ?_) (ag_mo hm ?_) h1, rOpen_ag (ag_mo hc ?_) (ag_mo hm ?_) h2, rPres_ag (ag_mo hc ?_) (ag_mo hm ?_) h3, rPins_ag (ag_mo hc ?_) (ag_mo hm ?_) h4, fun s hs => rSlot_ag (ag_mo hc ?_) (ag_mo hm ?_) (h5 s hs), rOrd_ag (fun a j q => (hc a j (by omega)).1) (ag_mo hm ?_) h6, hi, rOut_ag (ag_mo hc ?_) (ag_mo hm ?_) h8, rLog_ag (ag_mo hc ?_) (ag_mo hm ?_) h9, rStat_ag (ag_mo hc ?_) (ag_mo hm ?_) h10, rSalv_ag (ag_mo hc ?_) (ag_mo hm ?_) h11⟩ <;> (intro a j q; omega)
-- remark: the class's reading
set_option maxRecDepth 100000 in
set_option maxHeartbeats 1000000 in
theorem p_parse {s : Nat → Int32} {n : Nat} {m : sM} (hn : n ≤ 60) (h1 : m.1 85 1 = nI n) (h2 : ∀ i, i < n → m.1 86 i = s i) : ∃ m', ag agP2 m m' ∧
    (∀ e, (prs s n 61 0).2 = some e → f_X2_parse m = some (.inl (nI e), m')) ∧
    ((prs s n 61 0).2 = none → f_X2_parse m = some (.inl (lkl (-1) (prs s n 61 0).1), m') ∧ m'.1 85 6 = nI (prs s n 61 0).1.length ∧ (prs s n 61 0).1.length ≤ 60 ∧ ∀ i x, (prs s n 61 0).1[i]? = some x → Sto m' i x) := by
  have hPG : PG s n 0 (s_up m 85 6 0) := ⟨by rw [up1, if_neg (by omega)]; exact h1, fun i hi => by rw [up1, if_neg (by omega)]; exact h2 i hi, upS _ _ _ _⟩
  obtain ⟨m', t1, t2, t3⟩ := p_prs hn 61 0 0 (s_up m 85 6 0) 1 5000 (by omega) (by omega) hPG (Nat.le_refl _) (by omega)
  have hu : f_X2_parse m = f_X2_parse_L11 E70 E35 5000 (nI 0) 1 (nI 0) (s_up m 85 6 0) := by
    unfold f_X2_parse
    rw [md_, jn_, jn_]
    rfl
  rw [hu]
  refine ⟨m', ag_tr (ag_up (ag_rf m) (by omega)) t1, t2, fun hq => ?_⟩
  obtain ⟨j1, j2, j3, -, j5⟩ := t3 hq
  have hl : (prs s n 61 0).1.length ≤ 60 := by omega
  have hS : ∀ i x, (prs s n 61 0).1[i]? = some x → Sto m' i x := fun i x hx => by
    have := j5 i x hx
    rw [Nat.zero_add] at this
    exact this
  have h6 : m'.1 85 6 = nI (prs s n 61 0).1.length := by
    have := j2.2.2
    rw [Nat.zero_add] at this
    exact this
  refine ⟨?_, h6, hl, hS⟩
  rw [j1]
  unfold f_X2_placeOfGreatKey
  rw [jn_, jn_]
  refine p_great (prs s n 61 0).1 0 5000 (by rw [Nat.zero_add]; exact h6) (by omega) (fun i x hx => ⟨by rw [Nat.zero_add]; exact hS i x hx, ?_⟩) (by omega)
  have := (prs_key 61 0 (Nat.zero_le n) x (List.mem_of_getElem? hx)).1
  omega
