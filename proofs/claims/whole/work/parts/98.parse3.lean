/-! PURE: the text that is read; one entry, all entries. -/
set_option maxRecDepth 100000 in
set_option maxHeartbeats 1000000 in
theorem dgc_c : dgc 45 = false ∧ dgc 61 = false ∧ dgc 44 = false := by decide
set_option maxRecDepth 100000 in
set_option maxHeartbeats 1000000 in
theorem flw_end {st : Nat} {ch : Int32} (hm : mEnd st = true) (h : st = 8 ∨ st = 11 ∨ dgc ch = false) : flw st ch = if ch = 44 then 0 else -1 := by
  have hst : (5 ≤ st ∧ st ≤ 8) ∨ st = 10 ∨ st = 11 := by
    unfold mEnd at hm
    rw [Bool.or_eq_true_iff, Bool.or_eq_true_iff] at hm
    rcases hm with w | w | w
    · exact Or.inl (of_decide_eq_true w)
    · exact Or.inr (Or.inl (of_decide_eq_true w))
    · exact Or.inr (Or.inr (of_decide_eq_true w))
  unfold flw
  cases hd : dgc ch
  · rw [if_neg (by decide)]
    by_cases q : ch = 44
    · rw [if_pos ⟨q, hst⟩, if_pos q]
    · rw [if_neg (fun w => q w.1), if_neg q, if_neg (by omega), if_neg (by omega), if_neg (by omega)]
  · have q : ¬ ch = 44 := fun w => by rw [w, dgc_c.2.2] at hd; exact absurd hd (by decide)
    rw [hd] at h
    have h2 : st = 8 ∨ st = 11 := by
      rcases h with w | w | w
      · exact Or.inl w
      · exact Or.inr w
      · exact absurd w (by decide)
    rw [if_pos rfl, if_neg (by omega), if_pos (by omega), if_neg q]
set_option maxRecDepth 100000 in
set_option maxHeartbeats 1000000 in
theorem bd_dg {s : Nat → Int32} {n a k : Nat} : (bd s n a (k + 1) = a ↔ dg s n a = false) := by
  rw [bd]
  cases q : dg s n a
  · simp
  · have := bd_ge s n k (a + 1)
    simp only [if_true]
    exact ⟨fun w => by omega, fun w => absurd w (by decide)⟩
set_option maxRecDepth 100000 in
set_option maxHeartbeats 1000000 in
theorem sg_e {s : Nat → Int32} {n i : Nat} {c : Int32} (h : sg s n i c = true) : s i = c := by
  unfold sg at h
  rw [Bool.and_eq_true_iff] at h
  exact of_decide_eq_true h.2
set_option maxRecDepth 100000 in
set_option maxHeartbeats 1000000 in
theorem sg_ne {s : Nat → Int32} {n i : Nat} {c : Int32} (h : sg s n i c = false) (hi : i < n) : ¬ s i = c := by
  unfold sg at h
  rw [decide_eq_true hi, Bool.true_and] at h
  exact of_decide_eq_false h
abbrev agP2 (a j : Nat) : Prop := ¬ (a = 85 ∧ j = 6) ∧ ¬ (87 ≤ a ∧ a ≤ 90)
-- remark: a state in which no sign but a digit may stand: at the end or at another sign the class tells this place
set_option maxRecDepth 100000 in
set_option maxHeartbeats 1000000 in
theorem p_err {s : Nat → Int32} {n c st i : Nat} {m : sM} (h : PG s n c m) (hn : n ≤ 60) (hi : i ≤ n) (hst : st < 12) (hm : mEnd st = false) (hf : i < n → flw st (s i) = -1) (fac : Int32) (g : Nat) : f_X2_parse_L11 E70 E35 (g + 1) (nI st) fac (nI i) m = some (.inl (nI i), m) := by
  by_cases q : i = n
  · subst q; exact p_stop h hn hst hm fac g
  · rw [p_step h hn (by omega) hst, if_pos (hf (by omega))]
set_option maxRecDepth 100000 in
set_option maxHeartbeats 1000000 in
theorem p_ent {s : Nat → Int32} {n c a : Nat} {m : sM} (fac : Int32) (h : PG s n c m) (hn : n ≤ 60) (ha : a ≤ n) (hc : c ≤ a) :
    (∀ e, ent s n a = .inl e → ∀ g, n - a < g → ∃ m', ag agP2 m m' ∧ f_X2_parse_L11 E70 E35 g (nI 0) fac (nI a) m = some (.inl (nI e), m')) ∧
    (∀ b x, ent s n a = .inr (b, x) → a < b ∧ b ≤ n ∧ ∃ st fac' m', st < 12 ∧ mEnd st = true ∧ (b < n → flw st (s b) = if s b = 44 then 0 else -1) ∧ PG s n (c + 1) m' ∧ ag (agE c) m m' ∧ Sto m' c x ∧ ∀ g, f_X2_parse_L11 E70 E35 (g + (b - a)) (nI 0) fac (nI a) m = f_X2_parse_L11 E70 E35 g (nI st) fac' (nI b) m') := by
  have toP2 : ∀ {m1 m2 : sM}, ag (agE c) m1 m2 → ag agP2 m1 m2 := fun q => ag_mo q (by intro a j w; omega)
  unfold ent
  cases r : sg s n a 45
  · simp only [Bool.false_eq_true, if_false, Nat.add_zero]
    have hb := bd_ge s n 2 a
    by_cases k0 : bd s n a 2 = a
    · rw [if_pos k0]
      refine ⟨fun e he g hg => ?_, fun b x he => absurd he (by intro w; cases w)⟩
      cases he
      have hd := bd_dg.mp k0
      obtain ⟨g, rfl⟩ : ∃ g', g = g' + 1 := ⟨g - 1, by omega⟩
      rw [k0]
      refine ⟨m, ag_rf m, p_err h hn ha (by decide) rfl (fun hi => ?_) fac g⟩
      have e1 := dg_f hd hi
      have e2 := sg_ne r hi
      unfold flw
      rw [if_neg (by rw [e1]; decide), if_neg (by omega), if_neg (by omega), if_neg (fun w => e2 w.1), if_neg (by omega)]
    · rw [if_neg k0]
      have hd : dg s n a = true := by
        cases w : dg s n a
        · exact absurd (bd_dg.mpr w) k0
        · rfl
      have han := (dg_t hd).1
      obtain ⟨m1, g1, t1, s1, k12, kf, f1⟩ := p_key2 false h hn (by omega) hd fac
      have f1 : ∀ g, f_X2_parse_L11 E70 E35 (g + (bd s n a 2 - a)) (nI 0) fac (nI a) m = f_X2_parse_L11 E70 E35 g (nI (bd s n a 2 - a)) fac (nI (bd s n a 2)) m1 := fun g => by
        have := f1 g
        simp only [Bool.false_eq_true, if_false, Nat.zero_add] at this
        exact this
      have hbn := hb.2.2 ha
      have hj : bd s n a 2 - a = 1 ∨ bd s n a 2 - a = 2 := by omega
      cases q61 : sg s n (bd s n a 2) 61
      · rw [if_neg (by decide)]
        refine ⟨fun e he g hg => ?_, fun b x he => absurd he (by intro w; cases w)⟩
        cases he
        obtain ⟨g', rfl⟩ : ∃ g', g = (g' + 1) + (bd s n a 2 - a) := ⟨g - 1 - (bd s n a 2 - a), by omega⟩
        refine ⟨m1, toP2 t1, ?_⟩
        rw [f1]
        refine p_err g1 hn hbn (by omega) (by rcases hj with w | w <;> rw [w] <;> rfl) (fun hi => ?_) fac g'
        have e2 := sg_ne q61 hi
        unfold flw
        cases w : dgc (s (bd s n a 2))
        · rw [if_neg (by decide), if_neg (by omega), if_neg (fun w => e2 w.1), if_neg (by omega), if_neg (by omega)]
        · rcases hj with w2 | w2
          · have e3 := kf (by omega)
            have : bd s n a 2 = a + 1 := by omega
            rw [this] at w hi
            rw [dg_f e3 hi] at w
            exact absurd w (by decide)
          · rw [if_pos rfl, if_neg (by omega), if_pos (by omega)]
      · rw [if_pos rfl]
        have hkn := sg_lt q61
        have hke := sg_e q61
        -- behind '='
        have f2 : ∀ g, f_X2_parse_L11 E70 E35 (g + 1 + (bd s n a 2 - a)) (nI 0) fac (nI a) m = f_X2_parse_L11 E70 E35 g (nI 3) 1 (nI (bd s n a 2 + 1)) m1 := fun g => by
          have e : flw (bd s n a 2 - a) (s (bd s n a 2)) = 3 := by
            unfold flw
            rw [hke, if_neg (by rw [dgc_c.2.1]; decide), if_neg (by omega), if_pos ⟨rfl, by omega⟩]
          rw [f1, p_step g1 hn hkn (by omega), e, if_neg (by decide), if_pos rfl]
          rfl
        have tail : ∀ (st d0 : Nat) (f : Int32) (w : Int32), (st = 3 ∨ st = 4) → bd s n a 2 < d0 → d0 ≤ n → (∀ g, f_X2_parse_L11 E70 E35 (g + (d0 - a)) (nI 0) fac (nI a) m = f_X2_parse_L11 E70 E35 g (nI st) f (nI d0) m1) → (d0 < n → dgc (s d0) = false → flw st (s d0) = -1) → (w = f * num s d0 (bd s n d0 4 - d0)) →
            (bd s n d0 4 = d0 → ∀ g, n - a < g → ∃ m', ag agP2 m m' ∧ f_X2_parse_L11 E70 E35 g (nI 0) fac (nI a) m = some (.inl (nI (bd s n d0 4)), m')) ∧
            (¬ bd s n d0 4 = d0 → a < bd s n d0 4 ∧ bd s n d0 4 ≤ n ∧ ∃ st fac' m', st < 12 ∧ mEnd st = true ∧ (bd s n d0 4 < n → flw st (s (bd s n d0 4)) = if s (bd s n d0 4) = 44 then 0 else -1) ∧ PG s n (c + 1) m' ∧ ag (agE c) m m' ∧ Sto m' c (false, a, num s a (bd s n a 2 - a), w) ∧ ∀ g, f_X2_parse_L11 E70 E35 (g + (bd s n d0 4 - a)) (nI 0) fac (nI a) m = f_X2_parse_L11 E70 E35 g (nI st) fac' (nI (bd s n d0 4)) m') := by
          intro st d0 f w hst hlt hd0 hrun hfl hw
          have hdb := bd_ge s n 4 d0
          refine ⟨fun qd g hg => ?_, fun qd => ?_⟩
          · have hd := bd_dg.mp qd
            obtain ⟨g', rfl⟩ : ∃ g', g = (g' + 1) + (d0 - a) := ⟨g - 1 - (d0 - a), by omega⟩
            rw [qd]
            refine ⟨m1, toP2 t1, ?_⟩
            rw [hrun]
            exact p_err g1 hn hd0 (by omega) (by rcases hst with w | w <;> rw [w] <;> rfl) (fun hi => hfl hi (dg_f hd hi)) f g'
          · have hd : dg s n d0 = true := by
              cases w : dg s n d0
              · exact absurd (bd_dg.mpr w) qd
              · rfl
            obtain ⟨w1, w2, w3, w4⟩ := s1
            obtain ⟨m2, v1, v2, v3, v4, v5, v6⟩ := p_val0 hn (by omega : c < 60) f hst g1 w3 hd
            have hdn := hdb.2.2 hd0
            have hm2 : mEnd (4 + (bd s n d0 4 - d0)) = true := by
              unfold mEnd
              rw [decide_eq_true (by omega)]
              rfl
            refine ⟨by omega, hdn, 4 + (bd s n d0 4 - d0), f, m2, by omega, hm2, fun hi => flw_end hm2 ?_, v1, ag_tr t1 (ag_mo v2 (by intro a j q; omega)), ⟨?_, ?_, ?_, ?_⟩, fun g => ?_⟩
            · by_cases q4 : bd s n d0 4 = d0 + 4
              · exact Or.inl (by omega)
              · exact Or.inr (Or.inr (dg_f (v4 (by omega)) hi))
            · rw [(v2 87 c (by omega)).1]; exact w1
            · rw [(v2 88 c (by omega)).1]; exact w2
            · rw [v3, hw]
            · rw [(v2 90 c (by omega)).1]; exact w4
            · have := hrun (g + (bd s n d0 4 - d0))
              rw [show g + (bd s n d0 4 - d0) + (d0 - a) = g + (bd s n d0 4 - a) by omega] at this
              rw [this, v6]
        cases q45 : sg s n (bd s n a 2 + 1) 45
        · simp only [Bool.false_eq_true, if_false, Nat.add_zero]
          obtain ⟨u1, u2⟩ := tail 3 (bd s n a 2 + 1) 1 (num s (bd s n a 2 + 1) (bd s n (bd s n a 2 + 1) 4 - (bd s n a 2 + 1))) (Or.inl rfl) (by omega) (by omega) (fun g => by
            have := f2 g
            rw [show g + 1 + (bd s n a 2 - a) = g + (bd s n a 2 + 1 - a) by omega] at this
            exact this) (fun hi hd => by
              have e2 := sg_ne q45 hi
              unfold flw
              rw [hd, if_neg (by decide), if_neg (by omega), if_neg (by omega), if_neg (by omega), if_neg (fun w => e2 w.1)]) (by rw [Int32.one_mul])
          by_cases qd : bd s n (bd s n a 2 + 1) 4 = bd s n a 2 + 1
          · rw [if_pos qd]
            refine ⟨fun e he => ?_, fun b x he => absurd he (by intro w; cases w)⟩
            cases he
            exact u1 qd
          · rw [if_neg qd]
            refine ⟨fun e he => absurd he (by intro w; cases w), fun b x he => ?_⟩
            cases he
            exact u2 qd
        · simp only [if_true]
          have hln := sg_lt q45
          have hle := sg_e q45
          obtain ⟨u1, u2⟩ := tail 4 (bd s n a 2 + 1 + 1) (-1) (-(num s (bd s n a 2 + 1 + 1) (bd s n (bd s n a 2 + 1 + 1) 4 - (bd s n a 2 + 1 + 1)))) (Or.inr rfl) (by omega) (by omega) (fun g => by
            have := f2 (g + 1)
            have e : flw 3 (s (bd s n a 2 + 1)) = 4 := by
              unfold flw
              rw [hle, if_neg (by rw [dgc_c.1]; decide), if_neg (by omega), if_neg (by omega), if_neg (by omega), if_pos ⟨rfl, rfl⟩]
            rw [show g + 1 + 1 + (bd s n a 2 - a) = g + (bd s n a 2 + 1 + 1 - a) by omega, p_step g1 hn hln (by decide), e, if_neg (by decide), if_neg (by decide), if_pos rfl] at this
            exact this) (fun hi hd => by
              unfold flw
              rw [hd, if_neg (by decide), if_neg (by omega), if_neg (by omega), if_neg (by omega), if_neg (by omega)]) (by rw [Int32.neg_mul, Int32.one_mul])
          by_cases qd : bd s n (bd s n a 2 + 1 + 1) 4 = bd s n a 2 + 1 + 1
          · rw [if_pos qd]
            refine ⟨fun e he => ?_, fun b x he => absurd he (by intro w; cases w)⟩
            cases he
            exact u1 qd
          · rw [if_neg qd]
            refine ⟨fun e he => absurd he (by intro w; cases w), fun b x he => ?_⟩
            cases he
            exact u2 qd
  · simp only [if_true]
    have han := sg_lt r
    have hae := sg_e r
    have hb := bd_ge s n 2 (a + 1)
    have f0 : ∀ g, f_X2_parse_L11 E70 E35 (g + 1) (nI 0) fac (nI a) m = f_X2_parse_L11 E70 E35 g (nI 9) fac (nI (a + 1)) m := fun g => by
      have e : flw 0 (s a) = 9 := by
        unfold flw
        rw [hae, if_neg (by rw [dgc_c.1]; decide), if_neg (by omega), if_neg (by omega), if_pos ⟨rfl, rfl⟩]
      rw [p_step h hn han (by decide), e, if_neg (by decide), if_neg (by decide), if_neg (by decide), (td0 (by omega) fac m).2, bd_]
      rfl
    by_cases k0 : bd s n (a + 1) 2 = a + 1
    · rw [if_pos k0]
      refine ⟨fun e he g hg => ?_, fun b x he => absurd he (by intro w; cases w)⟩
      cases he
      have hd := bd_dg.mp k0
      obtain ⟨g, rfl⟩ : ∃ g', g = g' + 1 + 1 := ⟨g - 2, by omega⟩
      rw [k0]
      refine ⟨m, ag_rf m, ?_⟩
      rw [f0]
      refine p_err h hn (by omega) (by decide) rfl (fun hi => ?_) fac g
      unfold flw
      rw [if_neg (by rw [dg_f hd hi]; decide), if_neg (by omega), if_neg (by omega), if_neg (by omega), if_neg (by omega)]
    · rw [if_neg k0]
      refine ⟨fun e he => absurd he (by intro w; cases w), fun b x he => ?_⟩
      cases he
      have hd : dg s n (a + 1) = true := by
        cases w : dg s n (a + 1)
        · exact absurd (bd_dg.mpr w) k0
        · rfl
      obtain ⟨m1, g1, t1, s1, k12, kf, f1⟩ := p_key2 true h hn (by omega) hd fac
      have hbn := hb.2.2 (by omega)
      have hj : bd s n (a + 1) 2 - (a + 1) = 1 ∨ bd s n (a + 1) 2 - (a + 1) = 2 := by omega
      have hm2 : mEnd (9 + (bd s n (a + 1) 2 - (a + 1))) = true := by rcases hj with w | w <;> rw [w] <;> rfl
      refine ⟨by omega, hbn, 9 + (bd s n (a + 1) 2 - (a + 1)), fac, m1, by omega, hm2, fun hi => flw_end hm2 ?_, g1, t1, s1, fun g => ?_⟩
      · rcases hj with w | w
        · refine Or.inr (Or.inr ?_)
          have e3 := kf (by omega)
          rw [show bd s n (a + 1) 2 = a + 1 + 1 by omega] at hi ⊢
          exact dg_f e3 hi
        · exact Or.inr (Or.inl (by omega))
      · have := f1 g
        simp only [if_true] at this
        rw [show g + (bd s n (a + 1) 2 - a) = g + (bd s n (a + 1) 2 - (a + 1)) + 1 by omega, f0, this]
-- remark: all entries, and where they go wrong
def prs (s : Nat → Int32) (n : Nat) : Nat → Nat → List (Bool × Nat × Int32 × Int32) × Option Nat
  | 0, _ => ([], none)
  | d + 1, a => match ent s n a with
    | .inl e => ([], some e)
    | .inr (b, x) => if b = n then ([x], none) else if s b = 44 then (x :: (prs s n d (b + 1)).1, (prs s n d (b + 1)).2) else ([x], some b)
set_option maxRecDepth 100000 in
set_option maxHeartbeats 1000000 in
theorem p_prs {s : Nat → Int32} {n : Nat} (hn : n ≤ 60) : ∀ d a c (m : sM) (fac : Int32) g, n - a < d → a ≤ n → PG s n c m → c ≤ a → n - a < g → ∃ m', ag agP2 m m' ∧
    (∀ e, (prs s n d a).2 = some e → f_X2_parse_L11 E70 E35 g (nI 0) fac (nI a) m = some (.inl (nI e), m')) ∧
    ((prs s n d a).2 = none → f_X2_parse_L11 E70 E35 g (nI 0) fac (nI a) m = f_X2_placeOfGreatKey m' ∧ PG s n (c + (prs s n d a).1.length) m' ∧ c + (prs s n d a).1.length ≤ n ∧ (∀ i, i < c → ∀ b, 87 ≤ b → b ≤ 90 → m'.1 b i = m.1 b i) ∧ ∀ i x, (prs s n d a).1[i]? = some x → Sto m' (c + i) x)
  | 0, a, c, m, fac, g, h0, _, _, _, _ => absurd h0 (Nat.not_lt_zero _)
  | d + 1, a, c, m, fac, g, h0, ha, h, hc, hg => by
    obtain ⟨E1, E2⟩ := p_ent fac h hn ha hc
    rw [prs]
    cases he : ent s n a with
    | inl e =>
      obtain ⟨m', t1, t2⟩ := E1 e he g hg
      exact ⟨m', t1, fun e' hq => by cases hq; exact t2, fun hq => by cases hq⟩
    | inr y =>
      obtain ⟨b, x⟩ := y
      obtain ⟨hab, hbn, st, fac', m1, hst, hmE, hfl, g1, t1, s1, run⟩ := E2 b x he
      have toP2 : ag agP2 m m1 := ag_mo t1 (by intro a j w; omega)
      have old : ∀ i, i < c → ∀ k, 87 ≤ k → k ≤ 90 → m1.1 k i = m.1 k i := fun i hi k k1 k2 => (t1 k i (by omega)).1
      obtain ⟨g', rfl⟩ : ∃ g', g = (g' + 1) + (b - a) := ⟨g - 1 - (b - a), by omega⟩
      dsimp only
      by_cases q : b = n
      · rw [if_pos q]
        refine ⟨m1, toP2, fun e' hq => (by cases hq), fun _ => ⟨?_, g1, by show c + 1 ≤ n; omega, old, fun i x' hx => ?_⟩⟩
        · rw [run, q]
          exact p_good g1 hn hst hmE fac' g'
        · cases i with
          | zero => cases hx; exact s1
          | succ i => cases hx
      · rw [if_neg q]
        by_cases q44 : s b = 44
        · rw [if_pos q44]
          have e : flw st (s b) = 0 := by rw [hfl (by omega), if_pos q44]
          have step : f_X2_parse_L11 E70 E35 (g' + 1 + (b - a)) (nI 0) fac (nI a) m = f_X2_parse_L11 E70 E35 g' (nI 0) fac' (nI (b + 1)) m1 := by
            rw [run, p_step g1 hn (by omega) hst, e, if_neg (by decide), if_neg (by decide), if_neg (by decide), (td0 (by omega) fac' m1).1, bd_]
            rfl
          obtain ⟨m', i1, i2, i3⟩ := p_prs hn d (b + 1) (c + 1) m1 fac' g' (by omega) (by omega) g1 (by omega) (by omega)
          refine ⟨m', ag_tr toP2 i1, fun e' hq => ?_, fun hq => ?_⟩
          · rw [step]; exact i2 e' hq
          · obtain ⟨j1, j2, j3, j4, j5⟩ := i3 hq
            have hl : c + (x :: (prs s n d (b + 1)).1).length = c + 1 + (prs s n d (b + 1)).1.length := by rw [List.length_cons]; omega
            refine ⟨?_, ?_, ?_, fun i hi k k1 k2 => (j4 i (by omega) k k1 k2).trans (old i hi k k1 k2), fun i x' hx => ?_⟩
            · rw [step]; exact j1
            · rw [hl]; exact j2
            · rw [hl]; exact j3
            · cases i with
              | zero =>
                cases hx
                obtain ⟨w1, w2, w3, w4⟩ := s1
                exact ⟨(j4 c (by omega) 87 (by decide) (by decide)).trans w1, (j4 c (by omega) 88 (by decide) (by decide)).trans w2, (j4 c (by omega) 89 (by decide) (by decide)).trans w3, (j4 c (by omega) 90 (by decide) (by decide)).trans w4⟩
              | succ i =>
                have := j5 i x' hx
                rw [show c + (i + 1) = c + 1 + i by omega]
                exact this
        · rw [if_neg q44]
          have e : flw st (s b) = -1 := by rw [hfl (by omega), if_neg q44]
          refine ⟨m1, toP2, fun e' hq => ?_, fun hq => by cases hq⟩
          cases hq
          rw [run, p_step g1 hn (by omega) hst, if_pos e]
