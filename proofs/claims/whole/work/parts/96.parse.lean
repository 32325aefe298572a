/-! PURE: the text that is read; its meaning. -/
def dgc (ch : Int32) : Bool := !decide (ch < 48) && !decide (57 < ch)
def dg (s : Nat → Int32) (n i : Nat) : Bool := decide (i < n) && dgc (s i)
def sg (s : Nat → Int32) (n i : Nat) (c : Int32) : Bool := decide (i < n) && decide (s i = c)
def bd (s : Nat → Int32) (n : Nat) : Nat → Nat → Nat
  | a, 0 => a
  | a, k + 1 => if dg s n a then bd s n (a + 1) k else a
def num (s : Nat → Int32) (a : Nat) : Nat → Int32
  | 0 => 0
  | k + 1 => 10 * num s a k + s (a + k) - 48
set_option maxRecDepth 100000 in
set_option maxHeartbeats 1000000 in
theorem bd_ge (s : Nat → Int32) (n : Nat) : ∀ k a, a ≤ bd s n a k ∧ bd s n a k ≤ a + k ∧ (a ≤ n → bd s n a k ≤ n)
  | 0, a => ⟨Nat.le_refl _, Nat.le_refl _, fun h => h⟩
  | k + 1, a => by
    rw [bd]
    cases q : dg s n a
    · exact ⟨Nat.le_refl _, by simp, fun h => h⟩
    · have h := bd_ge s n k (a + 1)
      have ha : a < n := by
        unfold dg at q
        rw [Bool.and_eq_true_iff] at q
        exact of_decide_eq_true q.1
      simp only [if_true]
      exact ⟨by omega, by omega, fun _ => h.2.2 (by omega)⟩
-- remark: what the input is
def Inp (s : Nat → Int32) (n : Nat) (m : sM) : Prop := m.1 110 21 = nI n ∧ ∀ i, i < n → m.1 127 i = s i
set_option maxRecDepth 100000 in
set_option maxHeartbeats 1000000 in
theorem Inp_ag {s : Nat → Int32} {n : Nat} {m m' : sM} (h : Inp s n m) (ha : ag (fun a j => (a = 110 ∧ j = 21) ∨ a = 127) m m') : Inp s n m' :=
  ⟨((ha 110 21 (by omega)).1).trans h.1, fun i hi => ((ha 127 i (by omega)).1).trans (h.2 i hi)⟩
set_option maxRecDepth 100000 in
set_option maxHeartbeats 1000000 in
theorem q_dig {s : Nat → Int32} {n i : Nat} {m : sM} (h : Inp s n m) (hn : n ≤ 60) (hi : i < 2 ^ 31) : f_X10_isDigit (nI i) m = some (.inl (bi (dg s n i)), m) := by
  unfold f_X10_isDigit dg dgc
  rw [jn_, jn_, h.1]
  by_cases q : i < n
  · rw [if_neg (nI_ge q (by omega)), ix_ _ (by omega) (by decide), h.2 i q, decide_eq_true q, Bool.true_and]
    by_cases q1 : s i < 48
    · rw [q_inF (Or.inl q1), bd_, if_pos rfl, decide_eq_true q1]; exact gd0 _
    · by_cases q2 : 57 < s i
      · rw [q_inF (Or.inr q2), bd_, if_pos rfl, decide_eq_true q2, decide_eq_false q1]; exact gd0 _
      · rw [q_inT q1 q2, bd_, if_neg n10, decide_eq_false q1, decide_eq_false q2]; exact gd1 _
  · rw [if_pos (nI_le (by omega) hi), decide_eq_false q, Bool.false_and]; exact gd0 _
set_option maxRecDepth 100000 in
set_option maxHeartbeats 1000000 in
theorem q_sgn {s : Nat → Int32} {n i : Nat} {m : sM} (h : Inp s n m) (hn : n ≤ 60) (hi : i < 2 ^ 31) (c : Int32) : f_X10_isSign (nI i) c m = some (.inl (bi (sg s n i c)), m) := by
  unfold f_X10_isSign sg
  rw [jn_, jn_, h.1]
  by_cases q : i < n
  · rw [if_neg (nI_ge q (by omega)), ix_ _ (by omega) (by decide), h.2 i q, decide_eq_true q, Bool.true_and]
    by_cases q1 : s i = c
    · rw [if_pos q1, decide_eq_true q1]; exact gd1 _
    · rw [if_neg q1, decide_eq_false q1]; exact gd0 _
  · rw [if_pos (nI_le (by omega) hi), decide_eq_false q, Bool.false_and]; exact gd0 _
set_option maxRecDepth 100000 in
set_option maxHeartbeats 1000000 in
theorem q_bdL {s : Nat → Int32} {n : Nat} {m : sM} (h : Inp s n m) (hn : n ≤ 60) {a0 k0 : Nat} (h0 : a0 + k0 < 2 ^ 31) (e : Int32 → sM → Option (sR Int32)) : ∀ k a g, a + k = a0 + k0 → k < g → f_X10_behindDigits_L2 (nI a0) (nI k0) e g (nI a) m = e (nI (bd s n a k)) m
  | 0, a, g, h1, h2 => by
    obtain ⟨g, rfl⟩ : ∃ g', g = g' + 1 := ⟨g - 1, by omega⟩
    have hle : nI (a0 + k0) ≤ nI a := by rw [← h1]; exact nI_le (Nat.le_refl _) (by omega)
    rw [f_X10_behindDigits_L2, nI_add, if_pos hle, bd]
  | k + 1, a, g, h1, h2 => by
    obtain ⟨g, rfl⟩ : ∃ g', g = g' + 1 := ⟨g - 1, by omega⟩
    have hle : ¬ nI (a0 + k0) ≤ nI a := nI_ge (by omega) h0
    have h1' : nI a + 1 = nI (a + 1) := nI_add a 1
    rw [f_X10_behindDigits_L2, nI_add, if_neg hle, q_dig h hn (by omega), bd_, bd]
    cases q : dg s n a
    · rw [if_pos bi_f]; rfl
    · rw [if_neg (by decide), h1', q_bdL h hn h0 e k (a + 1) g (by omega) (by omega)]; rfl
set_option maxRecDepth 100000 in
set_option maxHeartbeats 1000000 in
theorem q_bd2 {s : Nat → Int32} {n a : Nat} {m : sM} (h : Inp s n m) (hn : n ≤ 60) (ha : a < 2 ^ 30) : f_X10_behindDigits (nI a) 2 m = some (.inl (nI (bd s n a 2)), m) := by
  unfold f_X10_behindDigits
  rw [jn_]
  exact q_bdL h hn (a0 := a) (k0 := 2) (by omega) _ 2 a 5000 rfl (by decide)
set_option maxRecDepth 100000 in
set_option maxHeartbeats 1000000 in
theorem q_bd4 {s : Nat → Int32} {n a : Nat} {m : sM} (h : Inp s n m) (hn : n ≤ 60) (ha : a < 2 ^ 30) : f_X10_behindDigits (nI a) 4 m = some (.inl (nI (bd s n a 4)), m) := by
  unfold f_X10_behindDigits
  rw [jn_]
  exact q_bdL h hn (a0 := a) (k0 := 4) (by omega) _ 4 a 5000 rfl (by decide)
set_option maxRecDepth 100000 in
set_option maxHeartbeats 1000000 in
theorem q_num {s : Nat → Int32} {n a b : Nat} {m : sM} (h : Inp s n m) (hn : n ≤ 60) (hab : a ≤ b) (hb : b ≤ n) : f_X10_numberAt (nI a) (nI b) m = some (.inl (num s a (b - a)), m) := by
  unfold f_X10_numberAt
  rw [jn_]
  refine lpE (fun g i (x : Int32) => f_X10_numberAt_L5 (nI b) m _ g x (nI i)) (fun i x => a ≤ i ∧ x = num s a (i - a)) _ b ?_ ?_ (b - a) a _ 5000 (by omega) (by omega) ⟨Nat.le_refl _, by rw [Nat.sub_self]; rfl⟩
  · rintro i x g hi ⟨h1, hx⟩ ih
    have e : num s a (i + 1 - a) = 10 * num s a (i - a) + s i - 48 := by
      rw [show i + 1 - a = (i - a) + 1 by omega, num, show a + (i - a) = i by omega]
    have := ih _ ⟨by omega, e.symm⟩
    subst hx
    have hs := h.2 i (by omega)
    simp (disch := omega) only [md_, jn_, bd_, bdE_, ixl, ix_, llN, lNl, tlN, tNl, eNl, lNN, tNN, eNN, aNl, alN, mlN, nI_add, pk_mul, neg_lt0, if_true, if_false, if_pos, if_neg, up2, uL1, cp2, gdT, gdb_, or_true, true_or, false_or, or_false, and_true, true_and, and_false, false_and, ifb0, ifb1, eq_self, t0, t1, t2, t3, t4, o10, o01, z139a, Bool.false_eq_true, f_X10_numberAt_L5, hs]
    exact this
  · rintro x g ⟨h1, hx⟩
    subst hx
    simp (disch := omega) only [md_, jn_, bd_, bdE_, ixl, ix_, llN, lNl, tlN, tNl, eNl, lNN, tNN, eNN, aNl, alN, mlN, nI_add, pk_mul, neg_lt0, if_true, if_false, if_pos, if_neg, up2, uL1, cp2, gdT, gdb_, or_true, true_or, false_or, or_false, and_true, true_and, and_false, false_and, ifb0, ifb1, eq_self, t0, t1, t2, t3, t4, o10, o01, z139a, Bool.false_eq_true, f_X10_numberAt_L5, Nat.le_refl]
-- remark: one entry: where it goes wrong, or its end, whether it removes, its key's place, its key, its value
def ent (s : Nat → Int32) (n a : Nat) : Nat ⊕ (Nat × Bool × Nat × Int32 × Int32) :=
  if bd s n (a + (if sg s n a 45 then 1 else 0)) 2 = a + (if sg s n a 45 then 1 else 0) then .inl (bd s n (a + (if sg s n a 45 then 1 else 0)) 2)
  else if sg s n a 45 then .inr (bd s n (a + 1) 2, true, a + 1, num s (a + 1) (bd s n (a + 1) 2 - (a + 1)), 0)
  else if sg s n (bd s n a 2) 61 then
    (if bd s n (bd s n a 2 + 1 + (if sg s n (bd s n a 2 + 1) 45 then 1 else 0)) 4 = bd s n a 2 + 1 + (if sg s n (bd s n a 2 + 1) 45 then 1 else 0) then .inl (bd s n (bd s n a 2 + 1 + (if sg s n (bd s n a 2 + 1) 45 then 1 else 0)) 4)
    else .inr (bd s n (bd s n a 2 + 1 + (if sg s n (bd s n a 2 + 1) 45 then 1 else 0)) 4, false, a, num s a (bd s n a 2 - a),
      if sg s n (bd s n a 2 + 1) 45 then -(num s (bd s n a 2 + 1 + 1) (bd s n (bd s n a 2 + 1 + 1) 4 - (bd s n a 2 + 1 + 1))) else num s (bd s n a 2 + 1) (bd s n (bd s n a 2 + 1) 4 - (bd s n a 2 + 1))))
  else .inl (bd s n a 2)
set_option maxRecDepth 100000 in
set_option maxHeartbeats 1000000 in
theorem lk3 {β : Type} (o k p : Int32) (K : Int32 → β) : (if 0 ≤ o then K o else (if k < 64 then K o else K p)) = K (if 0 ≤ o then o else if k < 64 then o else p) := by
  split
  · rfl
  · split <;> rfl
def lkn (o k : Int32) (p : Nat) : Int32 := if 0 ≤ o then o else if k < 64 then o else nI p
set_option maxRecDepth 100000 in
set_option maxHeartbeats 1000000 in
theorem lkJ {α : Type} (o k : Int32) (p : Nat) (F : Int32 → Option α) : (s_jn F fun k83 => s_jn (k83 o) fun k79 => if 0 ≤ o then k79 else (if k < 64 then k79 else k83 (nI p))) = F (lkn o k p) := by
  rw [jn_, jn_]
  exact lk3 o k (nI p) F
abbrev eRd : Int32 → sM → Option (sR Int32) := fun x m => some (.inl x, m)
abbrev eOk : sM → Option (sR Int32) := fun m => some (.inl (-1), m)
-- remark: one entry, as the reference reads it
set_option maxRecDepth 100000 in
set_option maxHeartbeats 1000000 in
theorem sg_lt {s : Nat → Int32} {n i : Nat} {c : Int32} (h : sg s n i c = true) : i < n := by
  unfold sg at h
  rw [Bool.and_eq_true_iff] at h
  exact of_decide_eq_true h.1
set_option maxRecDepth 100000 in
set_option maxHeartbeats 1000000 in
theorem q_ent {s : Nat → Int32} {n a : Nat} {m : sM} (h : Inp s n m) (hn : n ≤ 60) (ha : a ≤ n) (y1 : Int32) :
    (∀ e, ent s n a = .inl e → ∃ m', ag (fun b j => ¬ (b = 110 ∧ (j = 31 ∨ j = 32))) m m' ∧ ∀ g, f_X10_read_L12 y1 eRd eOk eRd eRd eRd (g + 1) (nI a) m = some (.inl (nI e), m')) ∧
    (∀ b r kp k v, ent s n a = .inr (b, r, kp, k, v) → ∀ m1 m2, m1 = s_up (s_up m 110 32 (lkn (m.1 110 32) k kp)) 110 31 (m.1 110 31 + 1) →
      (∀ K : sM → Option (sR Int32), (if y1 < 0 then K m1 else if bi r = 0 then s_bd (f_X10_change y1 k v m1) (fun _ z => K z) else s_bd (f_X10_drop y1 k m1) (fun _ z => K z)) = K m2) →
      Inp s n m2 → ∀ g, f_X10_read_L12 y1 eRd eOk eRd eRd eRd (g + 1) (nI a) m = if b = n then some (.inl (-1), m2) else if s b = 44 then f_X10_read_L12 y1 eRd eOk eRd eRd eRd g (nI (b + 1)) m2 else some (.inl (nI b), m2)) := by
  have a1 : nI a + 1 = nI (a + 1) := nI_add a 1
  have a0 : nI a + 0 = nI a := nI_add a 0
  -- behind the entry
  have fin : ∀ b (m2 : sM) g, b ≤ n → Inp s n m2 → (if nI b = m2.1 110 21 then eOk m2 else s_bd (f_X10_isSign (nI b) 44 m2) fun r11 m12 => if r11 = 0 then eRd (nI b) m12 else f_X10_read_L12 y1 eRd eOk eRd eRd eRd g (nI b + 1) m12) = if b = n then some (.inl (-1), m2) else if s b = 44 then f_X10_read_L12 y1 eRd eOk eRd eRd eRd g (nI (b + 1)) m2 else some (.inl (nI b), m2) := fun b m2 g hb h2 => by
    have b1 : nI b + 1 = nI (b + 1) := nI_add b 1
    rw [h2.1]
    by_cases q : b = n
    · rw [if_pos (by rw [q]), if_pos q]
    · rw [if_neg (fun w => q ((nI_eq (by omega) (by omega)).mp w)), if_neg q, q_sgn h2 hn (by omega), bd_]
      unfold sg
      rw [decide_eq_true (by omega : b < n), Bool.true_and]
      by_cases q2 : s b = 44
      · rw [decide_eq_true q2, if_neg (by decide), if_pos q2, b1]
      · rw [decide_eq_false q2, if_pos bi_f, if_neg q2]
  have hag : ∀ x, ag (fun b j => ¬ (b = 110 ∧ (j = 31 ∨ j = 32))) m (s_up m 110 32 x) := fun x => ag_up (ag_rf m) (by omega)
  have hI : ∀ x, Inp s n (s_up m 110 32 x) := fun x => Inp_ag h (ag_up (ag_rf m) (by omega))
  have ne : ∀ {x y : Nat}, x ≤ 70 → y ≤ 70 → x ≠ y → ¬ nI x = nI y := fun h1 h2 h3 w => h3 ((nI_eq (by omega) (by omega)).mp w)
  unfold ent
  cases r : sg s n a 45
  · simp only [Bool.false_eq_true, if_false, Nat.add_zero]
    have hb := bd_ge s n 2 a
    by_cases k0 : bd s n a 2 = a
    · rw [if_pos k0]
      refine ⟨fun e he => ?_, fun b r kp k v he => absurd he (by intro w; cases w)⟩
      cases he
      refine ⟨m, ag_rf m, fun g => ?_⟩
      rw [f_X10_read_L12, q_sgn h hn (by omega), bd_, jn_, r, if_pos bi_f]
      dsimp only
      rw [a0, q_bd2 h hn (by omega), bd_, if_pos (by rw [k0])]
    · rw [if_neg k0]
      have hbn := hb.2.2 ha
      -- up to the key
      have st : ∀ g, f_X10_read_L12 y1 eRd eOk eRd eRd eRd (g + 1) (nI a) m = s_bd (f_X10_isSign (nI (bd s n a 2)) 61 (s_up m 110 32 (lkn (m.1 110 32) (num s a (bd s n a 2 - a)) a))) fun r17 m18 => if r17 = 0 then eRd (nI (bd s n a 2)) m18 else s_bd (f_X10_isSign (nI (bd s n a 2) + 1) 45 m18) fun r19 m20 => s_jn (fun (s0_128 : Int32) => s_bd (f_X10_behindDigits ((nI (bd s n a 2) + 1) + s0_128) 4 m20) fun r21 m22 => if r21 = ((nI (bd s n a 2) + 1) + s0_128) then (eRd r21 m22) else (s_jn (fun (s0_171 : Int32) (m171_ : sM) => s_md (s_up m171_ 110 31 ((m171_.1 110 31) + 1)) fun m10 => s_jn (fun (m210_ : sM) => if r21 = (m210_.1 110 21) then (eOk m210_) else (s_bd (f_X10_isSign r21 44 m210_) fun r11 m12 => if r11 = 0 then (eRd r21 m12) else (f_X10_read_L12 y1 eRd eOk eRd eRd eRd g (r21 + 1) m12))) fun k210 => if y1 < 0 then (k210 m10) else (if bi false = 0 then (s_bd (f_X10_change y1 (num s a (bd s n a 2 - a)) s0_171 m10) fun r13 m14 => k210 m14) else (s_bd (f_X10_drop y1 (num s a (bd s n a 2 - a)) m10) fun r15 m16 => k210 m16))) fun k171 => if r19 = 0 then (s_bd (f_X10_numberAt ((nI (bd s n a 2) + 1) + s0_128) r21 m22) fun r23 m24 => k171 r23 m24) else (s_bd (f_X10_numberAt ((nI (bd s n a 2) + 1) + s0_128) r21 m22) fun r25 m26 => k171 (-r25) m26))) fun k128 => if r19 = 0 then (k128 0) else (k128 1) := fun g => by
        rw [f_X10_read_L12, q_sgn h hn (by omega), bd_, jn_, r, if_pos bi_f]
        dsimp only
        rw [a0, q_bd2 h hn (by omega), bd_, if_neg (ne (by omega) (by omega) k0), q_num h hn (by omega) hbn, bd_, lkJ, md_, jn_, if_pos bi_f]
      cases q61 : sg s n (bd s n a 2) 61
      · rw [if_neg (by decide)]
        refine ⟨fun e he => ?_, fun b r kp k v he => absurd he (by intro w; cases w)⟩
        cases he
        refine ⟨s_up m 110 32 (lkn (m.1 110 32) (num s a (bd s n a 2 - a)) a), hag _, fun g => ?_⟩
        rw [st, q_sgn (hI _) hn (by omega), bd_, q61, if_pos bi_f]
      · rw [if_pos rfl]
        have hlt := sg_lt q61
        have e1 : nI (bd s n a 2) + 1 = nI (bd s n a 2 + 1) := nI_add _ 1
        -- the value, behind its sign
        have vv : ∀ (mi : Bool), sg s n (bd s n a 2 + 1) 45 = mi →
            (∀ e, (if bd s n (bd s n a 2 + 1 + (if mi then 1 else 0)) 4 = bd s n a 2 + 1 + (if mi then 1 else 0) then (.inl (bd s n (bd s n a 2 + 1 + (if mi then 1 else 0)) 4) : Nat ⊕ (Nat × Bool × Nat × Int32 × Int32)) else .inr (bd s n (bd s n a 2 + 1 + (if mi then 1 else 0)) 4, false, a, num s a (bd s n a 2 - a), if mi then -(num s (bd s n a 2 + 1 + 1) (bd s n (bd s n a 2 + 1 + 1) 4 - (bd s n a 2 + 1 + 1))) else num s (bd s n a 2 + 1) (bd s n (bd s n a 2 + 1) 4 - (bd s n a 2 + 1)))) = .inl e → ∃ m', ag (fun b j => ¬ (b = 110 ∧ (j = 31 ∨ j = 32))) m m' ∧ ∀ g, f_X10_read_L12 y1 eRd eOk eRd eRd eRd (g + 1) (nI a) m = some (.inl (nI e), m')) ∧
            (∀ b r kp k v, (if bd s n (bd s n a 2 + 1 + (if mi then 1 else 0)) 4 = bd s n a 2 + 1 + (if mi then 1 else 0) then (.inl (bd s n (bd s n a 2 + 1 + (if mi then 1 else 0)) 4) : Nat ⊕ (Nat × Bool × Nat × Int32 × Int32)) else .inr (bd s n (bd s n a 2 + 1 + (if mi then 1 else 0)) 4, false, a, num s a (bd s n a 2 - a), if mi then -(num s (bd s n a 2 + 1 + 1) (bd s n (bd s n a 2 + 1 + 1) 4 - (bd s n a 2 + 1 + 1))) else num s (bd s n a 2 + 1) (bd s n (bd s n a 2 + 1) 4 - (bd s n a 2 + 1)))) = .inr (b, r, kp, k, v) → ∀ m1 m2, m1 = s_up (s_up m 110 32 (lkn (m.1 110 32) k kp)) 110 31 (m.1 110 31 + 1) →
      (∀ K : sM → Option (sR Int32), (if y1 < 0 then K m1 else if bi r = 0 then s_bd (f_X10_change y1 k v m1) (fun _ z => K z) else s_bd (f_X10_drop y1 k m1) (fun _ z => K z)) = K m2) →
      Inp s n m2 → ∀ g, f_X10_read_L12 y1 eRd eOk eRd eRd eRd (g + 1) (nI a) m = if b = n then some (.inl (-1), m2) else if s b = 44 then f_X10_read_L12 y1 eRd eOk eRd eRd eRd g (nI (b + 1)) m2 else some (.inl (nI b), m2)) := by
          intro mi hmi
          have hd0 : bd s n a 2 + 1 + (if mi then 1 else 0) ≤ n := by
            cases mi
            · simp only [Bool.false_eq_true, if_false]; omega
            · have := sg_lt hmi
              simp only [if_true]; omega
          have e2 : nI (bd s n a 2 + 1) + (if bi mi = 0 then 0 else 1) = nI (bd s n a 2 + 1 + (if mi then 1 else 0)) := by
            cases mi
            · exact nI_add _ 0
            · exact nI_add _ 1
          have hm31 : ∀ x, (s_up m 110 32 x).1 110 31 = m.1 110 31 := fun x => by rw [up1, if_neg (by omega)]
          generalize hd0e : bd s n a 2 + 1 + (if mi then 1 else 0) = d0 at hd0 e2 ⊢
          have hdb := bd_ge s n 4 d0
          -- one road for both signs
          have st2 : ∀ g, f_X10_read_L12 y1 eRd eOk eRd eRd eRd (g + 1) (nI a) m = if nI (bd s n d0 4) = nI d0 then eRd (nI (bd s n d0 4)) (s_up m 110 32 (lkn (m.1 110 32) (num s a (bd s n a 2 - a)) a)) else s_jn (fun (s0_171 : Int32) (m171_ : sM) => s_md (s_up m171_ 110 31 ((m171_.1 110 31) + 1)) fun m10 => s_jn (fun (m210_ : sM) => if nI (bd s n d0 4) = (m210_.1 110 21) then (eOk m210_) else (s_bd (f_X10_isSign (nI (bd s n d0 4)) 44 m210_) fun r11 m12 => if r11 = 0 then (eRd (nI (bd s n d0 4)) m12) else (f_X10_read_L12 y1 eRd eOk eRd eRd eRd g (nI (bd s n d0 4) + 1) m12))) fun k210 => if y1 < 0 then (k210 m10) else (if bi false = 0 then (s_bd (f_X10_change y1 (num s a (bd s n a 2 - a)) s0_171 m10) fun r13 m14 => k210 m14) else (s_bd (f_X10_drop y1 (num s a (bd s n a 2 - a)) m10) fun r15 m16 => k210 m16))) (fun k171 => if bi mi = 0 then (s_bd (f_X10_numberAt (nI d0) (nI (bd s n d0 4)) (s_up m 110 32 (lkn (m.1 110 32) (num s a (bd s n a 2 - a)) a))) fun r23 m24 => k171 r23 m24) else (s_bd (f_X10_numberAt (nI d0) (nI (bd s n d0 4)) (s_up m 110 32 (lkn (m.1 110 32) (num s a (bd s n a 2 - a)) a))) fun r25 m26 => k171 (-r25) m26)) := fun g => by
            rw [st, q_sgn (hI _) hn (by omega), bd_, q61, if_neg (by decide), e1, q_sgn (hI _) hn (by omega), bd_, hmi, jn_]
            cases mi
            · have e2' : nI (bd s n a 2 + 1) + 0 = nI d0 := e2
              rw [if_pos bi_f]
              dsimp only
              rw [e2', q_bd4 (hI _) hn (by omega), bd_]
            · have e2' : nI (bd s n a 2 + 1) + 1 = nI d0 := e2
              rw [if_neg (by decide)]
              dsimp only
              rw [e2', q_bd4 (hI _) hn (by omega), bd_]
          have hdn := hdb.2.2 hd0
          by_cases qd : bd s n d0 4 = d0
          · rw [if_pos qd]
            refine ⟨fun e he => ?_, fun b r kp k v he => absurd he (by intro w; cases w)⟩
            cases he
            refine ⟨s_up m 110 32 (lkn (m.1 110 32) (num s a (bd s n a 2 - a)) a), hag _, fun g => ?_⟩
            rw [st2, if_pos (by rw [qd])]
          · rw [if_neg qd]
            refine ⟨fun e he => absurd he (by intro w; cases w), fun b r kp k v he m1 m2 hm1 hK h2 g => ?_⟩
            have key : ∀ w, v = w → s_jn (fun (m210_ : sM) => if nI (bd s n d0 4) = (m210_.1 110 21) then (eOk m210_) else (s_bd (f_X10_isSign (nI (bd s n d0 4)) 44 m210_) fun r11 m12 => if r11 = 0 then (eRd (nI (bd s n d0 4)) m12) else (f_X10_read_L12 y1 eRd eOk eRd eRd eRd g (nI (bd s n d0 4) + 1) m12))) (fun k210 => if y1 < 0 then (k210 (s_up (s_up m 110 32 (lkn (m.1 110 32) (num s a (bd s n a 2 - a)) a)) 110 31 (m.1 110 31 + 1))) else (if bi false = 0 then (s_bd (f_X10_change y1 (num s a (bd s n a 2 - a)) w (s_up (s_up m 110 32 (lkn (m.1 110 32) (num s a (bd s n a 2 - a)) a)) 110 31 (m.1 110 31 + 1))) fun r13 m14 => k210 m14) else (s_bd (f_X10_drop y1 (num s a (bd s n a 2 - a)) (s_up (s_up m 110 32 (lkn (m.1 110 32) (num s a (bd s n a 2 - a)) a)) 110 31 (m.1 110 31 + 1))) fun r15 m16 => k210 m16))) = if b = n then some (.inl (-1), m2) else if s b = 44 then f_X10_read_L12 y1 eRd eOk eRd eRd eRd g (nI (b + 1)) m2 else some (.inl (nI b), m2) := fun w hw => by
              cases he
              subst hw
              subst hm1
              rw [jn_]
              refine (hK _).trans ?_
              exact fin _ m2 g hdn h2
            rw [st2, if_neg (ne (by omega) (by omega) qd), jn_, q_num (hI _) hn hdb.1 hdn]
            cases mi
            · have hd1 : bd s n a 2 + 1 = d0 := hd0e
              rw [if_pos bi_f, bd_]
              dsimp only
              rw [md_, hm31]
              refine key _ ?_
              cases he
              rw [← hd1]
              rfl
            · have hd1 : bd s n a 2 + 1 + 1 = d0 := hd0e
              rw [if_neg (by decide), bd_]
              dsimp only
              rw [md_, hm31]
              refine key _ ?_
              cases he
              rw [← hd1]
              rfl
        exact vv _ rfl
  · rw [if_pos rfl, if_pos rfl]
    have hlt := sg_lt r
    have hb := bd_ge s n 2 (a + 1)
    by_cases k0 : bd s n (a + 1) 2 = a + 1
    · rw [if_pos k0]
      refine ⟨fun e he => ?_, fun b r kp k v he => absurd he (by intro w; cases w)⟩
      cases he
      refine ⟨m, ag_rf m, fun g => ?_⟩
      rw [f_X10_read_L12, q_sgn h hn (by omega), bd_, jn_, r, if_neg (by decide)]
      dsimp only
      rw [a1, q_bd2 h hn (by omega), bd_, if_pos (by rw [k0])]
    · rw [if_neg k0]
      have hbn := hb.2.2 (by omega)
      refine ⟨fun e he => absurd he (by intro w; cases w), fun b r' kp k v he m1 m2 hm1 hK h2 g => ?_⟩
      cases he
      subst hm1
      have hm31 : ∀ x, (s_up m 110 32 x).1 110 31 = m.1 110 31 := fun x => by rw [up1, if_neg (by omega)]
      rw [f_X10_read_L12, q_sgn h hn (by omega), bd_, jn_, r, if_neg (by decide)]
      dsimp only
      rw [a1, q_bd2 h hn (by omega), bd_, if_neg (ne (by omega) (by omega) k0), q_num h hn hb.1 hbn, bd_, lkJ, md_, jn_, if_neg (by decide)]
      dsimp only
      rw [md_, hm31, jn_]
      refine (hK _).trans ?_
      exact fin _ m2 g hbn h2
