/-! PURE: the small methods. -/
theorem gd1 {α : Type} (x : Option α) : s_gd ((1 : Int32) = 0 ∨ (1 : Int32) = 1) x = x := if_pos (Or.inr rfl)
theorem gd0 {α : Type} (x : Option α) : s_gd ((0 : Int32) = 0 ∨ (0 : Int32) = 1) x = x := if_pos (Or.inl rfl)
theorem gdT {α : Type} (x : Option α) : s_gd True x = x := if_pos trivial
theorem ifb0 {α : Type} (b : Bool) (x y : α) : (if bi b = 0 then x else y) = if b = true then y else x := by cases b <;> rfl
theorem ifb1 {α : Type} (b : Bool) (x y : α) : (if bi b = 1 then x else y) = if b = true then x else y := by cases b <;> rfl
theorem t0 : ((0 : Int32) ≤ 0) = True := eq_true (by decide)
theorem t1 : ((1 : Int32) ≤ 0) = False := eq_false (by decide)
theorem t2 : ((2 : Int32) ≤ 0) = False := eq_false (by decide)
theorem t3 : ((3 : Int32) ≤ 0) = False := eq_false (by decide)
theorem t4 : ((4 : Int32) ≤ 0) = False := eq_false (by decide)
theorem o10 : ((1 : Int32) = 0) = False := eq_false (by decide)
theorem o01 : ((0 : Int32) = 1) = False := eq_false (by decide)
theorem z139a (m : sM) : (s_z139 m).2 = m.2 := rfl
/-- a wrong index -/
def Bad (n : Nat) (p : Int32) : Prop := p < 0 ∨ nI n ≤ p
theorem bad_or (n : Nat) (hn : n < 2 ^ 31) (p : Int32) : Bad n p ∨ ∃ j, j < n ∧ p = nI j := by
  rcases pk_ix p hn with h | h | h
  · exact Or.inl (Or.inl h)
  · exact Or.inl (Or.inr h)
  · exact Or.inr h
theorem nlt_of_le {x y : Int32} (h : x ≤ y) : ¬ y < x := fun q => by
  rw [Int32.lt_iff_toInt_lt] at q
  rw [Int32.le_iff_toInt_le] at h
  omega
theorem ge_gt {n : Nat} (hn : n + 1 < 2 ^ 31) {p : Int32} (h : nI (n + 1) ≤ p) : nI n < p := by
  rw [Int32.le_iff_toInt_le, nI_toInt hn] at h
  rw [Int32.lt_iff_toInt_lt, nI_toInt (by omega)]
  omega
theorem p_ri {j n : Nat} (h : j < n) (hn : n < 2 ^ 31) (m : sM) : f_X9_requireIndex (nI j) (nI n) m = some (.inl (), m) := by
  unfold f_X9_requireIndex
  rw [jn_, if_neg (nI_pos (by omega)), if_pos (nI_lt h hn)]
theorem p_riL {j n : Nat} (h : j < (OfNat.ofNat n : Nat)) (hn : (OfNat.ofNat n : Nat) < 2 ^ 31) (m : sM) : f_X9_requireIndex (nI j) (no_index (OfNat.ofNat n)) m = some (.inl (), m) := p_ri h hn m
theorem p_riE {p : Int32} {n : Nat} (h : Bad n p) (m : sM) : f_X9_requireIndex p (nI n) m = some (.inr "java/lang/IndexOutOfBoundsException", m) := by
  unfold f_X9_requireIndex
  rw [jn_]
  by_cases h0 : p < 0
  · rw [if_pos h0]
  · rw [if_neg h0, if_neg (nlt_of_le (h.resolve_left h0))]
theorem p_riLE {p : Int32} {n : Nat} (h : Bad n p) (m : sM) : f_X9_requireIndex p (no_index (OfNat.ofNat n)) m = some (.inr "java/lang/IndexOutOfBoundsException", m) := p_riE h m
theorem p_slot {j : Nat} (h : j < 3) (m : sM) : f_X9_requireSlot (nI j) m = some (.inl (), m) := by
  unfold f_X9_requireSlot
  rw [p_riL h (by decide), bd_]
theorem p_slotE {p : Int32} (h : Bad 3 p) (m : sM) : f_X9_requireSlot p m = some (.inr "java/lang/IndexOutOfBoundsException", m) := by
  unfold f_X9_requireSlot
  rw [p_riLE h, bdE_]
theorem p_key {j : Nat} (h : j < 64) (m : sM) : f_X9_requireKey (nI j) m = some (.inl (), m) := by
  unfold f_X9_requireKey
  rw [jn_, if_neg (nI_pos (by omega))]
  exact if_pos (nI_lt h (by decide))
theorem p_keyE {p : Int32} (h : Bad 64 p) (m : sM) : f_X9_requireKey p m = some (.inr "java/lang/IllegalArgumentException", m) := by
  unfold f_X9_requireKey
  rw [jn_]
  by_cases h0 : p < 0
  · rw [if_pos h0]
  · rw [if_neg h0]
    exact if_neg (nlt_of_le (h.resolve_left h0))
theorem p_what {j n : Nat} (h : j < (OfNat.ofNat n : Nat)) (hn : (OfNat.ofNat n : Nat) < 2 ^ 31) (m : sM) : f_X9_requireWhat (nI j) (no_index (OfNat.ofNat n)) m = some (.inl (), m) := by
  unfold f_X9_requireWhat
  rw [jn_, if_neg (nI_pos (by omega))]
  exact if_pos (nI_lt h hn)
theorem p_whatE {p : Int32} {n : Nat} (h : Bad n p) (m : sM) : f_X9_requireWhat p (no_index (OfNat.ofNat n)) m = some (.inr "java/lang/IllegalArgumentException", m) := by
  unfold f_X9_requireWhat
  rw [jn_]
  by_cases h0 : p < 0
  · rw [if_pos h0]
  · rw [if_neg h0]
    exact if_neg (nlt_of_le (h.resolve_left h0))
theorem q_inT {p a b : Int32} (h1 : ¬ p < a) (h2 : ¬ b < p) (m : sM) : f_X10_in p a b m = some (.inl 1, m) := by
  unfold f_X10_in
  rw [jn_, jn_, if_neg h1, if_neg h2]
  exact gd1 _
theorem q_inF {p a b : Int32} (h : p < a ∨ b < p) (m : sM) : f_X10_in p a b m = some (.inl 0, m) := by
  unfold f_X10_in
  rw [jn_, jn_]
  by_cases h1 : p < a
  · rw [if_pos h1]; exact gd0 _
  · rw [if_neg h1, if_pos (h.resolve_left h1)]; exact gd0 _
theorem q_in {j a b : Nat} (hj : j < 2 ^ 31) (hb : b < 2 ^ 31) (m : sM) (h1 : a ≤ j) (h2 : j ≤ b) : f_X10_in (nI j) (no_index (OfNat.ofNat a)) (no_index (OfNat.ofNat b)) m = some (.inl 1, m) := q_inT (nI_nlt h1 hj) (nI_nlt h2 hb) m
theorem q_inE {p : Int32} {b : Nat} (hb : b + 1 < 2 ^ 31) (h : Bad (b + 1) p) (m : sM) : f_X10_in p 0 (no_index (OfNat.ofNat b)) m = some (.inl 0, m) := q_inF (h.elim Or.inl fun h => Or.inr (ge_gt hb h)) m
theorem q_slot {j : Nat} (h : j < 3) (m : sM) : f_X10_isSlot (nI j) m = some (.inl 1, m) := by
  have e : f_X10_in (nI j) 0 2 m = some (.inl 1, m) := q_in (a := 0) (b := 2) (by omega) (by decide) m (by omega) (by omega)
  unfold f_X10_isSlot
  rw [e, bd_]
  exact gd1 _
theorem q_slotE {p : Int32} (h : Bad 3 p) (m : sM) : f_X10_isSlot p m = some (.inl 0, m) := by
  have e : f_X10_in p 0 2 m = some (.inl 0, m) := q_inE (b := 2) (by decide) h m
  unfold f_X10_isSlot
  rw [e, bd_]
  exact gd0 _
theorem q_key {j : Nat} (h : j < 64) (m : sM) : f_X10_isKey (nI j) m = some (.inl 1, m) := by
  have e : f_X10_in (nI j) 0 63 m = some (.inl 1, m) := q_in (a := 0) (b := 63) (by omega) (by decide) m (by omega) (by omega)
  unfold f_X10_isKey
  rw [e, bd_]
  exact gd1 _
theorem q_keyE {p : Int32} (h : Bad 64 p) (m : sM) : f_X10_isKey p m = some (.inl 0, m) := by
  have e : f_X10_in p 0 63 m = some (.inl 0, m) := q_inE (b := 63) (by decide) h m
  unfold f_X10_isKey
  rw [e, bd_]
  exact gd0 _
theorem q_block {j : Nat} (h : j < 32) (m : sM) : f_X10_isBlock (nI j) m = some (.inl 1, m) := by
  have e : f_X10_in (nI j) 0 31 m = some (.inl 1, m) := q_in (a := 0) (b := 31) (by omega) (by decide) m (by omega) (by omega)
  unfold f_X10_isBlock
  rw [e, bd_]
  exact gd1 _
theorem q_blockE {p : Int32} (h : Bad 32 p) (m : sM) : f_X10_isBlock p m = some (.inl 0, m) := by
  have e : f_X10_in p 0 31 m = some (.inl 0, m) := q_inE (b := 31) (by decide) h m
  unfold f_X10_isBlock
  rw [e, bd_]
  exact gd0 _
theorem q_pin {j : Nat} (h : j < 2) (m : sM) : f_X10_isPin (nI j) m = some (.inl 1, m) := by
  have e : f_X10_in (nI j) 0 1 m = some (.inl 1, m) := q_in (a := 0) (b := 1) (by omega) (by decide) m (by omega) (by omega)
  unfold f_X10_isPin
  rw [e, bd_]
  exact gd1 _
theorem q_pinE {p : Int32} (h : Bad 2 p) (m : sM) : f_X10_isPin p m = some (.inl 0, m) := by
  have e : f_X10_in p 0 1 m = some (.inl 0, m) := q_inE (b := 1) (by decide) h m
  unfold f_X10_isPin
  rw [e, bd_]
  exact gd0 _
theorem p_act {s : Nat} {m : sM} (h : s < 3) (h1 : m.1 (54 + 10 * s) 3 = 1) : f_X9_requireActive (nI s) m = some (.inl (), m) := by
  unfold f_X9_requireActive
  rw [ix_ _ h (by decide), if_pos h1]
theorem p_actE {s : Nat} {m : sM} (h : s < 3) (h1 : ¬ m.1 (54 + 10 * s) 3 = 1) : f_X9_requireActive (nI s) m = some (.inr "java/lang/IllegalStateException", m) := by
  unfold f_X9_requireActive
  rw [ix_ _ h (by decide), if_neg h1]
theorem p_nid {s : Nat} {m : sM} (h : s < 3) (h1 : ¬ m.1 (54 + 10 * s) 3 = 0) : f_X9_requireNotIdle (nI s) m = some (.inl (), m) := by
  unfold f_X9_requireNotIdle
  rw [ix_ _ h (by decide), if_neg h1]
theorem p_nidE {s : Nat} {m : sM} (h : s < 3) (h1 : m.1 (54 + 10 * s) 3 = 0) : f_X9_requireNotIdle (nI s) m = some (.inr "java/lang/IllegalStateException", m) := by
  unfold f_X9_requireNotIdle
  rw [ix_ _ h (by decide), if_pos h1]
theorem p_open {m : sM} (h : m.1 0 15 = 1) : f_X9_requireOpen m = some (.inl (), m) := by
  unfold f_X9_requireOpen
  rw [h]
  exact if_neg (by decide)
theorem p_openE {m : sM} (h : m.1 0 15 = 0) : f_X9_requireOpen m = some (.inr "java/lang/IllegalStateException", m) := by
  unfold f_X9_requireOpen
  rw [h]
  exact if_pos rfl
theorem p_pinned {p : Nat} {m : sM} (hp : p < 2) (h : m.1 49 p = 1) : f_X9_requirePinned (nI p) m = some (.inl (), m) := by
  unfold f_X9_requirePinned
  rw [ix_ _ hp (by decide), h]
  exact if_neg (by decide)
theorem p_pinnedE {p : Nat} {m : sM} (hp : p < 2) (h : m.1 49 p = 0) : f_X9_requirePinned (nI p) m = some (.inr "java/lang/IllegalStateException", m) := by
  unfold f_X9_requirePinned
  rw [ix_ _ hp (by decide), h]
  exact if_pos rfl
/-- what a slot sees -/
def vw (m : sM) (s k : Nat) : Bool := if lb (m.2 (54 + 10 * s + 1) 1) k then !lb (m.2 (54 + 10 * s + 1) 2) k else lb (m.2 36 2) k
theorem p_inView {s k : Nat} (hs : s < 3) (hk : k < 64) (m : sM) : f_X9_isInView (nI s) (nI k) m = some (.inl (bi (vw m s k)), m) := by
  unfold f_X9_isInView vw
  rw [ix_ _ hs (by decide), p_isIn _ hk, bd_, ifb0]
  cases h1 : lb (m.2 (54 + 10 * s + 1) 1) k
  · rw [if_neg (by decide), p_isIn _ hk, bd_, gdb_, if_neg (by decide)]
  · rw [if_pos rfl, p_isIn _ hk, bd_, jn_, ifb0, if_pos rfl]
    cases h2 : lb (m.2 (54 + 10 * s + 1) 2) k
    · rw [if_neg (by decide)]; exact gd1 _
    · rw [if_pos rfl]; exact gd0 _
theorem p_reqView {s k : Nat} (hs : s < 3) (hk : k < 64) {m : sM} (h : vw m s k = true) : f_X9_requireInView (nI s) (nI k) m = some (.inl (), m) := by
  unfold f_X9_requireInView
  rw [p_inView hs hk, bd_, h]
  exact if_neg (by decide)
theorem p_reqViewE {s k : Nat} (hs : s < 3) (hk : k < 64) {m : sM} (h : vw m s k = false) : f_X9_requireInView (nI s) (nI k) m = some (.inr "java/util/NoSuchElementException", m) := by
  unfold f_X9_requireInView
  rw [p_inView hs hk, bd_, h]
  exact if_pos rfl
theorem p_valView {s k : Nat} (hs : s < 3) (hk : k < 64) (m : sM) : f_X9_valueInView (nI s) (nI k) m = some (.inl (if lb (m.2 (54 + 10 * s + 1) 1) k then m.1 (54 + 10 * s + 1 + 1) k else m.1 38 k), m) := by
  unfold f_X9_valueInView
  rw [ix_ _ hs (by decide), p_isIn _ hk, bd_, jn_, ifb0, ix_ _ hk (by decide), ix_ _ hk (by decide)]
  cases h1 : lb (m.2 (54 + 10 * s + 1) 1) k <;> rfl
theorem p_rec {a k : Nat} (hk : k < 64) {m : sM} (h : lb (m.2 a 2) k = true) : f_X9_recordOf a (nI k) m = some (.inl (m.1 (a + 2) k), m) := by
  unfold f_X9_recordOf
  rw [p_isIn _ hk, bd_, h, ix_ _ hk (by decide)]
  exact if_neg (by decide)
theorem p_recE {a k : Nat} (hk : k < 64) {m : sM} (h : lb (m.2 a 2) k = false) : f_X9_recordOf a (nI k) m = some (.inr "java/util/NoSuchElementException", m) := by
  unfold f_X9_recordOf
  rw [p_isIn _ hk, bd_, h]
  exact if_pos rfl
/-! a set of changes -/
def x_ren (a k : Nat) (v : Int32) (m : sM) : sM := s_up (s_uL (s_uL m a 1 (m.2 a 1 ||| s_lshl 1 (nI k))) a 2 ((s_uL m a 1 (m.2 a 1 ||| s_lshl 1 (nI k))).2 a 2 &&& (s_lshl 1 (nI k) ^^^ (-1)))) (a + 1) k v
theorem p_ren {a k : Nat} (hk : k < 64) (v : Int32) (m : sM) : f_X0_renew a (nI k) v m = some (.inl (), x_ren a k v m) := by
  unfold f_X0_renew x_ren
  rw [p_setOf, bd_, md_, p_setOf, bd_, md_, ix_ _ hk (by decide), md_]
theorem ren1 (a k : Nat) (v : Int32) (m : sM) (b j : Nat) : (x_ren a k v m).1 b j = if b = a + 1 ∧ j = k then v else m.1 b j := by
  unfold x_ren
  rw [up1, uL1, uL1]
theorem renT {a k j : Nat} (hk : k < 64) (hj : j < 64) (v : Int32) (m : sM) : lb ((x_ren a k v m).2 a 1) j = (lb (m.2 a 1) j || decide (j = k)) := by
  unfold x_ren
  rw [up2, uL2, if_neg (by omega), uL2, if_pos ⟨rfl, rfl⟩, lb_or, lb_set k hk j hj]
theorem renR {a k j : Nat} (hk : k < 64) (hj : j < 64) (v : Int32) (m : sM) : lb ((x_ren a k v m).2 a 2) j = (lb (m.2 a 2) j && !decide (j = k)) := by
  unfold x_ren
  rw [up2, uL2, if_pos ⟨rfl, rfl⟩, uL2, if_neg (by omega), lb_and, lb_not _ hj, lb_set k hk j hj]
theorem ren_ag {P : Nat → Nat → Prop} {a k : Nat} {v : Int32} {m m1 : sM} (h : ag P m m1) (h1 : ¬ P a 1) (h2 : ¬ P a 2) (h3 : ¬ P (a + 1) k) : ag P m (x_ren a k v m1) := ag_up (ag_uL (ag_uL h h1) h2) h3
def x_drp (a k : Nat) (m : sM) : sM := s_uL (s_uL m a 1 (m.2 a 1 ||| s_lshl 1 (nI k))) a 2 ((s_uL m a 1 (m.2 a 1 ||| s_lshl 1 (nI k))).2 a 2 ||| s_lshl 1 (nI k))
theorem p_drp {a k : Nat} (m : sM) : f_X0_drop a (nI k) m = some (.inl (), x_drp a k m) := by
  unfold f_X0_drop x_drp
  rw [p_setOf, bd_, md_, p_setOf, bd_, md_]
theorem drp1 (a k : Nat) (m : sM) : (x_drp a k m).1 = m.1 := rfl
theorem drpT {a k j : Nat} (hk : k < 64) (hj : j < 64) (m : sM) : lb ((x_drp a k m).2 a 1) j = (lb (m.2 a 1) j || decide (j = k)) := by
  unfold x_drp
  rw [uL2, if_neg (by omega), uL2, if_pos ⟨rfl, rfl⟩, lb_or, lb_set k hk j hj]
theorem drpR {a k j : Nat} (hk : k < 64) (hj : j < 64) (m : sM) : lb ((x_drp a k m).2 a 2) j = (lb (m.2 a 2) j || decide (j = k)) := by
  unfold x_drp
  rw [uL2, if_pos ⟨rfl, rfl⟩, uL2, if_neg (by omega), lb_or, lb_set k hk j hj]
theorem drp_ag {P : Nat → Nat → Prop} {a k : Nat} {m m1 : sM} (h : ag P m m1) (h1 : ¬ P a 1) (h2 : ¬ P a 2) : ag P m (x_drp a k m1) := ag_uL (ag_uL h h1) h2
/-- the reference's two writes -/
def y_chg (s k : Nat) (v : Int32) (m : sM) : sM := s_up (s_up (s_up m 119 (64 * s + k) 1) 120 (64 * s + k) 0) 121 (64 * s + k) v
theorem q_chg {s k : Nat} (hs : s < 3) (hk : k < 64) (v : Int32) (m : sM) : f_X10_change (nI s) (nI k) v m = some (.inl (), y_chg s k v m) := by
  simp (disch := omega) only [md_, jn_, bd_, bdE_, ixl, ix_, llN, lNl, tlN, tNl, eNl, lNN, tNN, eNN, aNl, alN, mlN, nI_add, pk_mul, neg_lt0, if_true, if_false, if_pos, if_neg, up2, uL1, cp2, gdT, gdb_, or_true, true_or, false_or, or_false, ifb0, ifb1, eq_self, t0, t1, t2, t3, t4, o10, o01, z139a, f_X10_change, y_chg, nar0, nar1]
theorem chg1 (s k : Nat) (v : Int32) (m : sM) (b j : Nat) : (y_chg s k v m).1 b j = if b = 121 ∧ j = 64 * s + k then v else if b = 120 ∧ j = 64 * s + k then 0 else if b = 119 ∧ j = 64 * s + k then 1 else m.1 b j := by
  unfold y_chg
  rw [up1, up1, up1]
theorem chg_ag {P : Nat → Nat → Prop} {s k : Nat} {v : Int32} {m m1 : sM} (h : ag P m m1) (h1 : ¬ P 119 (64 * s + k)) (h2 : ¬ P 120 (64 * s + k)) (h3 : ¬ P 121 (64 * s + k)) : ag P m (y_chg s k v m1) := ag_up (ag_up (ag_up h h1) h2) h3
def y_drp (s k : Nat) (m : sM) : sM := s_up (s_up m 119 (64 * s + k) 1) 120 (64 * s + k) 1
theorem q_drp {s k : Nat} (hs : s < 3) (hk : k < 64) (m : sM) : f_X10_drop (nI s) (nI k) m = some (.inl (), y_drp s k m) := by
  simp (disch := omega) only [md_, jn_, bd_, bdE_, ixl, ix_, llN, lNl, tlN, tNl, eNl, lNN, tNN, eNN, aNl, alN, mlN, nI_add, pk_mul, neg_lt0, if_true, if_false, if_pos, if_neg, up2, uL1, cp2, gdT, gdb_, or_true, true_or, false_or, or_false, ifb0, ifb1, eq_self, t0, t1, t2, t3, t4, o10, o01, z139a, f_X10_drop, y_drp, nar1]
theorem ydrp1 (s k : Nat) (m : sM) (b j : Nat) : (y_drp s k m).1 b j = if b = 120 ∧ j = 64 * s + k then 1 else if b = 119 ∧ j = 64 * s + k then 1 else m.1 b j := by
  unfold y_drp
  rw [up1, up1]
theorem ydrp_ag {P : Nat → Nat → Prop} {s k : Nat} {m m1 : sM} (h : ag P m m1) (h1 : ¬ P 119 (64 * s + k)) (h2 : ¬ P 120 (64 * s + k)) : ag P m (y_drp s k m1) := ag_up (ag_up h h1) h2
/-- both sides take a new value -/
theorem rChg_ren {mc mm : sM} {a s k : Nat} (hk : k < 64) (v : Int32) (h : rChg mc mm a 119 120 121 (64 * s)) : rChg (x_ren a k v mc) (y_chg s k v mm) a 119 120 121 (64 * s) := fun j hj => by
  obtain ⟨h1, h2, h3, h4, h5⟩ := h j hj
  rw [renT hk hj, renR hk hj, chg1, chg1, chg1, ren1]
  by_cases e : j = k
  · subst e
    simp [bi]
  · have e2 : ¬ 64 * s + j = 64 * s + k := by omega
    simp only [e, e2, and_false, and_true, if_false, decide_false, Bool.or_false, Bool.not_false, Bool.and_true]
    exact ⟨h1, h2, h3, h4, h5⟩
theorem rChg_drp {mc mm : sM} {a s k : Nat} (hk : k < 64) (h : rChg mc mm a 119 120 121 (64 * s)) : rChg (x_drp a k mc) (y_drp s k mm) a 119 120 121 (64 * s) := fun j hj => by
  obtain ⟨h1, h2, h3, h4, h5⟩ := h j hj
  rw [drpT hk hj, drpR hk hj, ydrp1, ydrp1, ydrp1, drp1]
  by_cases e : j = k
  · subst e
    simp [bi]
  · have e2 : ¬ 64 * s + j = 64 * s + k := by omega
    simp only [e, e2, and_false, if_false, decide_false, Bool.or_false]
    exact ⟨h1, h2, h3, h4, h5⟩
