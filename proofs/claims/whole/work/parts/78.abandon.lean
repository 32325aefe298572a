/-! PURE: abandon. -/
def x_fil (a lo n : Nat) (v : Int32) (m : sM) : sM := (fun b j => if b = a ∧ lo ≤ j ∧ j < lo + n then v else m.1 b j, m.2)
theorem fil1 (a lo n : Nat) (v : Int32) (m : sM) (b j : Nat) : (x_fil a lo n v m).1 b j = if b = a ∧ lo ≤ j ∧ j < lo + n then v else m.1 b j := rfl
theorem fil2 (a lo n : Nat) (v : Int32) (m : sM) : (x_fil a lo n v m).2 = m.2 := rfl
theorem sM_ext {m m' : sM} (h1 : ∀ a j, m.1 a j = m'.1 a j) (h2 : m.2 = m'.2) : m = m' := Prod.ext (funext fun a => funext fun j => h1 a j) h2
theorem fil_0 (a lo : Nat) (v : Int32) (m : sM) : x_fil a lo 0 v m = m := sM_ext (fun b j => by rw [fil1, if_neg (by omega)]) rfl
theorem fil_s (a lo i : Nat) (v : Int32) (m : sM) : s_up (x_fil a lo i v m) a (lo + i) v = x_fil a lo (i + 1) v m := sM_ext (fun b j => by
  rw [up1, fil1, fil1]
  by_cases h : b = a ∧ j = lo + i
  · rw [if_pos h, if_pos (by omega)]
  · rw [if_neg h]
    by_cases h2 : b = a ∧ lo ≤ j ∧ j < lo + i
    · rw [if_pos h2, if_pos (by omega)]
    · rw [if_neg h2, if_neg (by omega)]) rfl
theorem fil_ag {P : Nat → Nat → Prop} {a lo n : Nat} {v : Int32} {m m1 : sM} (h : ag P m m1) (hp : ∀ j, lo ≤ j → j < lo + n → ¬ P a j) : ag P m (x_fil a lo n v m1) := fun b j p => by
  refine ⟨?_, (h b j p).2⟩
  rw [fil1, if_neg]
  · exact (h b j p).1
  · rintro ⟨rfl, h1, h2⟩; exact hp j h1 h2 p
theorem up_same {m : sM} {a k : Nat} {v : Int32} (h : m.1 a k = v) : s_up m a k v = m := sM_ext (fun b j => by
  rw [up1]
  by_cases q : b = a ∧ j = k
  · rw [if_pos q, q.1, q.2, h]
  · rw [if_neg q]) rfl
/-- a slot is made idle by the reference -/
def y_idl (s : Nat) (m : sM) : sM := x_fil 119 (64 * s) 64 0 (s_up (s_up m 118 s 0) 122 s 0)
theorem q_idle {s : Nat} (hs : s < 3) (m : sM) : f_X10_idle (nI s) m = some (.inl (), y_idl s m) := by
  unfold f_X10_idle
  rw [ix_ _ hs (by decide), md_, ix_ _ hs (by decide), md_, jn_]
  refine lpE (fun g i (m' : sM) => f_X10_idle_L16 (nI s) _ g (nI i) m') (fun i m' => m' = x_fil 119 (64 * s) i 0 (s_up (s_up m 118 s 0) 122 s 0)) _ 64 ?_ ?_ 64 0 _ 5000 rfl (by decide) (fil_0 _ _ _ _).symm
  · intro i m' g hi hm ih
    have := ih _ rfl
    subst hm
    rw [← fil_s] at this
    simp (disch := omega) only [md_, jn_, bd_, bdE_, ixl, ix_, llN, lNl, tlN, tNl, eNl, lNN, tNN, eNN, aNl, alN, mlN, nI_add, pk_mul, neg_lt0, if_true, if_false, if_pos, if_neg, up2, uL1, cp2, gdT, gdb_, or_true, true_or, false_or, or_false, ifb0, ifb1, eq_self, t0, t1, t2, t3, t4, o10, o01, z139a, f_X10_idle_L16, nar0]
    exact this
  · intro m' g hm
    subst hm
    simp (disch := omega) only [md_, jn_, bd_, bdE_, ixl, ix_, llN, lNl, tlN, tNl, eNl, lNN, tNN, eNN, aNl, alN, mlN, nI_add, pk_mul, neg_lt0, if_true, if_false, if_pos, if_neg, up2, uL1, cp2, gdT, gdb_, or_true, true_or, false_or, or_false, ifb0, ifb1, eq_self, t0, t1, t2, t3, t4, o10, o01, z139a, f_X10_idle_L16]
    rfl
theorem idl1 (s : Nat) (m : sM) (b j : Nat) : (y_idl s m).1 b j = if b = 119 ∧ 64 * s ≤ j ∧ j < 64 * s + 64 then 0 else if b = 122 ∧ j = s then 0 else if b = 118 ∧ j = s then 0 else m.1 b j := by
  unfold y_idl
  rw [fil1, up1, up1]
theorem idl_ag {P : Nat → Nat → Prop} {s : Nat} {m m1 : sM} (h : ag P m m1) (h1 : ¬ P 118 s) (h2 : ¬ P 122 s) (h3 : ∀ j, 64 * s ≤ j → j < 64 * s + 64 → ¬ P 119 j) : ag P m (y_idl s m1) := fil_ag (ag_up (ag_up h h1) h2) h3
/-- one place of the order is taken out -/
def x_del (b q n : Nat) (m : sM) : sM := (fun a j => if a = b ∧ q ≤ j ∧ j + 1 < n then m.1 b (j + 1) else m.1 a j, m.2)
theorem del1 (b q n : Nat) (m : sM) (a j : Nat) : (x_del b q n m).1 a j = if a = b ∧ q ≤ j ∧ j + 1 < n then m.1 b (j + 1) else m.1 a j := rfl
theorem del_0 (b q n : Nat) (hn : n ≤ q + 1) (m : sM) : x_del b q n m = m := sM_ext (fun a j => by rw [del1, if_neg (by omega)]) rfl
theorem del_s (b q i : Nat) (hi : q < i) (m : sM) : s_up (x_del b q i m) b (i - 1) (m.1 b i) = x_del b q (i + 1) m := sM_ext (fun a j => by
  rw [up1, del1, del1]
  by_cases h : a = b ∧ j = i - 1
  · rw [if_pos h, if_pos (by omega), h.2, Nat.sub_add_cancel (by omega)]
  · rw [if_neg h]
    by_cases h2 : a = b ∧ q ≤ j ∧ j + 1 < i
    · rw [if_pos h2, if_pos (by omega)]
    · rw [if_neg h2, if_neg (by omega)]) rfl
theorem del_ag {P : Nat → Nat → Prop} {b q n : Nat} {m m1 : sM} (h : ag P m m1) (hp : ∀ j, ¬ P b j) : ag P m (x_del b q n m1) := fun a j p => by
  refine ⟨?_, (h a j p).2⟩
  rw [del1, if_neg]
  · exact (h a j p).1
  · rintro ⟨rfl, -, -⟩; exact hp j p
theorem p_leave0 {s n : Nat} {o : Nat → Nat} {m : sM} (hn : n ≤ 3) (hs : s < 3) (h1 : m.1 0 7 = nI n) (h2 : ∀ i, i < n → o i < 3 ∧ m.1 84 i = nI (o i)) (hne : ∀ i, i < n → o i ≠ s) : f_X9_leaveReadyOrder (nI s) m = some (.inl (), m) := by
  unfold f_X9_leaveReadyOrder
  rw [jn_]
  refine lpE (fun g i (_ : Unit) => f_X9_leaveReadyOrder_L4 (nI s) _ g (nI i) (nI i) m) (fun _ _ => True) _ n ?_ ?_ n 0 () 5000 (by omega) (by omega) trivial
  · intro i _ g hi _ ih
    have := ih () trivial
    obtain ⟨q1, q2⟩ := h2 i hi
    have q3 := hne i hi
    have hup : s_up m 84 i (nI (o i)) = m := up_same q2
    simp (disch := omega) only [md_, jn_, bd_, bdE_, ixl, ix_, llN, lNl, tlN, tNl, eNl, lNN, tNN, eNN, aNl, alN, mlN, nI_add, pk_mul, neg_lt0, if_true, if_false, if_pos, if_neg, up2, uL1, cp2, gdT, gdb_, or_true, true_or, false_or, or_false, ifb0, ifb1, eq_self, t0, t1, t2, t3, t4, o10, o01, z139a, f_X9_leaveReadyOrder_L4, h1, q2, hup]
    exact this
  · intro _ g _
    have hup : s_up m 0 7 (nI n) = m := up_same h1
    simp (disch := omega) only [md_, jn_, bd_, bdE_, ixl, ix_, llN, lNl, tlN, tNl, eNl, lNN, tNN, eNN, aNl, alN, mlN, nI_add, pk_mul, neg_lt0, if_true, if_false, if_pos, if_neg, up2, uL1, cp2, gdT, gdb_, or_true, true_or, false_or, or_false, ifb0, ifb1, eq_self, t0, t1, t2, t3, t4, o10, o01, z139a, f_X9_leaveReadyOrder_L4, h1, hup]
theorem p_leave1 {s n q : Nat} {o : Nat → Nat} {m : sM} (hn : n ≤ 3) (hs : s < 3) (h1 : m.1 0 7 = nI n) (h2 : ∀ i, i < n → o i < 3 ∧ m.1 84 i = nI (o i)) (hq : q < n) (hqs : o q = s) (hne : ∀ i, i < n → i ≠ q → o i ≠ s) : f_X9_leaveReadyOrder (nI s) m = some (.inl (), s_up (x_del 84 q n m) 0 7 (nI (n - 1))) := by
  unfold f_X9_leaveReadyOrder
  rw [jn_]
  refine lpE (fun g i (x : Int32 × sM) => f_X9_leaveReadyOrder_L4 (nI s) _ g x.1 (nI i) x.2) (fun i x => x = (nI (if i ≤ q then i else i - 1), x_del 84 q i m)) _ n ?_ ?_ n 0 (0, m) 5000 (by omega) (by omega) (by rw [if_pos (by omega), del_0 _ _ _ (by omega)]; rfl)
  · intro i x g hi hx ih
    have := ih _ rfl
    subst hx
    obtain ⟨q1, q2⟩ := h2 i hi
    have e1 : (x_del 84 q i m).1 0 7 = nI n := by rw [del1, if_neg (by omega)]; exact h1
    have e2 : (x_del 84 q i m).1 84 i = nI (o i) := by rw [del1, if_neg (by omega)]; exact q2
    rcases Nat.lt_trichotomy i q with hl | hl | hl
    · have q3 := hne i hi (by omega)
      have hup : s_up (x_del 84 q i m) 84 i (nI (o i)) = x_del 84 q i m := up_same e2
      have hd : x_del 84 q (i + 1) m = x_del 84 q i m := (del_0 _ _ _ (by omega) _).trans (del_0 _ _ _ (by omega) _).symm
      rw [if_pos (by omega), hd] at this
      rw [if_pos (by omega)]
      simp (disch := omega) only [md_, jn_, bd_, bdE_, ixl, ix_, llN, lNl, tlN, tNl, eNl, lNN, tNN, eNN, aNl, alN, mlN, nI_add, pk_mul, neg_lt0, if_true, if_false, if_pos, if_neg, up2, uL1, cp2, gdT, gdb_, or_true, true_or, false_or, or_false, ifb0, ifb1, eq_self, t0, t1, t2, t3, t4, o10, o01, z139a, f_X9_leaveReadyOrder_L4, e1, e2, hup]
      exact this
    · subst hl
      have hd : x_del 84 i (i + 1) m = x_del 84 i i m := (del_0 _ _ _ (by omega) _).trans (del_0 _ _ _ (by omega) _).symm
      rw [if_neg (by omega), hd, Nat.add_sub_cancel] at this
      rw [if_pos (by omega)]
      simp (disch := omega) only [md_, jn_, bd_, bdE_, ixl, ix_, llN, lNl, tlN, tNl, eNl, lNN, tNN, eNN, aNl, alN, mlN, nI_add, pk_mul, neg_lt0, if_true, if_false, if_pos, if_neg, up2, uL1, cp2, gdT, gdb_, or_true, true_or, false_or, or_false, ifb0, ifb1, eq_self, t0, t1, t2, t3, t4, o10, o01, z139a, f_X9_leaveReadyOrder_L4, e1, e2, hqs]
      exact this
    · have q3 := hne i hi (by omega)
      rw [if_neg (by omega), ← del_s _ _ _ hl, Nat.add_sub_cancel, q2] at this
      rw [if_neg (by omega)]
      have hi1 : i - 1 + 1 = i := by omega
      simp (disch := omega) only [md_, jn_, bd_, bdE_, ixl, ix_, llN, lNl, tlN, tNl, eNl, lNN, tNN, eNN, aNl, alN, mlN, nI_add, pk_mul, neg_lt0, if_true, if_false, if_pos, if_neg, up2, uL1, cp2, gdT, gdb_, or_true, true_or, false_or, or_false, ifb0, ifb1, eq_self, t0, t1, t2, t3, t4, o10, o01, z139a, f_X9_leaveReadyOrder_L4, e1, e2, hi1]
      exact this
  · intro x g hx
    subst hx
    have e1 : (x_del 84 q n m).1 0 7 = nI n := by rw [del1, if_neg (by omega)]; exact h1
    rw [if_neg (by omega)]
    simp (disch := omega) only [md_, jn_, bd_, bdE_, ixl, ix_, llN, lNl, tlN, tNl, eNl, lNN, tNN, eNN, aNl, alN, mlN, nI_add, pk_mul, neg_lt0, if_true, if_false, if_pos, if_neg, up2, uL1, cp2, gdT, gdb_, or_true, true_or, false_or, or_false, ifb0, ifb1, eq_self, t0, t1, t2, t3, t4, o10, o01, z139a, f_X9_leaveReadyOrder_L4, e1]
set_option maxRecDepth 100000 in
set_option maxHeartbeats 2000000 in
theorem k_abandon {mc mm : sM} (h : R mc mm) (p1 : Int32) : Agr [eIO, eIS] (f_X9_abandon p1 mc) (f_X10_abandon p1 mm) := by
  rcases bad_or 3 (by decide) p1 with hb | ⟨s, hs, rfl⟩
  · refine Agr_ex (v := 0) 0 (mc' := mc) (mm' := s_up mm 110 0 1) ?_ ?_ (R_thr h) rfl (upS _ _ _ _)
    · unfold f_X9_abandon; rw [p_slotE hb, bdE_]
    · simp (disch := omega) only [md_, jn_, bd_, bdE_, ixl, ix_, llN, lNl, tlN, tNl, eNl, lNN, tNN, eNN, aNl, alN, mlN, nI_add, pk_mul, neg_lt0, if_true, if_false, if_pos, if_neg, up2, uL1, cp2, gdT, gdb_, or_true, true_or, false_or, or_false, ifb0, ifb1, eq_self, t0, t1, t2, t3, t4, o10, o01, z139a, f_X10_abandon, q_slotE hb, upS]
  obtain ⟨st, hst, e1, e2⟩ := R_st h hs
  by_cases ha : st = 0
  · subst ha
    refine Agr_ex (v := 0) 1 (mc' := mc) (mm' := s_up mm 110 0 2) ?_ ?_ (R_thr h) rfl (upS _ _ _ _)
    · unfold f_X9_abandon; rw [p_slot hs, bd_, p_nidE hs e1, bdE_]
    · simp (disch := omega) only [md_, jn_, bd_, bdE_, ixl, ix_, llN, lNl, tlN, tNl, eNl, lNN, tNN, eNN, aNl, alN, mlN, nI_add, pk_mul, neg_lt0, if_true, if_false, if_pos, if_neg, up2, uL1, cp2, gdT, gdb_, or_true, true_or, false_or, or_false, ifb0, ifb1, eq_self, t0, t1, t2, t3, t4, o10, o01, z139a, f_X10_abandon, q_slot hs, e2, upS]
  have h9 : ¬ mc.1 (54 + 10 * s) 3 = 0 := by rw [e1]; exact fun q => ha ((nI_eq (by omega) (by decide : 0 < 2 ^ 31)).mp q)
  have hm := R_thr (t := 0) h
  have g2 : (s_up mm 110 0 0).1 118 s = nI st := by rw [up1, if_neg (by omega)]; exact e2
  obtain ⟨n, o, n3, o1, o2, o3, o4, o5⟩ := hm.2.2.2.2.2.1
  have b8 : ∀ k, k < 64 → (s_up mm 110 0 0).1 120 (64 * s + k) = 0 ∨ (s_up mm 110 0 0).1 120 (64 * s + k) = 1 := fun k hk => (rSlot_c (R_sl hm hs) k hk).2.1
  by_cases hr : st = 2
  · subst hr
    obtain ⟨q, hq, hqs⟩ := o5 s hs e1
    have hne : ∀ i, i < n → i ≠ q → o i ≠ s := fun i hi hiq e => hiq (o4 i q hi hq (e.trans hqs.symm))
    let m1 : sM := s_up (x_del 84 q n mc) 0 7 (nI (n - 1))
    let mc' : sM := x_rst (54 + 10 * s) 0 m1
    let m2 : sM := x_del 126 q n (s_up (s_up mm 110 0 0) 110 19 (nI (n - 1)))
    let mm' : sM := y_idl s m2
    have c1 : ∀ b j, mc'.1 b j = if b = 54 + 10 * s ∧ j = 2 then 0 else if b = 54 + 10 * s ∧ j = 3 then 0 else if b = 0 ∧ j = 7 then nI (n - 1) else if b = 84 ∧ q ≤ j ∧ j + 1 < n then mc.1 84 (j + 1) else mc.1 b j := fun b j => by
      show (x_rst _ _ _).1 _ _ = _
      rw [rst1, up1, del1]
    have n1 : ∀ b j, mm'.1 b j = if b = 119 ∧ 64 * s ≤ j ∧ j < 64 * s + 64 then 0 else if b = 122 ∧ j = s then 0 else if b = 118 ∧ j = s then 0 else if b = 126 ∧ q ≤ j ∧ j + 1 < n then (s_up mm 110 0 0).1 126 (j + 1) else if b = 110 ∧ j = 19 then nI (n - 1) else (s_up mm 110 0 0).1 b j := fun b j => by
      show (y_idl _ _).1 _ _ = _
      have e126 : (s_up (s_up mm 110 0 0) 110 19 (nI (n - 1))).1 126 (j + 1) = (s_up mm 110 0 0).1 126 (j + 1) := by rw [up1, if_neg (by omega)]
      rw [idl1, del1, e126, up1 (s_up mm 110 0 0) 110 19]
    have f1 : ∃ q', q' < n ∧ o q' = s := ⟨q, hq, hqs⟩
    refine Agr_ok (v := nI (fb_ct (lb (mc.2 (54 + 10 * s + 1) 1)) 64)) (mc' := mc') (mm' := mm') ?_ ?_ ?_ ?_
    · unfold f_X9_abandon
      rw [p_slot hs, bd_, p_nid hs h9, bd_, ix_ _ hs (by decide), p_count, bd_, p_leave1 n3 hs o1 (fun i hi => ⟨(o3 i hi).1, (o3 i hi).2.1⟩) hq hqs hne, bd_, ix_ _ hs (by decide), p_rst, bd_]
    · have hsub : nI n - 1 = nI (n - 1) := by
        have := nI_pred (n - 1)
        rwa [Nat.sub_add_cancel (by omega)] at this
      simp (disch := omega) only [md_, jn_, bd_, bdE_, ixl, ix_, llN, lNl, tlN, tNl, eNl, lNN, tNN, eNN, aNl, alN, mlN, nI_add, pk_mul, neg_lt0, if_true, if_false, if_pos, if_neg, up2, uL1, cp2, gdT, gdb_, or_true, true_or, false_or, or_false, ifb0, ifb1, eq_self, t0, t1, t2, t3, t4, o10, o01, z139a, f_X10_abandon, q_slot hs, e2, upS, R_count hm hs, g2]
      refine lpE (fun g i (_ : Unit) => f_X10_abandon_L56 (nI s) _ _ _ g (nI i)) (fun _ _ => True) _ q ?_ ?_ q 0 () 5000 (by omega) (by omega) trivial
      · intro i _ g hi _ ih
        have := ih () trivial
        obtain ⟨w1, w2, w3, w4⟩ := o3 i (by omega)
        have w5 := hne i (by omega) (by omega)
        simp (disch := omega) only [md_, jn_, bd_, bdE_, ixl, ix_, llN, lNl, tlN, tNl, eNl, lNN, tNN, eNN, aNl, alN, mlN, nI_add, pk_mul, neg_lt0, if_true, if_false, if_pos, if_neg, up2, uL1, cp2, gdT, gdb_, or_true, true_or, false_or, or_false, ifb0, ifb1, eq_self, t0, t1, t2, t3, t4, o10, o01, z139a, f_X10_abandon_L56, w3]
        exact this
      · intro _ g _
        obtain ⟨w1, w2, w3, w4⟩ := o3 q hq
        simp (disch := omega) only [md_, jn_, bd_, bdE_, ixl, ix_, llN, lNl, tlN, tNl, eNl, lNN, tNN, eNN, aNl, alN, mlN, nI_add, pk_mul, neg_lt0, if_true, if_false, if_pos, if_neg, up2, uL1, cp2, gdT, gdb_, or_true, true_or, false_or, or_false, ifb0, ifb1, eq_self, t0, t1, t2, t3, t4, o10, o01, z139a, f_X10_abandon_L56, w3, hqs, o2, hsub]
        refine lpE (fun g i (m' : sM) => f_X10_abandon_L85 (nI s) _ _ g (nI i) m') (fun i m' => q ≤ i ∧ m' = x_del 126 q (i + 1) (s_up (s_up mm 110 0 0) 110 19 (nI (n - 1)))) _ (n - 1) ?_ ?_ (n - 1 - q) q _ 5000 (by omega) (by omega) ⟨Nat.le_refl _, (del_0 _ _ _ (by omega) _).symm⟩
        · intro i m' g hi hm' ih
          obtain ⟨hqi, hm'⟩ := hm'
          have := ih _ ⟨by omega, rfl⟩
          subst hm'
          rw [← del_s 126 q (i + 1) (by omega), Nat.add_sub_cancel] at this
          have w6 : (x_del 126 q (i + 1) (s_up (s_up mm 110 0 0) 110 19 (nI (n - 1)))).1 110 19 = nI (n - 1) := by rw [del1, if_neg (by omega)]; exact upS _ _ _ _
          have w7 : (x_del 126 q (i + 1) (s_up (s_up mm 110 0 0) 110 19 (nI (n - 1)))).1 126 (i + 1) = (s_up (s_up mm 110 0 0) 110 19 (nI (n - 1))).1 126 (i + 1) := by rw [del1, if_neg (by omega)]
          simp (disch := omega) only [md_, jn_, bd_, bdE_, ixl, ix_, llN, lNl, tlN, tNl, eNl, lNN, tNN, eNN, aNl, alN, mlN, nI_add, pk_mul, neg_lt0, if_true, if_false, if_pos, if_neg, up2, uL1, cp2, gdT, gdb_, or_true, true_or, false_or, or_false, ifb0, ifb1, eq_self, t0, t1, t2, t3, t4, o10, o01, z139a, f_X10_abandon_L85, w6, w7]
          exact this
        · intro m' g hm'
          obtain ⟨-, hm'⟩ := hm'
          subst hm'
          have w8 : n - 1 + 1 = n := by omega
          rw [w8]
          have w6 : (x_del 126 q n (s_up (s_up mm 110 0 0) 110 19 (nI (n - 1)))).1 110 19 = nI (n - 1) := by rw [del1, if_neg (by omega)]; exact upS _ _ _ _
          simp (disch := omega) only [md_, jn_, bd_, bdE_, ixl, ix_, llN, lNl, tlN, tNl, eNl, lNN, tNN, eNN, aNl, alN, mlN, nI_add, pk_mul, neg_lt0, if_true, if_false, if_pos, if_neg, up2, uL1, cp2, gdT, gdb_, or_true, true_or, false_or, or_false, ifb0, ifb1, eq_self, t0, t1, t2, t3, t4, o10, o01, z139a, f_X10_abandon_L85, w6, q_idle hs]
          rfl
    · refine R_slot2 hs hm (rst_ag (ag_up (del_ag (ag_rf _) (by intro j; omega)) (by omega)) (by omega) (by omega) (by omega) (by omega)) (idl_ag (del_ag (ag_up (ag_rf _) (by omega)) (by intro j; omega)) (by omega) (by omega) (by intro j h1 h2; omega)) ?_ ?_
      · refine ⟨n - 1, fun i => if i < q then o i else o (i + 1), by omega, ?_, ?_, fun i hi => ?_, fun i j hi hj => ?_, fun t ht h2 => ?_⟩
        · rw [c1, if_neg (by omega), if_neg (by omega), if_pos ⟨rfl, rfl⟩]
        · rw [n1, if_neg (by omega), if_neg (by omega), if_neg (by omega), if_neg (by omega), if_pos ⟨rfl, rfl⟩]
        · by_cases hiq : i < q
          · simp only [hiq, if_true]
            obtain ⟨w1, w2, w3, w4⟩ := o3 i (by omega)
            have w5 := hne i (by omega) (by omega)
            refine ⟨w1, ?_, ?_, ?_⟩
            · rw [c1, if_neg (by omega), if_neg (by omega), if_neg (by omega), if_neg (by omega)]; exact w2
            · rw [n1, if_neg (by omega), if_neg (by omega), if_neg (by omega), if_neg (by omega), if_neg (by omega)]; exact w3
            · rw [c1, if_neg (by omega), if_neg (by omega), if_neg (by omega), if_neg (by omega)]; exact w4
          · simp only [hiq, if_false]
            obtain ⟨w1, w2, w3, w4⟩ := o3 (i + 1) (by omega)
            have w5 := hne (i + 1) (by omega) (by omega)
            refine ⟨w1, ?_, ?_, ?_⟩
            · rw [c1, if_neg (by omega), if_neg (by omega), if_neg (by omega), if_pos ⟨rfl, by omega, by omega⟩]; exact w2
            · rw [n1, if_neg (by omega), if_neg (by omega), if_neg (by omega), if_pos ⟨rfl, by omega, by omega⟩]; exact w3
            · rw [c1, if_neg (by omega), if_neg (by omega), if_neg (by omega), if_neg (by omega)]; exact w4
        · by_cases hiq : i < q
          · by_cases hjq : j < q
            · simp only [hiq, hjq, if_true]; exact o4 i j (by omega) (by omega)
            · simp only [hiq, hjq, if_true, if_false]
              intro w; have := o4 i (j + 1) (by omega) (by omega) w; omega
          · by_cases hjq : j < q
            · simp only [hiq, hjq, if_true, if_false]
              intro w; have := o4 (i + 1) j (by omega) (by omega) w; omega
            · simp only [hiq, hjq, if_false]
              intro w; have := o4 (i + 1) (j + 1) (by omega) (by omega) w; omega
        · by_cases et : t = s
          · subst et
            rw [c1, if_neg (by omega), if_pos ⟨rfl, rfl⟩] at h2
            exact absurd h2 (by decide)
          · rw [c1, if_neg (by omega), if_neg (by omega), if_neg (by omega), if_neg (by omega)] at h2
            obtain ⟨i, i1, i2⟩ := o5 t ht h2
            have hiq : i ≠ q := fun e => et (by rw [← i2, e, hqs])
            by_cases hl : i < q
            · exact ⟨i, by omega, by simp only [hl, if_true]; exact i2⟩
            · have hl2 : ¬ i - 1 < q := by omega
              refine ⟨i - 1, by omega, ?_⟩
              simp only [hl2, if_false]
              rw [Nat.sub_add_cancel (by omega)]; exact i2
      · refine rSlot_mt (st := 0) (by decide) ?_ ?_ ?_ ?_ (rstT _ _ _).1 (rstT _ _ _).2 (fun k hk => ?_) (fun k hk => ?_)
        · rw [c1, if_neg (by omega), if_pos ⟨rfl, rfl⟩]; rfl
        · rw [n1, if_neg (by omega), if_neg (by omega), if_pos ⟨rfl, rfl⟩]; rfl
        · rw [c1, if_pos ⟨rfl, rfl⟩]
        · rw [n1, if_neg (by omega), if_pos ⟨rfl, rfl⟩]
        · rw [n1, if_pos (by omega)]
        · rw [n1, if_neg (by omega), if_neg (by omega), if_neg (by omega), if_neg (by omega), if_neg (by omega)]; exact b8 k hk
    · rw [n1, if_neg (by omega), if_neg (by omega), if_neg (by omega), if_neg (by omega), if_neg (by omega)]; exact upS _ _ _ _
  · have hne2 : ¬ mc.1 (54 + 10 * s) 3 = 2 := by rw [e1]; exact fun q => hr ((nI_eq (by omega) (by decide : 2 < 2 ^ 31)).mp q)
    have hne : ∀ i, i < n → o i ≠ s := fun i hi e => hne2 (by rw [← e]; exact (o3 i hi).2.2.2)
    let mc' : sM := x_rst (54 + 10 * s) 0 mc
    let mm' : sM := y_idl s (s_up mm 110 0 0)
    have c1 : ∀ b j, mc'.1 b j = if b = 54 + 10 * s ∧ j = 2 then 0 else if b = 54 + 10 * s ∧ j = 3 then 0 else mc.1 b j := fun b j => rst1 _ _ _ _ _
    have n1 : ∀ b j, mm'.1 b j = if b = 119 ∧ 64 * s ≤ j ∧ j < 64 * s + 64 then 0 else if b = 122 ∧ j = s then 0 else if b = 118 ∧ j = s then 0 else (s_up mm 110 0 0).1 b j := fun b j => idl1 _ _ _ _
    refine Agr_ok (v := nI (fb_ct (lb (mc.2 (54 + 10 * s + 1) 1)) 64)) (mc' := mc') (mm' := mm') ?_ ?_ ?_ ?_
    · unfold f_X9_abandon
      rw [p_slot hs, bd_, p_nid hs h9, bd_, ix_ _ hs (by decide), p_count, bd_, p_leave0 n3 hs o1 (fun i hi => ⟨(o3 i hi).1, (o3 i hi).2.1⟩) hne, bd_, ix_ _ hs (by decide), p_rst, bd_]
    · simp (disch := omega) only [md_, jn_, bd_, bdE_, ixl, ix_, llN, lNl, tlN, tNl, eNl, lNN, tNN, eNN, aNl, alN, mlN, nI_add, pk_mul, neg_lt0, if_true, if_false, if_pos, if_neg, up2, uL1, cp2, gdT, gdb_, or_true, true_or, false_or, or_false, ifb0, ifb1, eq_self, t0, t1, t2, t3, t4, o10, o01, z139a, f_X10_abandon, q_slot hs, e2, upS, R_count hm hs, g2, q_idle hs]
      rfl
    · refine R_slot2 hs hm (rst_ag (ag_rf _) (by omega) (by omega) (by omega) (by omega)) (idl_ag (ag_rf _) (by omega) (by omega) (by intro j h1 h2; omega)) (rOrd_st hs hm.2.2.2.2.2.1 hne2 (by rw [c1, if_neg (by omega), if_pos ⟨rfl, rfl⟩]; decide) (fun a j w w2 => by rw [c1, if_neg (by omega), if_neg (by omega)]) (idl_ag (ag_rf _) (by omega) (by omega) (by intro j h1 h2; omega))) ?_
      refine rSlot_mt (st := 0) (by decide) ?_ ?_ ?_ ?_ (rstT _ _ _).1 (rstT _ _ _).2 (fun k hk => ?_) (fun k hk => ?_)
      · rw [c1, if_neg (by omega), if_pos ⟨rfl, rfl⟩]; rfl
      · rw [n1, if_neg (by omega), if_neg (by omega), if_pos ⟨rfl, rfl⟩]; rfl
      · rw [c1, if_pos ⟨rfl, rfl⟩]
      · rw [n1, if_neg (by omega), if_pos ⟨rfl, rfl⟩]
      · rw [n1, if_pos (by omega)]
      · rw [n1, if_neg (by omega), if_neg (by omega), if_neg (by omega)]; exact b8 k hk
    · rw [n1, if_neg (by omega), if_neg (by omega), if_neg (by omega)]; exact upS _ _ _ _
