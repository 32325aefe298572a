/-! THE START: the relation of the new objects, what the tables give, the law from its entry. -/
set_option maxRecDepth 100000 in
set_option maxHeartbeats 1000000 in
theorem mc0_0 {a : Nat} (j : Nat) (h : ¬ (a = 36 ∨ a = 39 ∨ a = 42 ∨ a = 45 ∨ a = 52)) : mc0.1 a j = 0 := by
  show (if a = 52 then (fun k : Nat => if k = 0 then (-1 : Int32) else 0) else if a = 36 ∨ a = 39 ∨ a = 42 ∨ a = 45 then (fun k => if k = 5 then 2 else 0) else fun _ => 0) j = 0
  rw [if_neg (by omega), if_neg (by omega)]
set_option maxRecDepth 100000 in
set_option maxHeartbeats 1000000 in
theorem R_new0 : R (x_new mc0) (y_fmt mz0) := by
  have hs : ∀ s, s < 3 → rSlot mc0 (y_rst (y_f4 mz0)) s := fun s hs => by
    obtain ⟨d1, d2, d3⟩ := reM_at (y_f4 mz0) 3 s hs
    have hm := rstM_ag (P := fun a _ => a = 120) (ag_rf (y_f4 mz0)) (by intro a j q; omega)
    have hf := f4_ag (P := fun a _ => a = 120) (m := mz0) (by intro a j q; omega)
    refine rSlot_mt (st := 0) (by decide) (mc0_0 3 (by omega)) ?_ (mc0_0 2 (by omega)) ?_ rfl rfl (fun k hk => ?_) (fun k hk => ?_)
    · rw [y_rst, fil1, if_neg (by omega), up1, if_neg (by omega)]; exact d1
    · rw [y_rst, fil1, if_neg (by omega), up1, if_neg (by omega)]; exact d2
    · rw [y_rst, fil1, if_neg (by omega), up1, if_neg (by omega)]; exact d3 k hk
    · rw [(hm 120 _ rfl).1, (hf 120 _ rfl).1]; exact Or.inl rfl
  have hord : rOrd mc0 (y_rst (y_f4 mz0)) := by
    refine ⟨0, fun _ => 0, by decide, mc0_0 7 (by omega), ?_, fun i hi => absurd hi (Nat.not_lt_zero i), fun i j hi => absurd hi (Nat.not_lt_zero i), fun s hs h2 => ?_⟩
    · rw [y_rst, fil1, if_neg (by omega)]; exact upS _ _ _ _
    · rw [mc0_0 3 (by omega)] at h2
      exact absurd h2 (by decide)
  have hpins : rPins mc0 (y_rst (y_f4 mz0)) := fun p hp => by
    refine ⟨false, mc0_0 p (by omega), ?_, fun q => absurd q (by decide)⟩
    rw [y_rst, fil1, if_pos (by omega)]; rfl
  have ac : ∀ {P : Nat → Nat → Prop}, (∀ a j, (3 ≤ a ∧ a ≤ 37) ∨ (a = 0 ∧ j = 15) → ¬ P a j) → ag P mc0 (x_new mc0) := fun hp => new_ag (ag_rf mc0) hp
  have am : ∀ {P : Nat → Nat → Prop}, (∀ a j, (a = 110 ∧ (j = 0 ∨ j = 2 ∨ j = 3 ∨ j = 19)) ∨ (111 ≤ a ∧ a ≤ 115 ∧ (a = 112 ∨ a = 113 → j = 0) ∧ (a = 114 → j < 8) ∧ (a = 115 → j < 64)) ∨ ((a = 118 ∨ a = 122) ∧ j < 3) ∨ (a = 119 ∧ j < 192) ∨ (a = 117 ∧ j < 2) → ¬ P a j) → ag P mz0 (y_fmt mz0) := fun hp => fmt_ag (rstM_ag (f4_ag (fun a j q => hp a j (by omega))) (fun a j q => hp a j (by omega))) (fun a j q => hp a j (by omega))
  have h7 : rIn mc0 mz0 := ⟨0, by decide, mc0_0 1 (by omega), by decide +kernel, fun i hi => absurd hi (Nat.not_lt_zero i)⟩
  have h8 : rOut mc0 mz0 := ⟨0, by decide, mc0_0 2 (by omega), by decide +kernel, fun i hi => absurd hi (Nat.not_lt_zero i)⟩
  have h9 : rLog mc0 mz0 := ⟨0, by decide, mc0_0 1 (by omega), by decide +kernel, fun r w hr hw => mc0_0 w (by omega)⟩
  have h10 : rStat mc0 mz0 := fun i hi => mc0_0 i (by omega)
  have e104 : mc0.2 104 3 = 0 := rfl
  have h11 : rSalv mc0 mz0 := fun k hk => ⟨by rw [e104, lb_0]; rfl, fun q => by rw [e104, lb_0] at q; exact absurd q (by decide)⟩
  have y113 : (y_fmt mz0).1 113 0 = 2 := by
    rw [y_fmt, up1, if_neg (by omega), up1, if_neg (by omega), fil1, if_neg (by omega), fil1, if_neg (by omega), y_f5]; exact upS _ _ _ _
  have y112 : (y_fmt mz0).1 112 0 = 0 := by
    rw [y_fmt, up1, if_neg (by omega), up1, if_neg (by omega), fil1, if_neg (by omega), fil1, if_neg (by omega), y_f5, up1, if_neg (by omega)]; exact upS _ _ _ _
  have y114 : ∀ p, p < 8 → (y_fmt mz0).1 114 (8 * 0 + p) = -1 := fun p hp => by
    rw [y_fmt, up1, if_neg (by omega), up1, if_neg (by omega), fil1, if_neg (by omega), fil1, if_pos (by omega)]
  have y115 : ∀ k, k < 64 → (y_fmt mz0).1 115 (64 * 0 + k) = 0 := fun k hk => by
    rw [y_fmt, up1, if_neg (by omega), up1, if_neg (by omega), fil1, if_pos (by omega)]
  have x363 : (x_new mc0).1 36 3 = 0 := by rw [n3_36, n1_1, if_neg (by omega), if_neg (by omega), if_pos ⟨rfl, rfl⟩]
  have x364 : (x_new mc0).1 36 4 = 0 := by rw [n3_36, n1_1, if_neg (by omega), if_pos ⟨rfl, rfl⟩]
  have x365 : (x_new mc0).1 36 5 = 2 := by rw [n3_36, n1_1, if_pos ⟨rfl, rfl⟩]
  have x37 : ∀ p, p < 8 → (x_new mc0).1 37 p = -1 := fun p hp => by
    rw [n3_37, n1_1, if_neg (by omega), if_neg (by omega), if_neg (by omega), if_pos (by omega)]
  have x362 : (x_new mc0).2 36 2 = 0 := by
    show (s_uL (x_fil 37 0 8 (-1) (wiC mc0 32)) 36 2 0).2 36 2 = 0
    rw [uL2, if_pos ⟨rfl, rfl⟩]
  refine ⟨fun b c hb hc => by rw [new_dk _ hb hc, fmt_dk _ hb hc], ⟨true, ?_, ?_⟩, ⟨⟨?_, ?_, ⟨2, by decide, by decide, y113⟩, fun p hp => ⟨?_, Or.inl (y114 p hp)⟩, fun k hk => ⟨?_, fun q => ?_⟩⟩, ?_, Or.inl x364, ⟨0, by decide, x363⟩, fun p hp => ?_, fun p q hp hq _ _ => x37 p hp⟩, rPins_ag (new_ag (ag_rf _) ?_) (fmt_ag (ag_rf _) ?_) hpins, fun s hs3 => rSlot_ag (new_ag (ag_rf _) ?_) (fmt_ag (ag_rf _) ?_) (hs s hs3), rOrd_ag (fun a j q => (new_ag (P := dcOrd) (ag_rf mc0) (by intro a j q1 q2; omega) a j q).1) (fmt_ag (ag_rf _) ?_) hord, rIn_ag (ac ?_) (am ?_) h7, rOut_ag (ac ?_) (am ?_) h8, rLog_ag (ac ?_) (am ?_) h9, rStat_ag (ac ?_) (am ?_) h10, rSalv_ag (ac ?_) (am ?_) h11⟩
  · exact upS _ _ _ _
  · rw [y_fmt, up1, if_neg (by omega)]; exact upS _ _ _ _
  · rw [x363, y112]
  · rw [x365, y113]
  · rw [x37 p hp, y114 p hp]
  · rw [y115 k hk, x362, lb_0]; rfl
  · rw [x362, lb_0] at q; exact absurd q (by decide)
  · rw [x364, y_fmt]; exact (upS _ _ _ _).symm
  · rw [x37 p hp, x365]; decide
  all_goals (intro a j q; omega)
/-! both worlds and the answer row in one -/
def m_all (mX mM : sM) : sM := (fun a => if a < 109 then mX.1 a else if a = 109 then fun _ => 0 else mM.1 a, fun a => if a < 109 then mX.2 a else if a = 109 then fun _ => 0 else mM.2 a)
def ad_all (adX adM : Nat → Nat) (q : Nat) : Nat → Nat := fun a => if a < 109 then adX a else if a = 109 then q else adM a
set_option maxRecDepth 100000 in
set_option maxHeartbeats 1000000 in
theorem m_all_X (mX mM : sM) {a : Nat} (h : a < 109) : (m_all mX mM).1 a = mX.1 a ∧ (m_all mX mM).2 a = mX.2 a := ⟨if_pos h, if_pos h⟩
set_option maxRecDepth 100000 in
set_option maxHeartbeats 1000000 in
theorem m_all_M (mX mM : sM) {a : Nat} (h : 110 ≤ a) : (m_all mX mM).1 a = mM.1 a ∧ (m_all mX mM).2 a = mM.2 a :=
  ⟨(if_neg (by omega)).trans (if_neg (by omega)), (if_neg (by omega)).trans (if_neg (by omega))⟩
set_option maxRecDepth 100000 in
set_option maxHeartbeats 1000000 in
theorem R_all {mX mM : sM} (h : R mX mM) : R (m_all mX mM) (m_all mX mM) :=
  R_ag (fun a j p => ⟨by rw [(m_all_X mX mM (by omega)).1], by rw [(m_all_X mX mM (by omega)).2]⟩) (fun a j p => ⟨by rw [(m_all_M mX mM (by omega)).1], by rw [(m_all_M mX mM (by omega)).2]⟩) h
def s_cl (lo n a : Nat) : Bool := match sLay a with
  | .inl q => q.2.all fun f => decide (f.2.1 = 0) || decide (f.2.1 = 1) || (decide (lo ≤ f.2.2) && decide (f.2.2 < lo + n))
  | .inr q => match q.2.2 with
    | none => true
    | some r => (List.range q.2.1).all fun j => decide (lo ≤ r.1 + r.2 * j) && decide (r.1 + r.2 * j < lo + n)
set_option maxRecDepth 100000 in
set_option maxHeartbeats 1000000 in
theorem cl_X : ∀ a, a < 109 → s_cl 0 109 a = true := by decide +kernel
set_option maxRecDepth 100000 in
set_option maxHeartbeats 1000000 in
theorem cl_M : ∀ a, a < 29 → s_cl 110 29 (110 + a) = true := by decide +kernel
set_option maxRecDepth 100000 in
set_option maxHeartbeats 1000000 in
theorem n_sim_of {dA : Nat → ClassId} {ad ad' : Nat → Nat} {lo n : Nat} {m m' : sM} (hc : ∀ a, lo ≤ a → a < lo + n → s_cl lo n a = true) (hd : ∀ a, lo ≤ a → a < lo + n → ad a = ad' a) (h1 : ∀ a, lo ≤ a → a < lo + n → m.1 a = m'.1 a ∧ m.2 a = m'.2 a) : n_sim (s_w dA ad lo n m) (s_w dA ad' lo n m') := by
  unfold s_w
  refine n_sim_map _ (fun a ha => ?_)
  rw [List.mem_range'_1] at ha
  obtain ⟨g1, g2⟩ := ha
  have hcl := hc a g1 g2
  obtain ⟨e1, e2⟩ := h1 a g1 g2
  unfold s_cl at hcl
  generalize sLay a = k at hcl ⊢
  rw [hd a g1 g2]
  cases k with
  | inl q =>
    have hcl : (q.2.all fun f => decide (f.2.1 = 0) || decide (f.2.1 = 1) || (decide (lo ≤ f.2.2) && decide (f.2.2 < lo + n))) = true := hcl
    refine Or.inl ?_
    have e : q.2.map (s_fv ad m a) = q.2.map (s_fv ad' m' a) := List.map_congr_left (fun f hf => by
      have h9 := List.all_eq_true.mp hcl f hf
      simp only [Bool.or_eq_true, Bool.and_eq_true, decide_eq_true_eq] at h9
      unfold s_fv
      by_cases q0 : f.2.1 = 0
      · rw [if_pos q0, if_pos q0, e1]
      · rw [if_neg q0, if_neg q0]
        by_cases q1 : f.2.1 = 1
        · rw [if_pos q1, if_pos q1, e2]
        · rw [if_neg q1, if_neg q1, hd f.2.2 (by omega) (by omega)])
    exact congrArg (Prod.mk (ad' a)) (by unfold s_ent; dsimp only; rw [e])
  | inr q =>
    obtain ⟨t, len, o⟩ := q
    cases o with
    | none =>
      exact Or.inl (congrArg (Prod.mk (ad' a)) (by unfold s_ent; dsimp only; rw [e1, e2]))
    | some r =>
      have hcl : ((List.range len).all fun j => decide (lo ≤ r.1 + r.2 * j) && decide (r.1 + r.2 * j < lo + n)) = true := hcl
      refine Or.inr ⟨ad' a, dA t, (len, .inr (.inr (.inr (.inr (fun j => some (ad (r.1 + r.2 * j))))))), (len, .inr (.inr (.inr (.inr (fun j => some (ad' (r.1 + r.2 * j))))))), rfl, rfl, n_cell_q _ (fun i hi => ?_)⟩
      have h9 := List.all_eq_true.mp hcl i (List.mem_range.mpr hi)
      simp only [Bool.and_eq_true, decide_eq_true_eq] at h9
      show some (ad (r.1 + r.2 * i)) = some (ad' (r.1 + r.2 * i))
      rw [hd _ h9.1 h9.2]
/-! what the tables give at the start -/
set_option maxRecDepth 100000 in
set_option maxHeartbeats 1000000 in
theorem st_prim {args : Array Value} {s : State} {ty : FieldType} (h : (Cond.arrayClass ty).before args s = true) : ∃ c : ClassId, ArrOfT s c ty ∧ s.vm.findClass ("[" ++ ty.toString) = some c := by
  obtain ⟨c, k, comp, h1, h2, h3⟩ := Cond.arrayClass_spec h
  exact ⟨c, fun n z => ⟨fun k h => (by cases h), k, h2, comp, h3⟩, h1⟩
set_option maxRecDepth 100000 in
set_option maxHeartbeats 1000000 in
theorem st_obj {s : State} {C : String} (h : va_AO C s) : ∃ c : ClassId, ArrOfT s c (.object C) ∧ va_RA s c (.object C) := by
  obtain ⟨comp, c, k, h1, h2, h3, h4, h5⟩ := Cond.arrayOver_spec h
  exact ⟨c, fun n z => ⟨fun k h => (by cases h), k, h3, comp, h4⟩, k, comp, h3, h4, h1, h5⟩
set_option maxRecDepth 100000 in
set_option maxHeartbeats 1000000 in
theorem st_arr {s : State} {t : FieldType} (h : va_AOA t s) : ∃ c : ClassId, ArrOfT s c (.array t) ∧ va_RA s c (.array t) := by
  obtain ⟨comp, c, k, h1, h2, h3, ⟨cm, h4⟩, h5⟩ := n_AOA_spec h
  exact ⟨c, fun n z => ⟨fun k h => (by cases h), k, h3, cm, h4⟩, h5⟩
def st_T : List FieldType := [.int, .boolean, .char, .object "ShadowFile$Slot", .object "ShadowFile$Changes", .object "ShadowFile$Version", .array .int, .long]
set_option maxRecDepth 100000 in
set_option maxHeartbeats 1000000 in
theorem st_K {args : Array Value} {s : State} (hts : ∀ w ∈ wsL_law, w.before args s = true) (hE : n_E s) : ∃ (dC : Nat → ClassId) (dI : Nat → Nat → Nat) (dA : Nat → ClassId), va_K (dC, dI) vwCl (s_tys dA) s := by
  have k0 := u_known (C := RX0) (T := TX0) (N := 3) (n := 3) hts inlX0 (hts (.instantiable RX0 3) (by decide +kernel))
  have k1 := u_known (C := RX1) (T := TX1) (N := 2) (n := 2) hts inlX1 (hts (.instantiable RX1 2) (by decide +kernel))
  have k2 := u_known (C := RX2) (T := TX2) (N := 7) (n := 7) hts inlX2 (hts (.instantiable RX2 7) (by decide +kernel))
  have k3 := u_known (C := RX3) (T := TX3) (N := 2) (n := 2) hts inlX3 (hts (.instantiable RX3 2) (by decide +kernel))
  have k4 := u_known (C := RX4) (T := TX4) (N := 3) (n := 3) hts inlX4 (hts (.instantiable RX4 3) (by decide +kernel))
  have k5 := u_known (C := RX5) (T := TX5) (N := 3) (n := 3) hts inlX5 (hts (.instantiable RX5 3) (by decide +kernel))
  have k6 := u_known (C := RX6) (T := TX6) (N := 4) (n := 4) hts inlX6 (hts (.instantiable RX6 4) (by decide +kernel))
  have k7 := u_known (C := RX7) (T := TX7) (N := 4) (n := 4) hts inlX7 (hts (.instantiable RX7 4) (by decide +kernel))
  have k8 := u_known (C := RX8) (T := TX8) (N := 6) (n := 6) hts inlX8 (hts (.instantiable RX8 6) (by decide +kernel))
  have k9 := u_known (C := RX9) (T := TX9) (N := 16) (n := 16) hts inlX9 (hts (.instantiable RX9 16) (by decide +kernel))
  have k10 := u_known (C := RX10) (T := TX10) (N := 38) (n := 38) hts inlX10 (hts (.instantiable RX10 38) (by decide +kernel))
  have hKc : ∀ c : Nat, ∃ (x : ClassId), ∃ (y : Nat → Nat), ∀ q : vw_C, vwCl[c]? = some q → u_Kn s q.1 q.2.1 q.2.2 x y := by
    intro c
    rcases (show c = 0 ∨ c = 1 ∨ c = 2 ∨ c = 3 ∨ c = 4 ∨ c = 5 ∨ c = 6 ∨ c = 7 ∨ c = 8 ∨ c = 9 ∨ c = 10 ∨ 11 ≤ c by omega) with rfl | rfl | rfl | rfl | rfl | rfl | rfl | rfl | rfl | rfl | rfl | hc
    · obtain ⟨x, y, h⟩ := k0; exact ⟨x, y, fun q hq => by cases hq; exact h⟩
    · obtain ⟨x, y, h⟩ := k1; exact ⟨x, y, fun q hq => by cases hq; exact h⟩
    · obtain ⟨x, y, h⟩ := k2; exact ⟨x, y, fun q hq => by cases hq; exact h⟩
    · obtain ⟨x, y, h⟩ := k3; exact ⟨x, y, fun q hq => by cases hq; exact h⟩
    · obtain ⟨x, y, h⟩ := k4; exact ⟨x, y, fun q hq => by cases hq; exact h⟩
    · obtain ⟨x, y, h⟩ := k5; exact ⟨x, y, fun q hq => by cases hq; exact h⟩
    · obtain ⟨x, y, h⟩ := k6; exact ⟨x, y, fun q hq => by cases hq; exact h⟩
    · obtain ⟨x, y, h⟩ := k7; exact ⟨x, y, fun q hq => by cases hq; exact h⟩
    · obtain ⟨x, y, h⟩ := k8; exact ⟨x, y, fun q hq => by cases hq; exact h⟩
    · obtain ⟨x, y, h⟩ := k9; exact ⟨x, y, fun q hq => by cases hq; exact h⟩
    · obtain ⟨x, y, h⟩ := k10; exact ⟨x, y, fun q hq => by cases hq; exact h⟩
    · exact ⟨(0 : Nat), fun _ => 0, fun q hq => by rw [List.getElem?_eq_none (show vwCl.length ≤ c from hc)] at hq; cases hq⟩
  have hA : ∀ t : Nat, ∃ x : ClassId, ∀ ty : FieldType, st_T[t]? = some ty → ArrOfT s x ty ∧ va_RA s x ty := by
    intro t
    rcases (show t = 0 ∨ t = 1 ∨ t = 2 ∨ t = 3 ∨ t = 4 ∨ t = 5 ∨ t = 6 ∨ t = 7 ∨ 8 ≤ t by omega) with rfl | rfl | rfl | rfl | rfl | rfl | rfl | rfl | ht
    · obtain ⟨c, h1, h2⟩ := st_prim (hts (.arrayClass .int) (by decide +kernel)); exact ⟨c, fun ty h => by cases h; exact ⟨h1, h2⟩⟩
    · obtain ⟨c, h1, h2⟩ := st_prim (hts (.arrayClass .boolean) (by decide +kernel)); exact ⟨c, fun ty h => by cases h; exact ⟨h1, h2⟩⟩
    · obtain ⟨c, h1, h2⟩ := st_prim (hts (.arrayClass .char) (by decide +kernel)); exact ⟨c, fun ty h => by cases h; exact ⟨h1, h2⟩⟩
    · obtain ⟨c, h1, h2⟩ := st_obj hE.2.1; exact ⟨c, fun ty h => by cases h; exact ⟨h1, h2⟩⟩
    · obtain ⟨c, h1, h2⟩ := st_obj hE.1; exact ⟨c, fun ty h => by cases h; exact ⟨h1, h2⟩⟩
    · obtain ⟨c, h1, h2⟩ := st_obj hE.2.2.1; exact ⟨c, fun ty h => by cases h; exact ⟨h1, h2⟩⟩
    · obtain ⟨c, h1, h2⟩ := st_arr hE.2.2.2; exact ⟨c, fun ty h => by cases h; exact ⟨h1, h2⟩⟩
    · obtain ⟨c, h1, h2⟩ := st_prim (hts (.arrayClass .long) (by decide +kernel)); exact ⟨c, fun ty h => by cases h; exact ⟨h1, h2⟩⟩
    · exact ⟨(0 : Nat), fun ty h => by rw [List.getElem?_eq_none (show st_T.length ≤ t from ht)] at h; cases h⟩
  obtain ⟨dC, g1⟩ := Classical.skolem.mp hKc
  obtain ⟨dI, g2⟩ := Classical.skolem.mp g1
  obtain ⟨dA, g3⟩ := Classical.skolem.mp hA
  refine ⟨dC, dI, dA, g2, fun k q hq => ?_⟩
  rcases (show k = 0 ∨ k = 1 ∨ k = 2 ∨ k = 3 ∨ k = 4 ∨ k = 5 ∨ k = 6 ∨ k = 7 ∨ 8 ≤ k by omega) with rfl | rfl | rfl | rfl | rfl | rfl | rfl | rfl | ht
  · cases hq; exact g3 0 _ rfl
  · cases hq; exact g3 1 _ rfl
  · cases hq; exact g3 2 _ rfl
  · cases hq; exact g3 3 _ rfl
  · cases hq; exact g3 4 _ rfl
  · cases hq; exact g3 5 _ rfl
  · cases hq; exact g3 6 _ rfl
  · cases hq; exact g3 7 _ rfl
  · rw [List.getElem?_eq_none (show (s_tys dA).length ≤ k from ht)] at hq; cases hq
set_option maxRecDepth 100000 in
set_option maxHeartbeats 1000000 in
theorem st_nest : ∀ q ∈ s_nest, Cond.methodLinkNest q.1 q.2.1 q.2.2.1 q.2.2.2 ∈ lw_tbl := by decide +kernel
set_option maxRecDepth 100000 in
set_option maxHeartbeats 1000000 in
theorem st_text1 : ∀ q ∈ s_text, Cond.stringRef q.1 q.2.1 q.2.2 ∈ lw_tbl := by decide +kernel
set_option maxRecDepth 100000 in
set_option maxHeartbeats 1000000 in
theorem st_text2 : ∀ q ∈ s_text, Cond.exactly (.string q.1 q.2.1) "java/lang/String" ∈ flatC (Jvm.Cond.and given_1 narrow_1) := by decide +kernel
set_option maxRecDepth 100000 in
set_option maxHeartbeats 1000000 in
theorem st_cast : ∀ X ∈ s_exc, Cond.castable X X ∈ lw_tbl := by decide +kernel
set_option maxRecDepth 100000 in
set_option maxHeartbeats 1000000 in
theorem st_dec : ∀ x ∈ s_dec, Cond.declares x ∈ lw_tbl := by decide +kernel
set_option maxRecDepth 100000 in
set_option maxHeartbeats 1000000 in
theorem st_nc : ∀ X ∈ s_exc, ∀ Y ∈ s_exc, X ≠ Y → Cond.not (.castable X Y) ∈ flatC (Jvm.Cond.and given_1 narrow_1) := by decide +kernel
set_option maxRecDepth 100000 in
set_option maxHeartbeats 1000000 in
theorem st_st1 : Cond.laysStatic Bundle.tN "UNASSIGNED_STACK" Bundle.steD ∈ lw_tbl ∧ Cond.laysStatic Bundle.tN "SUPPRESSED_SENTINEL" Bundle.listD ∈ lw_tbl ∧ Cond.initialized Bundle.tN ∈ lw_tbl := by decide +kernel
set_option maxRecDepth 100000 in
set_option maxHeartbeats 1000000 in
theorem st_st2 : Cond.isRef (.static Bundle.tN "UNASSIGNED_STACK" Bundle.steD) ∈ flatC (Jvm.Cond.and given_1 narrow_1) ∧ Cond.isRef (.static Bundle.tN "SUPPRESSED_SENTINEL" Bundle.listD) ∈ flatC (Jvm.Cond.and given_1 narrow_1) := by decide +kernel
set_option maxRecDepth 100000 in
set_option maxHeartbeats 1000000 in
theorem st_E {args : Array Value} {s : State} (hts : ∀ w ∈ lw_tbl, w.before args s = true) (hs : ∀ w ∈ flatC (Jvm.Cond.and given_1 narrow_1), w.before args s = true) : s_E (fun q : Nat => s.heap.size ≤ q) s := by
  refine ⟨fun q hq => va_Nw.of rfl (hts _ (st_nest q hq)), fun q hq => ?_, fun X hX => va_Nw.of rfl (hts _ (st_cast X hX)), fun x hx => va_Nw.of rfl (hts _ (st_dec x hx)), fun X hX Y hY hne => va_Nc.of (hs _ (st_nc X hX Y hY hne)), vx_Zqof (hts _ st_st1.1) (hts _ st_st1.2.2) (hs _ st_st2.1) (fun a h => Nat.not_le.mpr h), vx_Zqof (hts _ st_st1.2.1) (hts _ st_st1.2.2) (hs _ st_st2.2) (fun a h => Nat.not_le.mpr h)⟩
  obtain ⟨a, c, cell, k, h1, -⟩ := Cond.exactly_spec (hs _ (st_text2 q hq))
  exact ⟨a, vk_R.of (hts _ (st_text1 q hq)) h1⟩
set_option maxRecDepth 100000 in
set_option maxHeartbeats 1000000 in
theorem st_NE : Cond.arrayOver (.object RX0) ∈ lw_tbl ∧ Cond.arrayOver (.object RX7) ∈ lw_tbl ∧ Cond.arrayOver (.object RX8) ∈ lw_tbl ∧ Cond.arrayOver (.array .int) ∈ lw_tbl := by decide +kernel
-- remark: THE LAW, from its entry
set_option maxRecDepth 100000 in
set_option maxHeartbeats 1000000 in
theorem whole_start {p : Program} {e : Env} {s : State} {m : MethodId} {below : List Frame} {meth : Method} {c : Code} (l : Launch) (hflags : l.flags = flags0) {b L : Nat} {xs : Nat → Int32} (hL : L ≤ 2048) (C0 : lw_At p s m meth c b L xs) : W p l e room_1 s m #[Value.ref b] below meth c s.heap [] 0 0 (lw_Z below #[Value.ref b] s) (entryFrame m ([Value.ref b] : List Value).toArray 7) := by
  obtain ⟨hx, hb, hr, hml, hown, hts0, hX, hbl, hlocks, hgv⟩ := id C0
  have hs := flat_of_before _ hgv
  have hts : ∀ w ∈ wsL_law, w.before #[Value.ref b] s = true := fun w h => hts0 w (wsL_law_in w h)
  have hst : l.stackTraces = false := by unfold Launch.stackTraces; rw [hflags]; decide +kernel
  have hNE : n_E s := ⟨va_AO.of (hts0 _ st_NE.1), va_AO.of (hts0 _ st_NE.2.1), va_AO.of (hts0 _ st_NE.2.2.1), (hts0 _ st_NE.2.2.2 : _)⟩
  obtain ⟨dC, dI, dA, hK⟩ := st_K hts hNE
  have hE : s_E (fun q : Nat => s.heap.size ≤ q) s := st_E hts0 hs
  obtain ⟨V, hV⟩ : ∃ V : nTy, V = fun cells slots pc lv st w => ∀ (H : Heap) (locs : List Loc) (ls : Array Slot), va_P (dC, dI) vwCl w H → va_D (fun q : Nat => s.heap.size ≤ q) w → va_S (fun q : Nat => s.heap.size ≤ q) s.heap H locs → lv_has ls 7 lv → W p l e room_1 s m #[Value.ref b] below meth c H locs cells slots (lw_Z below #[Value.ref b] s) (F0 m pc ls st) := ⟨_, rfl⟩
  have C : nCX RL cL_law 7 wsL_law room_1 dA false (fun _ => False) V := ⟨p, l, e, s, m, #[Value.ref b], below, meth, c, lw_Z below #[Value.ref b] s, dC, dI, fun q : Nat => s.heap.size ≤ q, hx, hb, hml, hown, hts, hst, hK, fun q h => h, hE, hNE, (fun h => by cases h), (fun w H locs ls pc _ hp => hp.elim), hV⟩
  have hgo : V 0 0 0 [(0, .ref b)] [] [] := by
    refine n_new C (ci := 9) (C' := RX9) (T := TX9) (N := 16) (fs := [.null, .null, .null, .null, .null, .null, .null, .int 0, .null, .null, .null, .null, .null, .null, .null, .int 0]) (tyf := tyX9) dL_law_0 inlX9 tyX9_ok (by decide +kernel) (by decide +kernel) (by decide +kernel) rfl (fun j hj => by rcases (show j = 0 ∨ j = 1 ∨ j = 2 ∨ j = 3 ∨ j = 4 ∨ j = 5 ∨ j = 6 ∨ j = 7 ∨ j = 8 ∨ j = 9 ∨ j = 10 ∨ j = 11 ∨ j = 12 ∨ j = 13 ∨ j = 14 ∨ j = 15 by omega) with rfl | rfl | rfl | rfl | rfl | rfl | rfl | rfl | rfl | rfl | rfl | rfl | rfl | rfl | rfl | rfl <;> rfl) (Nat.le_of_ble_eq_true rfl) (Nat.le_of_ble_eq_true rfl) (fun q0 => ?_)
    refine n_dup C dL_law_3 ?_
    refine n_callI C (host := RX9) n_X9_init dL_law_4 gL_law_X9_init (by decide +kernel) (by decide +kernel) (by decide +kernel) rfl rfl ⟨(by decide), (by decide), (by decide +kernel)⟩ ⟨(Nat.le_of_ble_eq_true rfl), (Nat.le_of_ble_eq_true rfl)⟩ (Nat.le_of_ble_eq_true rfl) (Nat.le_of_ble_eq_true rfl) (Nat.le_of_ble_eq_true rfl) (fun wX hwX => ?_)
    obtain ⟨adX, eX0, eX⟩ := hwX
    refine n_astore C (lv' := [(1, .ref q0), (0, .ref b)]) dL_law_7 rfl (by decide) rfl ?_
    refine n_new C (ci := 10) (C' := RX10) (T := TX10) (N := 38) (fs := [.int 0, .null, .int 0, .int 0, .null, .null, .null, .null, .null, .null, .null, .null, .null, .null, .null, .null, .null, .null, .null, .int 0, .null, .int 0, .null, .int 0, .null, .int 0, .null, .null, .null, .null, .null, .int 0, .int 0, .null, .null, .null, .null, .int 0]) (tyf := tyX10) dL_law_8 inlX10 tyX10_ok (by decide +kernel) (by decide +kernel) (by decide +kernel) rfl (fun j hj => by rcases (show j = 0 ∨ j = 1 ∨ j = 2 ∨ j = 3 ∨ j = 4 ∨ j = 5 ∨ j = 6 ∨ j = 7 ∨ j = 8 ∨ j = 9 ∨ j = 10 ∨ j = 11 ∨ j = 12 ∨ j = 13 ∨ j = 14 ∨ j = 15 ∨ j = 16 ∨ j = 17 ∨ j = 18 ∨ j = 19 ∨ j = 20 ∨ j = 21 ∨ j = 22 ∨ j = 23 ∨ j = 24 ∨ j = 25 ∨ j = 26 ∨ j = 27 ∨ j = 28 ∨ j = 29 ∨ j = 30 ∨ j = 31 ∨ j = 32 ∨ j = 33 ∨ j = 34 ∨ j = 35 ∨ j = 36 ∨ j = 37 by omega) with rfl | rfl | rfl | rfl | rfl | rfl | rfl | rfl | rfl | rfl | rfl | rfl | rfl | rfl | rfl | rfl | rfl | rfl | rfl | rfl | rfl | rfl | rfl | rfl | rfl | rfl | rfl | rfl | rfl | rfl | rfl | rfl | rfl | rfl | rfl | rfl | rfl | rfl <;> rfl) (Nat.le_of_ble_eq_true rfl) (Nat.le_of_ble_eq_true rfl) (fun q1 => ?_)
    refine n_dup C dL_law_11 ?_
    refine n_callI C (host := RX9) n_X10_init dL_law_12 gL_law_X10_init (by decide +kernel) (by decide +kernel) (by decide +kernel) rfl rfl ⟨(by decide), (by decide), (by decide +kernel)⟩ ⟨(Nat.le_of_ble_eq_true rfl), (Nat.le_of_ble_eq_true rfl)⟩ (Nat.le_of_ble_eq_true rfl) (Nat.le_of_ble_eq_true rfl) (Nat.le_of_ble_eq_true rfl) (fun wM hwM => ?_)
    obtain ⟨adM, eM0, eM⟩ := hwM
    refine n_astore C (lv' := [(2, .ref q1), (1, .ref q0), (0, .ref b)]) dL_law_15 rfl (by decide) rfl ?_
    refine n_iconst C (v := 1) dL_law_16 (by decide) ?_
    obtain ⟨x9, w9, e9⟩ : ∃ x9 w9, ([] ++ wX) ++ wM = x9 :: w9 := by
      cases wX with
      | nil =>
        have h9 := congrArg List.length eX
        rw [s_len] at h9
        cases h9
      | cons x9 w9 => exact ⟨x9, w9 ++ wM, rfl⟩
    refine n_perm C (x9 :: w9) (List.Perm.of_eq e9) ?_
    refine n_newa C 7 (a0 := (1, .inr (.inl (fun _ => 0)))) (N' := 1) dL_law_17 (by decide +kernel) rfl (fun _ => rfl) (fun _ => rfl) (by decide) (by decide) (by decide) (Nat.le_of_ble_eq_true rfl) (Nat.le_of_ble_eq_true rfl) (fun q2 => ?_)
    refine n_astore C (lv' := [(3, .ref q2), (2, .ref q1), (1, .ref q0), (0, .ref b)]) dL_law_19 rfl (by decide) rfl ?_
    refine n_iconst C (v := 0) dL_law_20 (by decide) ?_
    refine n_istore4 C (lv' := [(4, .int 0), (3, .ref q2), (2, .ref q1), (1, .ref q0), (0, .ref b)]) dL_law_21 (by decide) rfl ?_
    refine n_perm C (wX ++ ([(q2, .inl (dA 7, (1, .inr (.inl (fun _ => 0)))))] ++ wM)) (by
      have h9 : x9 :: (w9 ++ [(q2, .inl (dA 7, (1, .inr (.inl (fun _ => 0)))))]) = (([] ++ wX) ++ wM) ++ [(q2, .inl (dA 7, (1, .inr (.inl (fun _ => 0)))))] := by rw [e9]; rfl
      rw [h9, List.nil_append, List.append_assoc]
      exact List.Perm.append_left wX List.perm_append_comm) ?_
    have a0 : ad_all adX adM q2 0 = q0 := eX0
    have a1 : ad_all adX adM q2 110 = q1 := eM0
    have a2 : ad_all adX adM q2 109 = q2 := rfl
    refine n_simV C (w2 := s_w dA (ad_all adX adM q2) 0 139 (m_all (x_new mc0) (y_fmt mz0))) (by
      rw [eX, eM]
      exact n_sim_cat (a := 109) (b := 30) (n_sim_of (fun a h1 h2 => cl_X a (by omega)) (fun a h1 h2 => (if_pos (by omega)).symm) (fun a h1 h2 => ⟨(m_all_X _ _ (by omega)).1.symm, (m_all_X _ _ (by omega)).2.symm⟩)) (n_sim_cat (a := 1) (b := 29) (n_sim_eq rfl) (n_sim_of (lo := 110) (fun a h1 h2 => by have := cl_M (a - 110) (by omega); rwa [show 110 + (a - 110) = a by omega] at this) (fun a h1 h2 => ((if_neg (by omega)).trans (if_neg (by omega))).symm) (fun a h1 h2 => ⟨(m_all_M _ _ (by omega)).1.symm, (m_all_M _ _ (by omega)).2.symm⟩)))) ?_
    rw [hV]
    intro H locs ls hP hD hS hl
    obtain ⟨m9, hf⟩ := g_L (xs := xs) (L := L) (by omega) 513 0 (m_all (x_new mc0) (y_fmt mz0)) (R_all R_new0) (by omega) (by omega)
    have hl9 : lv_has ls 7 [(0, .ref b), (1, .ref (ad_all adX adM q2 0)), (2, .ref (ad_all adX adM q2 110)), (3, .ref (ad_all adX adM q2 109)), (4, .int (nI 0))] := by
      rw [a0, a1, a2]
      exact lv_sub hl [4, 3, 2, 1, 0] rfl
    exact c_law_L (ad := ad_all adX adM q2) (xs := xs) (L := L) (scr := b) (res := (.inl 1, m9)) ⟨p, l, e, s, m, #[Value.ref b], below, meth, c, dC, dI, dA, fun q : Nat => s.heap.size ≤ q, hx, hb, hml, hown, hts, hr, hlocks, hst, rfl, hK, hX, hbl, rfl, hE, rfl⟩ rfl 513 (nI 0) _ hf H locs ls _ _ (Nat.le_of_ble_eq_true rfl) (Nat.le_of_ble_eq_true rfl) hP hD hS hl9
  rw [hV] at hgo
  have hl := lv_entry ([.ref b]) (n := 7) (Nat.le_of_ble_eq_true rfl)
  rw [lg_entry_eq]
  exact hgo s.heap [] _ (fun k q h => by simp at h) ⟨fun i j p q h => by simp at h, fun k q h => by simp at h⟩ va_S.rf hl
