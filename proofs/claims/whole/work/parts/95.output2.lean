/-! PURE: writeChanges and writeRecords. -/
set_option maxRecDepth 100000 in
set_option maxHeartbeats 1000000 in
theorem num_core {n a : Nat} {mc0 mm0 mc mm : sM} (h31 : a ≤ 2 ^ 31) (hO : Ou n mc0 mm0 mc mm) (hn : n + ndg 9 a ≤ 960) :
    ∃ mc' mm', (∀ e e2 : sM → Option (sR Unit), f_X4_appendNumber_L21 (fun (x4_61 : Int32) (m61_ : sM) => f_X4_appendNumber_L67 e 5000 (x4_61 - 1) m61_) 5000 (lN a) 0 mc = e mc') ∧ f_X10_sayDigits (nM a) mm = some (.inl (), mm') ∧ Ou (n + ndg 9 a) mc0 mm0 mc' mm' := by
  have hp : a < 10 ^ (9 + 1) := by omega
  have hle := ndg_le 9 a
  have hpos := ndg_pos 9 a
  obtain ⟨m1, b1, b2, -, b4⟩ := dg_buf 9 a 0 mc hp h31 (by decide)
  have hO1 : Ou n mc0 mm0 m1 mm := by
    obtain ⟨h1, h2, h3, h4, h5⟩ := hO
    refine ⟨ag_tr h1 (ag_mo b4 (by intro a j q; omega)), h2, ?_, h4, fun i hi => ?_⟩
    · rw [(b4 91 2 (by omega)).1]; exact h3
    · rw [(b4 92 i (by omega)).1]; exact h5 i hi
  obtain ⟨mc', mm', e1, e2, e3, -⟩ := dg_out 9 a 0 n m1 mm hp h31 (by omega) hO1 hn b2
  refine ⟨mc', mm', fun e _ => ?_, e2 1, e3⟩
  obtain ⟨f, hf⟩ : ∃ f, 5000 = f + ndg 9 a := ⟨5000 - ndg 9 a, by omega⟩
  have := b1 (fun (x4_61 : Int32) (m61_ : sM) => f_X4_appendNumber_L67 e 5000 (x4_61 - 1) m61_) f
  rw [← hf] at this
  have h2 := e1 e f
  rw [← hf] at h2
  obtain ⟨f', hf'⟩ : ∃ f', f = f' + 1 := ⟨f - 1, by omega⟩
  have hx : f_X4_appendNumber_L67 e f (nI 0 - 1) mc' = e mc' := by
    rw [hf', f_X4_appendNumber_L67, if_pos (by decide)]
  exact (this.trans h2).trans hx
set_option maxRecDepth 100000 in
set_option maxHeartbeats 1000000 in
theorem num_nn {n a : Nat} {mc0 mm0 mc mm : sM} (ha : a < 2 ^ 31) (hO : Ou n mc0 mm0 mc mm) (hn : n + ndg 9 a ≤ 960) :
    ∃ mc' mm', f_X4_appendNumber (nI a) mc = some (.inl (), mc') ∧ f_X10_sayNumber (nI a) mm = some (.inl (), mm') ∧ Ou (n + ndg 9 a) mc0 mm0 mc' mm' := by
  obtain ⟨mc', mm', e1, e2, e3⟩ := num_core (by omega) hO hn
  refine ⟨mc', mm', ?_, ?_, e3⟩
  · have hc : ¬ lg_cmp (lN a) 0 < 0 := by
      unfold lg_cmp
      by_cases q : lN a > 0
      · rw [if_pos q]; decide
      · have h0 : (0 : Int64) = lN 0 := rfl
        have : a = 0 := by
          rcases Nat.eq_zero_or_pos a with w | w
          · exact w
          · exact absurd (h0 ▸ (pk_lLT (a := 0) (b := a) (by decide) (by omega)).mpr w) q
        subst this
        decide
    unfold f_X4_appendNumber
    rw [jn_, nI_l ha, if_pos (Int32.not_lt.mp hc)]
    dsimp only
    rw [jn_]
    exact e1 (fun m89_ => some (.inl (), m89_)) (fun _ => none)
  · have hneg : -(nI a) = nM a := by
      unfold nM
      rw [Int32.ofInt_neg]
      rfl
    unfold f_X10_sayNumber
    have h0a : (0 : Int32) ≤ nI a := nI_le (a := 0) (Nat.zero_le a) ha
    rw [jn_, if_pos h0a]
    dsimp only
    rw [jn_, if_pos h0a]
    dsimp only
    rw [hneg, e2, bd_]
set_option maxRecDepth 100000 in
set_option maxHeartbeats 1000000 in
theorem num_neg {n a : Nat} {mc0 mm0 mc mm : sM} (h0 : 0 < a) (ha : a ≤ 2 ^ 31) (hO : Ou n mc0 mm0 mc mm) (hn : n + 1 + ndg 9 a ≤ 960) :
    ∃ mc' mm', f_X4_appendNumber (nM a) mc = some (.inl (), mc') ∧ f_X10_sayNumber (nM a) mm = some (.inl (), mm') ∧ Ou (n + 1 + ndg 9 a) mc0 mm0 mc' mm' := by
  have hpos := ndg_pos 9 a
  obtain ⟨mc1, mm1, p1, p2, p3, -⟩ := Ou_psh hO (by omega) 45 45 rfl
  obtain ⟨mc', mm', e1, e2, e3⟩ := num_core ha p3 hn
  have hlt : nM a < 0 := by
    rw [Int32.lt_iff_toInt_lt, nM_t ha, show (0 : Int32).toInt = 0 by decide]
    omega
  have hneg : ¬ (0 : Int32) ≤ nM a := Int32.not_le.mpr hlt
  refine ⟨mc', mm', ?_, ?_, e3⟩
  · have hlt64 : Int32.toInt64 (nM a) < 0 := by
      rw [Int64.lt_iff_toInt_lt, Int32.toInt_toInt64, nM_t ha, show (0 : Int64).toInt = 0 by decide]
      omega
    have hc : ¬ (0 : Int32) ≤ lg_cmp (Int32.toInt64 (nM a)) 0 := by
      unfold lg_cmp
      rw [if_neg, if_neg]
      · decide
      · intro w
        rw [w] at hlt64
        exact absurd hlt64 (by decide)
      · intro w
        have w2 : (0 : Int64) < Int32.toInt64 (nM a) := w
        rw [Int64.lt_iff_toInt_lt] at w2 hlt64
        omega
    have hn64 : -(Int32.toInt64 (nM a)) = lN a := by
      apply Int64.toInt_inj.mp
      rw [Int64.toInt_neg, Int32.toInt_toInt64, nM_t ha, pk_lT (by omega), Int.neg_neg]
      rw [Int.bmod_eq_of_le (by omega) (by omega)]
    unfold f_X4_appendNumber
    rw [jn_, if_neg hc, p1, bd_, hn64]
    dsimp only
    rw [jn_]
    exact e1 (fun m89_ => some (.inl (), m89_)) (fun _ => none)
  · unfold f_X10_sayNumber
    rw [jn_, if_neg hneg, p2, bd_]
    dsimp only
    rw [jn_, if_neg hneg]
    dsimp only
    rw [e2, bd_]
set_option maxRecDepth 100000 in
set_option maxHeartbeats 1000000 in
theorem num_any {n : Nat} {mc0 mm0 mc mm : sM} (x : Int32) (hO : Ou n mc0 mm0 mc mm) (hn : n + 11 ≤ 960) :
    ∃ c mc' mm', c ≤ 11 ∧ f_X4_appendNumber x mc = some (.inl (), mc') ∧ f_X10_sayNumber x mm = some (.inl (), mm') ∧ Ou (n + c) mc0 mm0 mc' mm' := by
  by_cases q : x < 0
  · have h2 := Int32.le_toInt x
    have hlt : x.toInt < 0 := by
      rw [Int32.lt_iff_toInt_lt, show (0 : Int32).toInt = 0 by decide] at q
      exact q
    obtain ⟨a, ha⟩ : ∃ a : Nat, x.toInt = -(a : Int) := ⟨(-x.toInt).toNat, by omega⟩
    have h31 : a ≤ 2 ^ 31 := by omega
    have e : x = nM a := Int32.toInt_inj.mp (by rw [nM_t h31, ha])
    have hle := ndg_le 9 a
    subst e
    obtain ⟨mc', mm', e1, e2, e3⟩ := num_neg (by omega) h31 hO (by omega)
    exact ⟨1 + ndg 9 a, mc', mm', by omega, e1, e2, by rw [← Nat.add_assoc]; exact e3⟩
  · obtain ⟨a, ha, rfl⟩ := nI_of q
    have hle := ndg_le 9 a
    obtain ⟨mc', mm', e1, e2, e3⟩ := num_nn ha hO (by omega)
    exact ⟨ndg 9 a, mc', mm', by omega, e1, e2, e3⟩
set_option maxRecDepth 100000 in
set_option maxHeartbeats 1000000 in
theorem num_key {n k : Nat} {mc0 mm0 mc mm : sM} (hk : k < 64) (hO : Ou n mc0 mm0 mc mm) (hn : n + 2 ≤ 960) :
    ∃ c mc' mm', c ≤ 2 ∧ f_X4_appendNumber (nI k) mc = some (.inl (), mc') ∧ f_X10_sayNumber (nI k) mm = some (.inl (), mm') ∧ Ou (n + c) mc0 mm0 mc' mm' := by
  have h2 : ndg 9 k ≤ 2 := by
    rw [ndg]
    by_cases q : k < 10
    · rw [if_pos q]; omega
    · rw [if_neg q, ndg, if_pos (by omega)]; omega
  obtain ⟨mc', mm', e1, e2, e3⟩ := num_nn (a := k) (by omega) hO (by omega)
  exact ⟨ndg 9 k, mc', mm', h2, e1, e2, e3⟩
set_option maxRecDepth 100000 in
set_option maxHeartbeats 1000000 in
theorem comma {n : Nat} {mc0 mm0 mc mm : sM} (hO : Ou n mc0 mm0 mc mm) (hn : n < 960) : ∃ c mc' mm', c ≤ 1 ∧ f_X4_appendComma mc = some (.inl (), mc') ∧ (∀ K : sM → Option (sR Unit), (if (mm.1 110 23) ≤ 0 then (K mm) else (s_bd (f_X10_say 44 mm) fun _ m10 => K m10)) = K mm') ∧ Ou (n + c) mc0 mm0 mc' mm' := by
  have h3 := hO.2.2.1
  have h4 := hO.2.2.2.1
  by_cases q : n = 0
  · subst q
    refine ⟨0, mc, mm, by decide, ?_, fun K => ?_, hO⟩
    · unfold f_X4_appendComma
      rw [jn_, h3, if_pos (by decide)]
    · rw [h4, if_pos (by decide)]
  · obtain ⟨mc', mm', e1, e2, e3, -⟩ := Ou_psh hO hn 44 44 rfl
    have hz : ¬ nI n ≤ 0 := by
      have := nI_ge (a := 0) (b := n) (by omega) (by omega)
      exact this
    refine ⟨1, mc', mm', by decide, ?_, fun K => ?_, e3⟩
    · unfold f_X4_appendComma
      rw [jn_, h3, if_neg hz, e1, bd_]
    · rw [h4, if_neg hz, e2, bd_]
set_option maxRecDepth 100000 in
set_option maxHeartbeats 1000000 in
theorem ent_rec {n k : Nat} {mc0 mm0 mc mm : sM} (hk : k < 64) (v : Int32) (hO : Ou n mc0 mm0 mc mm) (hn : n + 15 ≤ 960) :
    ∃ c mc' mm', c ≤ 15 ∧ f_X4_appendRecord (nI k) v mc = some (.inl (), mc') ∧ f_X10_sayEntry (nI k) 0 v mm = some (.inl (), mm') ∧ Ou (n + c) mc0 mm0 mc' mm' := by
  obtain ⟨c1, mc1, mm1, l1, a1, b1, O1⟩ := comma hO (by omega)
  obtain ⟨c2, mc2, mm2, l2, a2, b2, O2⟩ := num_key hk O1 (by omega)
  obtain ⟨mc3, mm3, a3, b3, O3, -⟩ := Ou_psh O2 (by omega) 61 61 rfl
  obtain ⟨c4, mc4, mm4, l4, a4, b4, O4⟩ := num_any v O3 (by omega)
  refine ⟨c1 + c2 + 1 + c4, mc4, mm4, by omega, ?_, ?_, ?_⟩
  · unfold f_X4_appendRecord
    rw [a1, bd_, a2, bd_, a3, bd_, a4, bd_]
  · unfold f_X10_sayEntry
    rw [jn_]
    refine (b1 _).trans ?_
    rw [jn_, if_pos rfl]
    dsimp only
    rw [b2, bd_, jn_, if_pos rfl, b3, bd_, b4, bd_]
  · rw [show n + (c1 + c2 + 1 + c4) = n + c1 + c2 + 1 + c4 by omega]; exact O4
set_option maxRecDepth 100000 in
set_option maxHeartbeats 1000000 in
theorem ent_rem {n k : Nat} {mc0 mm0 mc mm : sM} (hk : k < 64) (v : Int32) (hO : Ou n mc0 mm0 mc mm) (hn : n + 15 ≤ 960) :
    ∃ c mc' mm', c ≤ 15 ∧ f_X4_appendRemoval (nI k) mc = some (.inl (), mc') ∧ f_X10_sayEntry (nI k) 1 v mm = some (.inl (), mm') ∧ Ou (n + c) mc0 mm0 mc' mm' := by
  obtain ⟨c1, mc1, mm1, l1, a1, b1, O1⟩ := comma hO (by omega)
  obtain ⟨mc2, mm2, a2, b2, O2, -⟩ := Ou_psh O1 (by omega) 45 45 rfl
  obtain ⟨c3, mc3, mm3, l3, a3, b3, O3⟩ := num_key hk O2 (by omega)
  refine ⟨c1 + 1 + c3, mc3, mm3, by omega, ?_, ?_, ?_⟩
  · unfold f_X4_appendRemoval
    rw [a1, bd_, a2, bd_, a3, bd_]
  · unfold f_X10_sayEntry
    rw [jn_]
    refine (b1 _).trans ?_
    rw [jn_, if_neg n10, b2, bd_]
    dsimp only
    rw [b3, bd_, jn_, if_neg n10]
  · rw [show n + (c1 + 1 + c3) = n + c1 + 1 + c3 by omega]; exact O3
set_option maxRecDepth 100000 in
set_option maxHeartbeats 1000000 in
theorem R_out {mc mc' mm mm' : sM} (h : R mc mm) (hc : ag (fun a j => dcAll a j ∧ ¬ dcOut a j) mc mc') (hm : ag (fun a j => dmAll a j ∧ ¬ dmOut a j) mm mm') (ho : rOut mc' mm') : R mc' mm' := by
  obtain ⟨h1, h2, h3, h4, h5, h6, h7, h8, h9, h10, h11⟩ := h
  refine ⟨rDisk_ag (ag_mo hc ?_) (ag_mo hm ?_) h1, rOpen_ag (ag_mo hc ?_) (ag_mo hm ?_) h2, rPres_ag (ag_mo hc ?_) (ag_mo hm ?_) h3, rPins_ag (ag_mo hc ?_) (ag_mo hm ?_) h4, fun s hs => rSlot_ag (ag_mo hc ?_) (ag_mo hm ?_) (h5 s hs), rOrd_ag (fun a j q => (hc a j (by omega)).1) (ag_mo hm ?_) h6, rIn_ag (ag_mo hc ?_) (ag_mo hm ?_) h7, ho, rLog_ag (ag_mo hc ?_) (ag_mo hm ?_) h9, rStat_ag (ag_mo hc ?_) (ag_mo hm ?_) h10, rSalv_ag (ag_mo hc ?_) (ag_mo hm ?_) h11⟩ <;> (intro a j q; omega)
set_option maxRecDepth 100000 in
set_option maxHeartbeats 1000000 in
theorem Ou_0 (mc mm : sM) : Ou 0 (s_up mc 91 2 0) (s_up mm 110 23 0) (s_up mc 91 2 0) (s_up mm 110 23 0) := ⟨ag_rf _, ag_rf _, upS _ _ _ _, upS _ _ _ _, fun i hi => absurd hi (Nat.not_lt_zero i)⟩
set_option maxRecDepth 100000 in
set_option maxHeartbeats 1000000 in
theorem R_Ou {mc mm mc' mm' : sM} (h : R mc mm) {n : Nat} (hO : Ou n (s_up mc 91 2 0) (s_up mm 110 23 0) mc' mm') (hn : n ≤ 960) : R mc' mm' := by
  obtain ⟨h1, h2, h3, h4, h5⟩ := hO
  exact R_out h (ag_tr (ag_up (ag_rf _) (by omega)) (ag_mo h1 (by intro a j q; omega))) (ag_tr (ag_up (ag_rf _) (by omega)) (ag_mo h2 (by intro a j q; omega))) ⟨n, hn, h3, h4, h5⟩
set_option maxRecDepth 100000 in
set_option maxHeartbeats 1000000 in
theorem Ou_110 {mc mm mc' mm' : sM} {n : Nat} (hO : Ou n (s_up mc 91 2 0) (s_up mm 110 23 0) mc' mm') : mm'.1 110 0 = mm.1 110 0 := by
  rw [(hO.2.1 110 0 (by omega)).1, up1, if_neg (by omega)]
set_option maxRecDepth 100000 in
set_option maxHeartbeats 1000000 in
theorem k_writeChanges {mc mm : sM} (h : R mc mm) (p1 : Int32) : Agr [eIO, eIS] (f_X9_writeChanges p1 mc) (f_X10_writeChanges p1 mm) := by
  rcases bad_or 3 (by decide) p1 with hb | ⟨s, hs, rfl⟩
  · refine Agr_ex (v := 0) 0 (mc' := mc) (mm' := s_up mm 110 0 1) ?_ ?_ (R_thr h) rfl (upS _ _ _ _)
    · unfold f_X9_writeChanges; rw [p_slotE hb, bdE_]
    · simp (disch := omega) only [md_, jn_, bd_, bdE_, ixl, ix_, llN, lNl, tlN, tNl, eNl, lNN, tNN, eNN, aNl, alN, mlN, nI_add, pk_mul, neg_lt0, if_true, if_false, if_pos, if_neg, up2, uL1, cp2, gdT, gdb_, or_true, true_or, false_or, or_false, and_true, true_and, and_false, false_and, ifb0, ifb1, eq_self, t0, t1, t2, t3, t4, o10, o01, z139a, Bool.false_eq_true, f_X10_writeChanges, q_slotE hb, upS]
  obtain ⟨st, hst, e1, e2⟩ := R_st h hs
  by_cases ha : st = 0
  · subst ha
    refine Agr_ex (v := 0) 1 (mc' := mc) (mm' := s_up mm 110 0 2) ?_ ?_ (R_thr h) rfl (upS _ _ _ _)
    · unfold f_X9_writeChanges; rw [p_slot hs, bd_, p_nidE hs e1, bdE_]
    · simp (disch := omega) only [md_, jn_, bd_, bdE_, ixl, ix_, llN, lNl, tlN, tNl, eNl, lNN, tNN, eNN, aNl, alN, mlN, nI_add, pk_mul, neg_lt0, if_true, if_false, if_pos, if_neg, up2, uL1, cp2, gdT, gdb_, or_true, true_or, false_or, or_false, and_true, true_and, and_false, false_and, ifb0, ifb1, eq_self, t0, t1, t2, t3, t4, o10, o01, z139a, Bool.false_eq_true, f_X10_writeChanges, q_slot hs, e2, upS]
  have h9 : ¬ mc.1 (54 + 10 * s) 3 = 0 := by rw [e1]; exact fun q => ha ((nI_eq (by omega) (by decide : 0 < 2 ^ 31)).mp q)
  have h9' : ¬ mm.1 118 s = 0 := by rw [e2]; exact fun q => ha ((nI_eq (by omega) (by decide : 0 < 2 ^ 31)).mp q)
  have hm := R_thr (t := 0) h
  have hch := rSlot_c (R_sl hm hs)
  refine Exists.elim (lq2 (fun e g i (z : sM) => f_X9_writeChanges_L29 (54 + 10 * s + 1) e g (nI i) z) (fun e g i (y : sM) => f_X10_writeChanges_L45 (nI s) e g (nI i) y)
    (fun i z y => ∃ n, n ≤ 15 * i ∧ Ou n (s_up mc 91 2 0) (s_up (s_up mm 110 0 0) 110 23 0) z y) 64 ?_ ?_ 64 0 (s_up mc 91 2 0) (s_up (s_up mm 110 0 0) 110 23 0) 5000 rfl (by decide) ⟨0, Nat.le_refl _, Ou_0 _ _⟩) ?_
  rotate_right
  · rintro z ⟨y, ⟨n, hn, hO⟩, hz, hy⟩
    refine Agr_ok (v := nI n) (mc' := z) (mm' := y) ?_ ?_ (R_Ou hm hO (by omega)) ((Ou_110 hO).trans (upS _ _ _ _))
    · unfold f_X9_writeChanges
      rw [p_slot hs, bd_, p_nid hs h9, bd_, ix_ _ hs (by decide), md_, jn_]
      refine (hz _).trans ?_
      rw [hO.2.2.1]
    · have h8 : f_X10_writeChanges (nI s) mm = f_X10_writeChanges_L45 (nI s) (fun (m98_ : sM) => some (.inl (m98_.1 110 23), m98_)) 5000 0 (s_up (s_up mm 110 0 0) 110 23 0) := by
        simp (disch := omega) only [md_, jn_, bd_, bdE_, ixl, ix_, llN, lNl, tlN, tNl, eNl, lNN, tNN, eNN, aNl, alN, mlN, nI_add, pk_mul, neg_lt0, if_true, if_false, if_pos, if_neg, up2, uL1, cp2, gdT, gdb_, or_true, true_or, false_or, or_false, and_true, true_and, and_false, false_and, ifb0, ifb1, eq_self, t0, t1, t2, t3, t4, o10, o01, z139a, Bool.false_eq_true, f_X10_writeChanges, q_slot hs, h9', upS]
      rw [h8]
      refine (hy _).trans ?_
      rw [hO.2.2.2.1]
  · rintro i z y hi ⟨n, hn, hO⟩
    obtain ⟨c1, c2, c3, c4, c5⟩ := hch i hi
    have zT : z.2 (54 + 10 * s + 1) 1 = mc.2 (54 + 10 * s + 1) 1 := (hO.1 _ 1 (by omega)).2
    have zR : z.2 (54 + 10 * s + 1) 2 = mc.2 (54 + 10 * s + 1) 2 := (hO.1 _ 2 (by omega)).2
    have zV : z.1 (54 + 10 * s + 1 + 1) i = mc.1 (54 + 10 * s + 1 + 1) i := by rw [(hO.1 _ i (by omega)).1, up1, if_neg (by omega)]
    have y1 : y.1 119 (64 * s + i) = (s_up mm 110 0 0).1 119 (64 * s + i) := by rw [(hO.2.1 119 _ (by omega)).1, up1, if_neg (by omega)]
    have y2 : y.1 120 (64 * s + i) = (s_up mm 110 0 0).1 120 (64 * s + i) := by rw [(hO.2.1 120 _ (by omega)).1, up1, if_neg (by omega)]
    have y3 : y.1 121 (64 * s + i) = (s_up mm 110 0 0).1 121 (64 * s + i) := by rw [(hO.2.1 121 _ (by omega)).1, up1, if_neg (by omega)]
    cases hT : lb (mc.2 (54 + 10 * s + 1) 1) i
    · have hR : lb (mc.2 (54 + 10 * s + 1) 2) i = false := by
        cases q : lb (mc.2 (54 + 10 * s + 1) 2) i
        · rfl
        · rw [c3 q] at hT; exact absurd hT (by decide)
      rw [hT] at c1
      rw [c1] at y1
      refine ⟨z, y, ⟨n, by omega, hO⟩, fun e g => ?_, fun e g => ?_⟩
      · simp (disch := omega) only [md_, jn_, bd_, bdE_, ixl, ix_, llN, lNl, tlN, tNl, eNl, lNN, tNN, eNN, aNl, alN, mlN, nI_add, pk_mul, neg_lt0, if_true, if_false, if_pos, if_neg, up2, uL1, cp2, gdT, gdb_, or_true, true_or, false_or, or_false, and_true, true_and, and_false, false_and, ifb0, ifb1, eq_self, t0, t1, t2, t3, t4, o10, o01, z139a, Bool.false_eq_true, f_X9_writeChanges_L29, zT, zR, p_isIn, hT, hR, bi_f]
      · simp (disch := omega) only [md_, jn_, bd_, bdE_, ixl, ix_, llN, lNl, tlN, tNl, eNl, lNN, tNN, eNN, aNl, alN, mlN, nI_add, pk_mul, neg_lt0, if_true, if_false, if_pos, if_neg, up2, uL1, cp2, gdT, gdb_, or_true, true_or, false_or, or_false, and_true, true_and, and_false, false_and, ifb0, ifb1, eq_self, t0, t1, t2, t3, t4, o10, o01, z139a, Bool.false_eq_true, f_X10_writeChanges_L45, y1, bi_f]
    · have d4 := c4 hT
      rw [hT] at c1
      rw [c1] at y1
      cases hR : lb (mc.2 (54 + 10 * s + 1) 2) i
      · rw [hR] at d4
        rw [d4] at y2
        have d5 := c5 hT hR
        rw [← d5] at y3
        obtain ⟨c, z', y', hc, k1, k2, hO'⟩ := ent_rec hi (mc.1 (54 + 10 * s + 1 + 1) i) hO (by omega)
        refine ⟨z', y', ⟨n + c, by omega, hO'⟩, fun e g => ?_, fun e g => ?_⟩
        · simp (disch := omega) only [md_, jn_, bd_, bdE_, ixl, ix_, llN, lNl, tlN, tNl, eNl, lNN, tNN, eNN, aNl, alN, mlN, nI_add, pk_mul, neg_lt0, if_true, if_false, if_pos, if_neg, up2, uL1, cp2, gdT, gdb_, or_true, true_or, false_or, or_false, and_true, true_and, and_false, false_and, ifb0, ifb1, eq_self, t0, t1, t2, t3, t4, o10, o01, z139a, Bool.false_eq_true, f_X9_writeChanges_L29, zT, zR, zV, p_isIn, hT, hR, bi_f, bi_t, k1]
        · simp (disch := omega) only [md_, jn_, bd_, bdE_, ixl, ix_, llN, lNl, tlN, tNl, eNl, lNN, tNN, eNN, aNl, alN, mlN, nI_add, pk_mul, neg_lt0, if_true, if_false, if_pos, if_neg, up2, uL1, cp2, gdT, gdb_, or_true, true_or, false_or, or_false, and_true, true_and, and_false, false_and, ifb0, ifb1, eq_self, t0, t1, t2, t3, t4, o10, o01, z139a, Bool.false_eq_true, f_X10_writeChanges_L45, y1, y2, y3, bi_t, bi_f, k2]
      · rw [hR] at d4
        rw [d4] at y2
        obtain ⟨c, z', y', hc, k1, k2, hO'⟩ := ent_rem hi (y.1 121 (64 * s + i)) hO (by omega)
        refine ⟨z', y', ⟨n + c, by omega, hO'⟩, fun e g => ?_, fun e g => ?_⟩
        · simp (disch := omega) only [md_, jn_, bd_, bdE_, ixl, ix_, llN, lNl, tlN, tNl, eNl, lNN, tNN, eNN, aNl, alN, mlN, nI_add, pk_mul, neg_lt0, if_true, if_false, if_pos, if_neg, up2, uL1, cp2, gdT, gdb_, or_true, true_or, false_or, or_false, and_true, true_and, and_false, false_and, ifb0, ifb1, eq_self, t0, t1, t2, t3, t4, o10, o01, z139a, Bool.false_eq_true, f_X9_writeChanges_L29, zT, zR, zV, p_isIn, hT, hR, bi_f, bi_t, k1]
        · simp (disch := omega) only [md_, jn_, bd_, bdE_, ixl, ix_, llN, lNl, tlN, tNl, eNl, lNN, tNN, eNN, aNl, alN, mlN, nI_add, pk_mul, neg_lt0, if_true, if_false, if_pos, if_neg, up2, uL1, cp2, gdT, gdb_, or_true, true_or, false_or, or_false, and_true, true_and, and_false, false_and, ifb0, ifb1, eq_self, t0, t1, t2, t3, t4, o10, o01, z139a, Bool.false_eq_true, f_X10_writeChanges_L45, y1, y2, bi_t, bi_f, k2]
  · rintro z y -
    refine ⟨fun e g => ?_, fun e g => ?_⟩
    · simp (disch := omega) only [md_, jn_, bd_, bdE_, ixl, ix_, llN, lNl, tlN, tNl, eNl, lNN, tNN, eNN, aNl, alN, mlN, nI_add, pk_mul, neg_lt0, if_true, if_false, if_pos, if_neg, up2, uL1, cp2, gdT, gdb_, or_true, true_or, false_or, or_false, and_true, true_and, and_false, false_and, ifb0, ifb1, eq_self, t0, t1, t2, t3, t4, o10, o01, z139a, Bool.false_eq_true, f_X9_writeChanges_L29]
    · simp (disch := omega) only [md_, jn_, bd_, bdE_, ixl, ix_, llN, lNl, tlN, tNl, eNl, lNN, tNN, eNN, aNl, alN, mlN, nI_add, pk_mul, neg_lt0, if_true, if_false, if_pos, if_neg, up2, uL1, cp2, gdT, gdb_, or_true, true_or, false_or, or_false, and_true, true_and, and_false, false_and, ifb0, ifb1, eq_self, t0, t1, t2, t3, t4, o10, o01, z139a, Bool.false_eq_true, f_X10_writeChanges_L45]
set_option maxRecDepth 100000 in
set_option maxHeartbeats 1000000 in
theorem k_writeRecords {mc mm : sM} (h : R mc mm) : Agr [eIS] (f_X9_writeRecords mc) (f_X10_writeRecords mm) := by
  rcases R_open h with ⟨o1, o2⟩ | ⟨o1, o2⟩
  · refine Agr_ex (v := 0) 0 (mc' := mc) (mm' := s_up mm 110 0 1) ?_ ?_ (R_thr h) rfl (upS _ _ _ _)
    · unfold f_X9_writeRecords; rw [p_openE o1, bdE_]
    · simp (disch := omega) only [md_, jn_, bd_, bdE_, ixl, ix_, llN, lNl, tlN, tNl, eNl, lNN, tNN, eNN, aNl, alN, mlN, nI_add, pk_mul, neg_lt0, if_true, if_false, if_pos, if_neg, up2, uL1, cp2, gdT, gdb_, or_true, true_or, false_or, or_false, and_true, true_and, and_false, false_and, ifb0, ifb1, eq_self, t0, t1, t2, t3, t4, o10, o01, z139a, Bool.false_eq_true, f_X10_writeRecords, o2, upS]
  have hm := R_thr (t := 0) h
  refine Exists.elim (lq2 (fun e g i (z : sM) => f_X9_writeRecords_L14 e g (nI i) z) (fun e g i (y : sM) => f_X10_writeRecords_L32 e g (nI i) y)
    (fun i z y => ∃ n, n ≤ 15 * i ∧ Ou n (s_up mc 91 2 0) (s_up (s_up mm 110 0 0) 110 23 0) z y) 64 ?_ ?_ 64 0 (s_up mc 91 2 0) (s_up (s_up mm 110 0 0) 110 23 0) 5000 rfl (by decide) ⟨0, Nat.le_refl _, Ou_0 _ _⟩) ?_
  rotate_right
  · rintro z ⟨y, ⟨n, hn, hO⟩, hz, hy⟩
    refine Agr_ok (v := nI n) (mc' := z) (mm' := y) ?_ ?_ (R_Ou hm hO (by omega)) ((Ou_110 hO).trans (upS _ _ _ _))
    · unfold f_X9_writeRecords
      rw [p_open o1, bd_, md_, jn_]
      refine (hz _).trans ?_
      rw [hO.2.2.1]
    · have h8 : f_X10_writeRecords mm = f_X10_writeRecords_L32 (fun (m65_ : sM) => some (.inl (m65_.1 110 23), m65_)) 5000 0 (s_up (s_up mm 110 0 0) 110 23 0) := by
        simp (disch := omega) only [md_, jn_, bd_, bdE_, ixl, ix_, llN, lNl, tlN, tNl, eNl, lNN, tNN, eNN, aNl, alN, mlN, nI_add, pk_mul, neg_lt0, if_true, if_false, if_pos, if_neg, up2, uL1, cp2, gdT, gdb_, or_true, true_or, false_or, or_false, and_true, true_and, and_false, false_and, ifb0, ifb1, eq_self, t0, t1, t2, t3, t4, o10, o01, z139a, Bool.false_eq_true, f_X10_writeRecords, o2, upS]
      rw [h8]
      refine (hy _).trans ?_
      rw [hO.2.2.2.1]
  · rintro i z y hi ⟨n, hn, hO⟩
    obtain ⟨r1, r2⟩ := R_has hm hi
    have zK : z.2 36 2 = mc.2 36 2 := (hO.1 36 2 (by omega)).2
    have zV : z.1 38 i = mc.1 38 i := by rw [(hO.1 38 i (by omega)).1, up1, if_neg (by omega)]
    have y1 : y.1 115 i = (s_up mm 110 0 0).1 115 i := by rw [(hO.2.1 115 _ (by omega)).1, up1, if_neg (by omega)]
    have y2 : y.1 116 i = (s_up mm 110 0 0).1 116 i := by rw [(hO.2.1 116 _ (by omega)).1, up1, if_neg (by omega)]
    cases hH : lb (mc.2 36 2) i
    · rw [hH] at r1
      rw [r1] at y1
      refine ⟨z, y, ⟨n, by omega, hO⟩, fun e g => ?_, fun e g => ?_⟩
      · simp (disch := omega) only [md_, jn_, bd_, bdE_, ixl, ix_, llN, lNl, tlN, tNl, eNl, lNN, tNN, eNN, aNl, alN, mlN, nI_add, pk_mul, neg_lt0, if_true, if_false, if_pos, if_neg, up2, uL1, cp2, gdT, gdb_, or_true, true_or, false_or, or_false, and_true, true_and, and_false, false_and, ifb0, ifb1, eq_self, t0, t1, t2, t3, t4, o10, o01, z139a, Bool.false_eq_true, f_X9_writeRecords_L14, zK, p_isIn, hH, bi_f]
      · simp (disch := omega) only [md_, jn_, bd_, bdE_, ixl, ix_, llN, lNl, tlN, tNl, eNl, lNN, tNN, eNN, aNl, alN, mlN, nI_add, pk_mul, neg_lt0, if_true, if_false, if_pos, if_neg, up2, uL1, cp2, gdT, gdb_, or_true, true_or, false_or, or_false, and_true, true_and, and_false, false_and, ifb0, ifb1, eq_self, t0, t1, t2, t3, t4, o10, o01, z139a, Bool.false_eq_true, f_X10_writeRecords_L32, y1, bi_f]
    · have r3 := r2 hH
      rw [hH] at r1
      rw [r1] at y1
      rw [← r3] at y2
      obtain ⟨c, z', y', hc, k1, k2, hO'⟩ := ent_rec hi (mc.1 38 i) hO (by omega)
      refine ⟨z', y', ⟨n + c, by omega, hO'⟩, fun e g => ?_, fun e g => ?_⟩
      · simp (disch := omega) only [md_, jn_, bd_, bdE_, ixl, ix_, llN, lNl, tlN, tNl, eNl, lNN, tNN, eNN, aNl, alN, mlN, nI_add, pk_mul, neg_lt0, if_true, if_false, if_pos, if_neg, up2, uL1, cp2, gdT, gdb_, or_true, true_or, false_or, or_false, and_true, true_and, and_false, false_and, ifb0, ifb1, eq_self, t0, t1, t2, t3, t4, o10, o01, z139a, Bool.false_eq_true, f_X9_writeRecords_L14, zK, zV, p_isIn, hH, bi_t, k1]
      · simp (disch := omega) only [md_, jn_, bd_, bdE_, ixl, ix_, llN, lNl, tlN, tNl, eNl, lNN, tNN, eNN, aNl, alN, mlN, nI_add, pk_mul, neg_lt0, if_true, if_false, if_pos, if_neg, up2, uL1, cp2, gdT, gdb_, or_true, true_or, false_or, or_false, and_true, true_and, and_false, false_and, ifb0, ifb1, eq_self, t0, t1, t2, t3, t4, o10, o01, z139a, Bool.false_eq_true, f_X10_writeRecords_L32, y1, y2, bi_t, k2]
  · rintro z y -
    refine ⟨fun e g => ?_, fun e g => ?_⟩
    · simp (disch := omega) only [md_, jn_, bd_, bdE_, ixl, ix_, llN, lNl, tlN, tNl, eNl, lNN, tNN, eNN, aNl, alN, mlN, nI_add, pk_mul, neg_lt0, if_true, if_false, if_pos, if_neg, up2, uL1, cp2, gdT, gdb_, or_true, true_or, false_or, or_false, and_true, true_and, and_false, false_and, ifb0, ifb1, eq_self, t0, t1, t2, t3, t4, o10, o01, z139a, Bool.false_eq_true, f_X9_writeRecords_L14]
    · simp (disch := omega) only [md_, jn_, bd_, bdE_, ixl, ix_, llN, lNl, tlN, tNl, eNl, lNN, tNN, eNN, aNl, alN, mlN, nI_add, pk_mul, neg_lt0, if_true, if_false, if_pos, if_neg, up2, uL1, cp2, gdT, gdb_, or_true, true_or, false_or, or_false, and_true, true_and, and_false, false_and, ifb0, ifb1, eq_self, t0, t1, t2, t3, t4, o10, o01, z139a, Bool.false_eq_true, f_X10_writeRecords_L32]
