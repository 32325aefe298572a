/-! PURE: commit. -/
set_option maxRecDepth 100000 in
set_option maxHeartbeats 1000000 in
theorem ag_ss {P : Nat → Nat → Prop} {m m' : sM} {a k : Nat} {v : Int32} (h : ag P m m') : ag P (s_up m a k v) (s_up m' a k v) := fun b j p => by
  refine ⟨?_, (h b j p).2⟩
  rw [up1, up1, (h b j p).1]
set_option maxRecDepth 100000 in
set_option maxHeartbeats 1000000 in
theorem ag_z139 {P : Nat → Nat → Prop} {m m' : sM} (h : ag P m m') (hp : ∀ j, ¬ P 139 j) : ag P m (s_z139 m') := fun b j p => by
  refine ⟨?_, (h b j p).2⟩
  have : b ≠ 139 := fun e => hp j (e ▸ p)
  show (if b = 139 then fun _ => 0 else m'.1 b) j = _
  rw [if_neg this]; exact (h b j p).1
set_option maxRecDepth 100000 in
set_option maxHeartbeats 1000000 in
theorem lim_ex {p : Int32} (h : -1 ≤ p) (N : Nat) : ∃ P, Lim p P N := by
  have e1 : (-1 : Int32).toInt = -1 := by decide
  have e0 : (0 : Int32).toInt = 0 := by decide
  rw [Int32.le_iff_toInt_le, e1] at h
  rcases pk_ix p (show 2147483647 < 2 ^ 31 by decide) with q | q | ⟨j, q1, q2⟩
  · rw [Int32.lt_iff_toInt_lt, e0] at q
    exact ⟨N, Or.inl ⟨Int32.toInt_inj.mp (by rw [e1]; omega), rfl⟩⟩
  · rw [Int32.le_iff_toInt_le, nI_toInt (by omega)] at q
    have := p.toInt_lt
    exact ⟨min 2147483647 N, Or.inr ⟨2147483647, by omega, Int32.toInt_inj.mp (by rw [nI_toInt (by omega)]; omega), rfl⟩⟩
  · exact ⟨min j N, Or.inr ⟨j, by omega, q2, rfl⟩⟩
set_option maxRecDepth 100000 in
set_option maxHeartbeats 1000000 in
theorem lim_le {L : Int32} {P N : Nat} (h : Lim L P N) : P ≤ N := by
  rcases h with ⟨-, h⟩ | ⟨l, -, -, h⟩ <;> omega
set_option maxRecDepth 100000 in
set_option maxHeartbeats 1000000 in
theorem stt_cong {f g : Nat → Int32} {k i : Nat} {w q : Int32} (h : ∀ i, i < 8 → f i = g i) (hk : k < 8) (hi : i < 8) : stt f k w q i = stt g k w q i := by
  unfold stt
  rw [h 3 (by decide), h 2 (by decide), h k hk, h i hi]
set_option maxRecDepth 100000 in
set_option maxHeartbeats 1000000 in
theorem k_commit {mc mm : sM} (h : R mc mm) (p1 : Int32) : Agr [eIA, eIS, eUO] (f_X9_commit p1 mc) (f_X10_commit p1 mm) := by
  by_cases hL1 : (-1) ≤ p1
  rcases R_open h with ⟨o1, o2⟩ | ⟨o1, o2⟩
  · refine Agr_ex (v := 0) 1 (mc' := mc) (mm' := s_up mm 110 0 2) ?_ ?_ (R_thr h) rfl (upS _ _ _ _)
    · unfold f_X9_commit; rw [if_pos hL1, p_openE o1, bdE_]
    · unfold f_X10_commit
      rw [jn_, if_pos hL1, jn_, if_pos o2]
      dsimp only
      rw [md_, upS, if_neg (by decide)]
  · obtain ⟨n, o, hS, hinj, ho2, hall⟩ := R_rdy h
    by_cases hn : n = 0
    · have e1 : mc.1 0 7 = 0 := by rw [hS.2.1, hn]; rfl
      have e2 : mm.1 110 19 = 0 := by rw [hS.2.2.1, hn]; rfl
      refine Agr_ex (v := 0) 1 (mc' := mc) (mm' := s_up mm 110 0 2) ?_ ?_ (R_thr h) rfl (upS _ _ _ _)
      · unfold f_X9_commit; rw [if_pos hL1, p_open o1, bd_, if_pos e1]
      · unfold f_X10_commit
        rw [jn_, if_pos hL1, jn_, if_neg (by rw [o2]; decide), if_pos e2]
        dsimp only
        rw [md_, upS, if_neg (by decide)]
    · have n3 := hS.1
      have e1 : ¬ mc.1 0 7 = 0 := by rw [hS.2.1]; exact fun q => hn ((nI_eq (b := 0) (by omega) (by decide)).mp q)
      have e2 : ¬ mm.1 110 19 = 0 := by rw [hS.2.2.1]; exact fun q => hn ((nI_eq (b := 0) (by omega) (by decide)).mp q)
      obtain ⟨c, hc, h3⟩ := h.2.2.1.2.2.2.1
      obtain ⟨z, y1, w1, w2, w3, w4, a1, b1, zp, z3, z4, z5⟩ := prepB hS (fun k hk => R_has h hk) h3 (by omega)
      have hR1 : R mc y1 := R_ag (ag_rf _) (ag_mo b1 (by intro a j q; omega)) h
      have hRz : R z y1 := R_ag (ag_mo a1 (by intro a j q; omega)) (ag_mo b1 (by intro a j q; omega)) h
      have hf := R_mfree hR1
      have h112 : y1.1 112 0 = nI c := by rw [← hR1.2.2.1.1.1]; exact h3
      have n8 : fb_ct (wpg z) 8 ≤ 8 := fb_ct_le _ _
      have hF2 : fb_ct (fun b => fre mc b 2) 32 ≤ 32 := fb_ct_le _ _
      have q1 : nI (fb_ct (wpg z) 8) + 1 = nI (fb_ct (wpg z) 8 + 1) := nI_add _ 1
      have m3 : ¬ (s_up mm 110 0 3).1 110 0 ≤ 0 := by rw [upS]; decide
      by_cases hc2 : c < 999999
      · obtain ⟨x, hx, hb⟩ := R_zfree h (ag_mo a1 (by intro a j q; omega))
        have hct : fb_ct (lb x) 64 = fb_ct (fun b => fre mc b 2) 32 := (fb_ct_cong (fun b hb' => hb b hb')).trans (fre_ct mc)
        have hlt : mc.1 36 3 < 999999 := by rw [h3]; exact (nI_ltI (b := 999999) (by omega) (by decide)).mpr hc2
        by_cases hF : fb_ct (wpg z) 8 < fb_ct (fun b => fre mc b 2) 32
        · obtain ⟨P, hL⟩ := lim_ex hL1 (fb_ct (wpg z) 8 + 2)
          have hPN := lim_le hL
          have b1' : ag (fun a _ => a ≠ 135 ∧ a ≠ 136 ∧ a ≠ 137) (s_up mm 110 0 0) (s_up y1 110 0 0) := ag_ss b1
          have hS2 : RdyS mc (s_up y1 110 0 0) n o := RdyS_ag hS (ag_up (ag_mo b1 (by intro a j q; omega)) (by omega))
          obtain ⟨z', y, w1', -, w3', hN, -, yb, -⟩ := prepB hS2 (fun k hk => R_has (R_thr (t := 0) hR1) hk) h3 (by omega)
          have ez : z' = z := by
            rw [w1] at w1'
            injection w1' with w1'
            injection w1' with _ w1'
            exact w1'.symm
          rw [ez] at w3' hN
          obtain ⟨B, hB⟩ := bk_ex hF
          obtain ⟨z2, f2, z2a, z40, z395⟩ := p_place hx hb hB
          have hmt : R mc (s_up mm 110 0 0) := R_thr h
          obtain ⟨y0, hy0⟩ : ∃ y0, y0 = s_z139 (s_up y 110 37 (nI P)) := ⟨_, rfl⟩
          have ya := ag_tr b1' yb
          have y0a : ag (fun a k => a ≠ 139 ∧ ¬ (a = 110 ∧ k = 37)) y y0 := by rw [hy0]; exact ag_z139 (ag_up (ag_rf y) (by omega)) (by intro j; omega)
          have hd : rDisk z2 y0 := rDisk_ag (ag_tr (ag_mo a1 (by intro a j q; omega)) (ag_mo z2a (by intro a j q; omega))) (ag_tr (ag_mo ya (by intro a j q; omega)) (ag_mo y0a (by intro a j q; omega))) hmt.1
          have h37 : y0.1 110 37 = nI P := by rw [hy0, (ag_z139 (P := fun a _ => a = 110) (ag_rf (s_up y 110 37 (nI P))) (by intro j; omega) 110 37 rfl).1]; exact upS _ _ _ _
          obtain ⟨s1, xx, u, u3, u6, f3, g2, g3, g4, g5, s1a, u6a, hd6, hpw, u139⟩ := wr_all hmt hN hB hL (Nat.mod_lt _ (by decide)) (ag_mo z2a (by intro a j q; omega)) z40 z395 z3 z4 zp ya y0a hd h37 p1 (nI (fb_ct (wpg z) 8 + 2)) (if P < fb_ct (wpg z) 8 + 2 then 0 else 1)
          have cz : ag (fun a _ => a ≠ 39 ∧ a ≠ 40 ∧ a ≠ 41 ∧ a ≠ 50 ∧ a ≠ 51 ∧ a ≠ 3 ∧ ¬ (4 ≤ a ∧ a < 36) ∧ a ≠ 52) mc s1 := ag_tr (ag_mo a1 (by intro a j q; omega)) (ag_tr (ag_mo z2a (by intro a j q; omega)) (ag_mo s1a (by intro a j q; omega)))
          have zs : ag (fun a k => a = 39 ∧ k ≠ 5 ∨ a = 41 ∨ a = 50 ∨ a = 51) z s1 := ag_tr (ag_mo z2a (by intro a j q; omega)) (ag_mo s1a (by intro a j q; omega))
          have cu : ag (fun a k => a ≠ 135 ∧ a ≠ 136 ∧ a ≠ 137 ∧ a ≠ 111 ∧ a ≠ 138 ∧ a ≠ 139 ∧ ¬ (a = 110 ∧ k = 37)) (s_up mm 110 0 0) u6 := ag_tr (ag_mo ya (by intro a j q; omega)) (ag_tr (ag_mo y0a (by intro a j q; omega)) (ag_mo u6a (by intro a j q; omega)))
          have yu : ag (fun a _ => a = 135 ∨ a = 136 ∨ a = 137) y u6 := ag_tr (ag_mo y0a (by intro a j q; omega)) (ag_mo u6a (by intro a j q; omega))
          obtain ⟨lg, lg8, l1, l2, l3⟩ := hmt.2.2.2.2.2.2.2.2.1
          have hst := hmt.2.2.2.2.2.2.2.2.2.1
          have hw1 : s1.1 52 1 = nI P := by rw [hpw.2.1, Nat.min_eq_right hPN]
          have hw2 : s1.1 52 2 = if decide (P < fb_ct (wpg z) 8 + 2) = true then 1 else 0 := by
            rw [hpw.2.2.1]
            by_cases q : P < fb_ct (wpg z) 8 + 2
            · rw [if_neg (by omega), if_pos (decide_eq_true q)]; rfl
            · rw [if_pos (by omega), decide_eq_false q, if_neg (by decide)]; rfl
          have h94 : s1.1 94 1 = nI lg := by rw [(cz 94 1 (by omega)).1]; exact l1
          have h39 : s1.1 39 3 = nI (c + 1) := by rw [(zs 39 3 (by omega)).1]; exact z3
          have h7 : s1.1 0 7 = nI n := by rw [(cz 0 7 (by omega)).1]; exact hS.2.1
          obtain ⟨s, f4, sa, sl, s94, s108⟩ := cm_ec (fl := decide (P < fb_ct (wpg z) 8 + 2)) hw1 hw2 lg8 h94 h39 n3 h7 (fun i hi => ⟨(hS.2.2.2 i hi).1, by rw [(cz 84 i (by omega)).1]; exact (hS.2.2.2 i hi).2.1⟩)
          have htp : tpg s1 = tpg z := funext fun p => (wpg_ag (ag_mo zs (by intro a j q; omega)) p).1
          have hT : ∀ p, p < 8 → u6.1 135 p = bi (tpg z p) := fun p hp => by rw [(yu 135 p (by omega)).1]; exact hN.2 p hp
          have h25 : u6.1 110 25 = nI lg := by rw [(cu 110 25 (by omega)).1]; exact l2
          have h19 : u6.1 110 19 = nI n := by rw [(cu 110 19 (by omega)).1]; exact (b1' 110 19 (by omega)).1.symm.trans hS2.2.2.1
          have h0c : (0 : Int32) ≤ nI (c + 1) := (nI_leI (a := 0) (b := c + 1) (by omega) (by omega)).mpr (Nat.zero_le _)
          obtain ⟨w, f5, wa, wl, w25, w130⟩ := q_log hT lg8 h25 (if P < fb_ct (wpg z) 8 + 2 then -1 else nI (c + 1)) (nI P) (if P < fb_ct (wpg z) 8 + 2 then 1 else 0) (by
            by_cases q : P < fb_ct (wpg z) 8 + 2
            · rw [if_pos q, if_pos q, if_neg (by decide)]
            · rw [if_neg q, if_neg q, if_pos h0c])
          simp only [decide_eq_true_eq] at f4 sl s108
          have h3q : (if 0 ≤ (if P < fb_ct (wpg z) 8 + 2 then (-1 : Int32) else nI (c + 1)) then (0 : Int32) else 1) = if P < fb_ct (wpg z) 8 + 2 then 1 else 0 := by
            by_cases q : P < fb_ct (wpg z) 8 + 2
            · rw [if_pos q, if_pos q, if_neg (by decide)]
            · rw [if_neg q, if_neg q, if_pos h0c]
          rw [h3q] at w130
          have hc' : ag cmC mc s := ag_tr (ag_mo cz (by intro a j q; omega)) (ag_mo sa (by intro a j q; omega))
          have hm' : ag cmM (s_up mm 110 0 0) w := ag_tr (ag_mo cu (by intro a j q; omega)) (ag_mo wa (by intro a j q; omega))
          have hd' : rDisk s w := rDisk_ag (ag_mo sa (by intro a j q; omega)) (ag_mo wa (by intro a j q; omega)) hd6
          have hl' : rLog s w := ⟨if 8 ≤ lg then lg else lg + 1, by split <;> omega, s94, w25, fun r k hr hk => by
            rw [sl r k hr hk, wl r k hr hk, htp, h19]
            by_cases q : r = 0
            · rw [if_pos q, if_pos q]
            · rw [if_neg q, if_neg q, (cz (96 + (r - 1)) k (by omega)).1, (cu 129 _ (by omega)).1]; exact l3 (r - 1) k (by omega) hk⟩
          have hst' : rStat s w := fun i hi => by
            rw [s108 i hi, w130 i hi]
            exact stt_cong (fun j hj => by rw [(cz 108 j (by omega)).1, (cu 130 j (by omega)).1]; exact hst j hj) (by split <;> decide) hi
          have i2 : nI (1 + fb_ct (wpg z) 8) ≤ nI (fb_ct (lb x) 64) := by rw [hct]; exact (nI_leI (by omega) (by omega)).mpr (by omega)
          have w19 : w.1 110 19 = nI n := ((wa 110 19 (by omega)).1).trans h19
          have w126 : ∀ i, i < n → o i < 3 ∧ w.1 126 i = nI (o i) := fun i hi => ⟨(hS.2.2.2 i hi).1, by rw [(wa 126 i (by omega)).1, (cu 126 i (by omega)).1, up1, if_neg (by omega)]; exact (hS.2.2.2 i hi).2.2.1⟩
          have w136 : ∀ k, k < 64 → w.1 136 k = bi (lb (z.2 39 2) k) ∧ (lb (z.2 39 2) k = true → z.1 41 k = w.1 137 k) := fun k hk => by
            rw [(wa 136 k (by omega)).1, (wa 137 k (by omega)).1, (yu 136 k (by omega)).1, (yu 137 k (by omega)).1]; exact hN.1 k hk
          have w0 : w.1 110 0 = 0 := by rw [(wa 110 0 (by omega)).1, (cu 110 0 (by omega)).1]; exact upS _ _ _ _
          have y112 : y.1 112 0 = nI c := by rw [(yb 112 0 (by omega)).1, up1, if_neg (by omega)]; exact h112
          rw [hy0] at g2
          have hY := q_cmRun (F := fb_ct (fun b => fre mc b 2) 32) o2 e2 w3 hf n8 hF (by omega) h112 hc2 w3' y112 hL hL1 g2 g3 g4 rfl g5 f5 (fun i hi => by rw [(w136 i hi).1]; exact bi_01 _) n3 w19 w126
          have hX : f_X9_commit p1 mc = some (.inl (if P < fb_ct (wpg z) 8 + 2 then -1 else nI (c + 1)), if P < fb_ct (wpg z) 8 + 2 then s_up (x_end s) 0 15 0 else s_up (erC o (x_cpV 36 39 s) n) 0 7 0) := by
            unfold f_X9_commit; rw [if_pos hL1, p_open o1, bd_, if_neg e1, if_pos hlt, w1, bd_, hx, bd_, p_bits, bd_, p_dbn, bd_, if_pos i2, f2, bd_, f3, bd_, f4, bd_]
          by_cases q : P < fb_ct (wpg z) 8 + 2
          · rw [if_pos q] at hY
            rw [if_pos q, if_pos q] at hX
            refine Agr_ok hX hY (R_cmF hmt hc' hm' hd' hl' hst') ?_
            rw [up1, if_neg (by omega), (rstM_ag (P := fun a j => a = 110 ∧ j = 0) (ag_rf w) (by intro a j q; omega) 110 0 ⟨rfl, rfl⟩).1]
            exact w0
          · rw [if_neg q] at hY
            rw [if_neg q, if_neg q] at hX
            obtain ⟨B1, B2, -⟩ := hB _ (Nat.le_refl _)
            have zs' : ag (fun a k => a = 39 ∧ k ≠ 5 ∨ a = 41) z s := ag_tr (ag_mo zs (by intro a j q; omega)) (ag_mo sa (by intro a j q; omega))
            have z2s : ag (fun a k => a = 39 ∨ a = 40) z2 s := ag_tr (ag_mo s1a (by intro a j q; omega)) (ag_mo sa (by intro a j q; omega))
            refine Agr_ok hX hY (R_cmS (Q := plc z B) hmt hc' hm' hd' hl' hst' (fun i hi => (hS.2.2.2 i hi).1) ho2 hall ?_ (by omega) ?_ (Nat.mod_lt _ (by decide)) ?_ (frB_2 B2) B1 (fun q hq => ⟨?_, ?_⟩) (fun q hq => plc_isB h hB zp hq) (fun q hq => plc_tab h hB zp hq) (fun p q hp hq hpq e => plc_dis h hB zp hp hq hpq e) (fun k hk => ?_)) ?_
            · rw [(zs' 39 3 (by omega)).1]; exact z3
            · rw [(zs' 39 4 (by omega)).1]; exact z4
            · rw [(z2s 39 5 (by omega)).1]; exact z395
            · rw [(z2s 40 q (by omega)).1]; exact z40 q hq
            · rw [(wa 139 q (by omega)).1]; exact u139 q hq
            · rw [(zs' 39 2 (by omega)).2, (zs' 41 k (by omega)).1]; exact w136 k hk
            · rw [up1, if_neg (by omega), (eiM_ag (P := fun a j => a = 110 ∧ j = 0) (cm_ag (ag_rf w) (by intro a j q; omega)) n (fun i hi => ⟨by omega, by omega, fun j _ _ => by omega⟩) 110 0 ⟨rfl, rfl⟩).1]
              exact w0
        · have i1 : nI (fb_ct (fun b => fre mc b 2) 32) < nI (fb_ct (wpg z) 8 + 1) := (nI_ltI (by omega) (by omega)).mpr (by omega)
          have i2 : ¬ nI (1 + fb_ct (wpg z) 8) ≤ nI (fb_ct (lb x) 64) := by rw [hct]; exact fun q => by have := (nI_leI (by omega) (by omega)).mp q; omega
          refine Agr_ex (v := 0) 2 (mc' := z) (mm' := s_up y1 110 0 3) ?_ ?_ (R_thr hRz) rfl (upS _ _ _ _)
          · unfold f_X9_commit; rw [if_pos hL1, p_open o1, bd_, if_neg e1, if_pos hlt, w1, bd_, hx, bd_, p_bits, bd_, p_dbn, bd_, if_neg i2]
          · unfold f_X10_commit
            rw [jn_, if_pos hL1, jn_, if_neg (by rw [o2]; decide), if_neg e2, w3, bd_, hf, bd_, jn_, q1, if_pos i1]
            dsimp only
            rw [md_, upS, if_neg (by decide)]
      · have hc3 : c = 999999 := by omega
        have h9 : y1.1 112 0 = 999999 := by rw [h112, hc3]; rfl
        have hlt : ¬ mc.1 36 3 < 999999 := by rw [h3]; exact fun q => hc2 ((nI_ltI (b := 999999) (by omega) (by decide)).mp q)
        refine Agr_ex (v := 0) 2 (mc' := mc) (mm' := s_up y1 110 0 3) ?_ ?_ (R_thr hR1) rfl (upS _ _ _ _)
        · unfold f_X9_commit; rw [if_pos hL1, p_open o1, bd_, if_neg e1, if_neg hlt]
        · unfold f_X10_commit
          rw [jn_, if_pos hL1, jn_, if_neg (by rw [o2]; decide), if_neg e2, w3, bd_, hf, bd_, jn_, ixl _ (by decide) (by decide), if_pos h9]
          by_cases i1 : nI (fb_ct (fun b => fre mc b 2) 32) < nI (fb_ct (wpg z) 8) + 1
          · rw [if_pos i1]
            dsimp only
            rw [md_, upS, if_neg (by decide)]
          · rw [if_neg i1]
            dsimp only
            rw [md_, upS, if_neg (by decide)]
  · refine Agr_ex (v := 0) 0 (mc' := mc) (mm' := s_up mm 110 0 1) ?_ ?_ (R_thr h) rfl (upS _ _ _ _)
    · unfold f_X9_commit; rw [if_neg hL1]
    · unfold f_X10_commit
      rw [jn_, if_neg hL1]
      dsimp only
      rw [md_, upS, if_neg (by decide)]
