/-! PURE: readChanges, the call. -/
set_option maxRecDepth 100000 in
set_option maxHeartbeats 1000000 in
theorem q_readU (y1 : Int32) (m : sM) : f_X10_read y1 m = f_X10_read_L12 y1 eRd eOk eRd eRd eRd 5000 (nI 0) (s_up (s_up m 110 31 0) 110 32 (-1)) := by
  unfold f_X10_read
  rw [md_, md_, jn_, jn_, jn_, jn_, jn_]
  rfl
set_option maxRecDepth 100000 in
set_option maxHeartbeats 1000000 in
theorem k_readChanges {mc mm : sM} (h : R mc mm) (p1 : Int32) : Agr [eIO, eIS] (f_X9_readChanges p1 mc) (f_X10_readChanges p1 mm) := by
  obtain ⟨n, hn, i1, i2, i3⟩ := h.2.2.2.2.2.2.1
  obtain ⟨mp, t1, t2, t3⟩ := p_parse (s := mm.1 127) hn i1 i3
  have hpar : ∃ res, f_X2_parse mc = some (.inl res, mp) := by
    cases q : (prs (mm.1 127) n 61 0).2 with
    | none => exact ⟨_, (t3 q).1⟩
    | some e => exact ⟨_, t2 e q⟩
  -- the class behind its reading
  have acp : ∀ {P : Nat → Nat → Prop}, (∀ a j, (a = 85 ∧ (j = 1 ∨ j = 6)) ∨ (87 ≤ a ∧ a ≤ 90) → ¬ P a j) → ag P mc (s_up mp 85 1 0) := fun hp => ag_up (ag_mo t1 (fun a j q => ⟨fun w => hp a j (by omega) q, fun w => hp a j (by omega) q⟩)) (hp _ _ (by omega))
  have Rin : ∀ mm', ag (fun a j => dmAll a j ∧ ¬ dmIn a j) mm mm' → mm'.1 110 21 = 0 → R (s_up mp 85 1 0) mm' := fun mm' ha h21 =>
    R_in2 h (acp (by intro a j q; omega)) ha ⟨0, by decide, upS _ _ _ _, h21, fun i hi => absurd hi (Nat.not_lt_zero i)⟩
  obtain ⟨res, hres⟩ := hpar
  rcases bad_or 3 (by decide) p1 with hb | ⟨s, hs, rfl⟩
  · have u1 : ¬ (s_up mm 110 0 1).1 110 0 = 0 := by rw [upS]; exact n10
    refine Agr_ex (v := 0) 0 (mc' := s_up mp 85 1 0) (mm' := s_up (s_up mm 110 0 1) 110 21 0) ?_ ?_ (Rin _ (ag_up (ag_up (ag_rf _) (by omega)) (by omega)) (upS _ _ _ _)) rfl (by rw [up1, if_neg (by omega)]; exact upS _ _ _ _)
    · unfold f_X9_readChanges; rw [hres, bd_, md_, p_slotE hb, bdE_]
    · unfold f_X10_readChanges; rw [q_slotE hb, bd_, jn_, if_pos rfl]
      dsimp only
      rw [md_, jn_, if_neg u1]
      dsimp only
      rw [md_]
  obtain ⟨st, hst, e1, e2⟩ := R_st h hs
  have e1' : (s_up mp 85 1 0).1 (54 + 10 * s) 3 = nI st := by rw [(acp (P := fun a j => a = 54 + 10 * s) (by intro a j q; omega) _ 3 rfl).1]; exact e1
  by_cases ha : st = 1
  case neg =>
    have h9 : ¬ (s_up mp 85 1 0).1 (54 + 10 * s) 3 = 1 := by rw [e1']; exact fun q => ha ((nI_eq (by omega) (by decide : 1 < 2 ^ 31)).mp q)
    have h9' : ¬ mm.1 118 s = 1 := by rw [e2]; exact fun q => ha ((nI_eq (by omega) (by decide : 1 < 2 ^ 31)).mp q)
    have u1 : ¬ (s_up mm 110 0 2).1 110 0 = 0 := by rw [upS]; exact n20
    refine Agr_ex (v := 0) 1 (mc' := s_up mp 85 1 0) (mm' := s_up (s_up mm 110 0 2) 110 21 0) ?_ ?_ (Rin _ (ag_up (ag_up (ag_rf _) (by omega)) (by omega)) (upS _ _ _ _)) rfl (by rw [up1, if_neg (by omega)]; exact upS _ _ _ _)
    · unfold f_X9_readChanges; rw [hres, bd_, md_, p_slot hs, bd_, p_actE hs h9, bdE_]
    · unfold f_X10_readChanges; rw [q_slot hs, bd_, jn_, if_neg n10, ix_ _ hs (by decide), if_neg h9']
      dsimp only
      rw [md_, jn_, if_neg u1]
      dsimp only
      rw [md_]
  subst ha
  -- both read
  have u0 : (s_up mm 110 0 0).1 110 0 = 0 := upS _ _ _ _
  have hI1 : Inp (mm.1 127) n (s_up (s_up (s_up mm 110 0 0) 110 31 0) 110 32 (-1)) := ⟨by rw [up1, if_neg (by omega), up1, if_neg (by omega), up1, if_neg (by omega)]; exact i2, fun i _ => by rw [up1, if_neg (by omega), up1, if_neg (by omega), up1, if_neg (by omega)]⟩
  obtain ⟨m1, r1, r2, r3⟩ := q_prsA hn 61 0 _ 5000 (by omega) (by omega) hI1 (by omega)
  have hread : f_X10_read (-1) (s_up mm 110 0 0) = some (.inl (fin1 (prs (mm.1 127) n 61 0).2), m1) := (q_readU _ _).trans r1
  have a1 : ag (fun b j => ¬ (b = 110 ∧ (j = 0 ∨ j = 31 ∨ j = 32))) mm m1 := ag_tr (ag_up (ag_up (ag_up (ag_rf _) (by omega)) (by omega)) (by omega)) (ag_mo r2 (by intro a j q; omega))
  have m10 : m1.1 110 0 = 0 := by rw [(r2 110 0 (by omega)).1, up1, if_neg (by omega), up1, if_neg (by omega)]; exact u0
  have act : f_X9_requireActive (nI s) (s_up mp 85 1 0) = some (.inl (), s_up mp 85 1 0) := p_act hs e1'
  -- a fault
  have flt : ∀ e : Nat, e ≤ 60 → res = nI e → (if 0 ≤ fin1 (prs (mm.1 127) n 61 0).2 then fin1 (prs (mm.1 127) n 61 0).2 else m1.1 110 32) = nI e → Agr [eIO, eIS] (f_X9_readChanges (nI s) mc) (f_X10_readChanges (nI s) mm) := fun e he hr hf => by
    have h0 : (0 : Int32) ≤ nI e := nI_le (a := 0) (Nat.zero_le e) (by omega)
    refine Agr_ok (v := (-100) - nI e) (mc' := s_up mp 85 1 0) (mm' := s_up m1 110 21 0) ?_ ?_ (Rin _ (ag_up (ag_mo a1 (by intro a j q; omega)) (by omega)) (upS _ _ _ _)) (by rw [up1, if_neg (by omega)]; exact m10)
    · unfold f_X9_readChanges; rw [hres, bd_, md_, p_slot hs, bd_, act, bd_, hr, if_neg (nIm1 (by omega))]
    · unfold f_X10_readChanges
      rw [q_slot hs, bd_, jn_, if_neg n10, ix_ _ hs (by decide), if_pos (show mm.1 118 s = 1 from e2)]
      dsimp only
      rw [md_, jn_, if_pos u0, hread, bd_, jn_]
      by_cases q : 0 ≤ fin1 (prs (mm.1 127) n 61 0).2
      · rw [if_pos q] at hf
        rw [if_pos q]
        dsimp only
        rw [hf, if_pos h0, md_]
      · rw [if_neg q] at hf
        rw [if_neg q]
        dsimp only
        rw [hf, if_pos h0, md_]
  cases hq : (prs (mm.1 127) n 61 0).2 with
  | some e =>
    have he := prs_err 61 0 e (Nat.zero_le n) hq
    have := t2 e hq
    rw [hres] at this
    injection this with this
    injection this with this
    injection this with this
    refine flt e (by omega) this ?_
    rw [hq]
    exact if_pos (nI_le (a := 0) (Nat.zero_le e) (by omega))
  | none =>
    obtain ⟨j1, j2, j3, j4⟩ := t3 hq
    rw [hres] at j1
    injection j1 with j1
    injection j1 with j1
    injection j1 with j1
    have hkeys := prs_key 61 0 (Nat.zero_le n) (s := mm.1 127)
    have r3 := r3 hq
    have e32 : (s_up (s_up (s_up mm 110 0 0) 110 31 0) 110 32 (-1)).1 110 32 = -1 := upS _ _ _ _
    rw [e32] at r3
    by_cases hg : lkl (-1) (prs (mm.1 127) n 61 0).1 = -1
    case neg =>
      have hex : ∃ e : Nat, e ≤ 60 ∧ lkl (-1) (prs (mm.1 127) n 61 0).1 = nI e := by
        clear r3 j1 j4 j3 j2 t3 hread flt r1
        revert hkeys hg
        generalize (prs (mm.1 127) n 61 0).1 = l
        intro hkeys hg
        induction l with
        | nil => exact absurd rfl hg
        | cons x l ih =>
          have hx := (hkeys x (List.mem_cons_self ..)).1
          rw [lkl] at hg ⊢
          by_cases q : x.2.2.1 < 64
          · have e : lkn (-1) x.2.2.1 x.2.1 = -1 := by unfold lkn; rw [if_neg (by decide), if_pos q]
            rw [e] at hg ⊢
            exact ih (fun y hy => hkeys y (List.mem_cons_of_mem _ hy)) hg
          · have e : lkn (-1) x.2.2.1 x.2.1 = nI x.2.1 := by unfold lkn; rw [if_neg (by decide), if_neg q]
            rw [e, lkl_nn (nI_le (a := 0) (Nat.zero_le _) (by omega))]
            exact ⟨x.2.1, by omega, rfl⟩
      obtain ⟨e, he, hle⟩ := hex
      refine flt e he (j1.trans hle) ?_
      rw [hq, r3]
      exact (if_neg (by decide)).trans hle
    -- no fault
    have hK : K64 (prs (mm.1 127) n 61 0).1 := fun x hx => by
      obtain ⟨hxp, k, k1, k2⟩ := hkeys x hx
      have hlt := lkl_64 _ (fun y hy => by have := (hkeys y hy).1; omega) hg x hx
      rw [k2] at hlt
      refine ⟨k, ?_, k2⟩
      by_cases w : k < 64
      · exact w
      · exact absurd hlt (nI_nlt (a := k) (b := 64) (by omega) (by omega))
    have hI2 : Inp (mm.1 127) n (s_up (s_up m1 110 31 0) 110 32 (-1)) := ⟨by rw [up1, if_neg (by omega), up1, if_neg (by omega), (a1 110 21 (by omega)).1]; exact i2, fun i _ => by rw [up1, if_neg (by omega), up1, if_neg (by omega), (a1 127 i (by omega)).1]⟩
    obtain ⟨m2, w1, w2, w3⟩ := q_prsB hn hs 61 0 _ 5000 (by omega) (by omega) hI2 (by omega) hq hK
    have hread2 : f_X10_read (nI s) m1 = some (.inl (-1), m2) := (q_readU _ _).trans w1
    have w31 : m2.1 110 31 = nI (prs (mm.1 127) n 61 0).1.length := by
      rw [w3, up1, if_neg (by omega), up1, if_pos ⟨rfl, rfl⟩, Int32.zero_add]
    have hent : f_X2_enter (54 + 10 * s + 1) (s_up mp 85 1 0) = some (.inl (), apC (54 + 10 * s + 1) (prs (mm.1 127) n 61 0).1 (s_up mp 85 1 0)) := by
      unfold f_X2_enter
      rw [jn_]
      refine p_enter (by omega) _ 0 _ 5000 _ ?_ (by omega) hK (fun i x hx => ?_) (by omega)
      · rw [up1, if_neg (by omega), Nat.zero_add]; exact j2
      · obtain ⟨v1, v2, v3, v4⟩ := j4 i x hx
        rw [Nat.zero_add]
        exact ⟨by rw [up1, if_neg (by omega)]; exact v1, by rw [up1, if_neg (by omega)]; exact v2, by rw [up1, if_neg (by omega)]; exact v3, by rw [up1, if_neg (by omega)]; exact v4⟩
    have hcl : (apC (54 + 10 * s + 1) (prs (mm.1 127) n 61 0).1 (s_up mp 85 1 0)).1 85 6 = nI (prs (mm.1 127) n 61 0).1.length := by
      rw [(apC_ag (P := fun a j => a = 85 ∧ j = 6) (by omega) (by omega) (by omega) _ (ag_rf (s_up mp 85 1 0)) 85 6 ⟨rfl, rfl⟩).1, up1, if_neg (by omega)]; exact j2
    -- the reference's states
    have b1 : ag (fun b j => ¬ (b = 110 ∧ (j = 0 ∨ j = 31 ∨ j = 32))) mm (s_up (s_up m1 110 31 0) 110 32 (-1)) := ag_up (ag_up a1 (by omega)) (by omega)
    have b2 : ag (fun b j => ¬ (b = 110 ∧ (j = 0 ∨ j = 21 ∨ j = 31 ∨ j = 32))) (apM s (prs (mm.1 127) n 61 0).1 (s_up (s_up m1 110 31 0) 110 32 (-1))) (s_up m2 110 21 0) := ag_up (ag_mo w2 (by intro a j q; omega)) (by omega)
    have R0 : R (s_up mp 85 1 0) (s_up (s_up (s_up m1 110 31 0) 110 32 (-1)) 110 21 0) := Rin _ (ag_up (ag_mo b1 (by intro a j q; omega)) (by omega)) (upS _ _ _ _)
    have q0 : ag (fun b j => (b = 119 ∨ b = 120 ∨ b = 121) ∧ 64 * s ≤ j ∧ j < 64 * s + 64) (s_up (s_up (s_up m1 110 31 0) 110 32 (-1)) 110 21 0) (s_up (s_up m1 110 31 0) 110 32 (-1)) := fun b j p => ⟨by rw [up1 (s_up (s_up m1 110 31 0) 110 32 (-1)) 110 21 0 b j, if_neg (by omega)], rfl⟩
    have hrelY : rChg (s_up mp 85 1 0) (s_up (s_up m1 110 31 0) 110 32 (-1)) (54 + 10 * s + 1) 119 120 121 (64 * s) := rChg_ag (ag_rf _) q0 (rSlot_c (R_sl R0 hs))
    have hrel := ap_rel (prs (mm.1 127) n 61 0).1 hK hrelY
    refine Agr_ok (v := nI (prs (mm.1 127) n 61 0).1.length) (mc' := apC (54 + 10 * s + 1) (prs (mm.1 127) n 61 0).1 (s_up mp 85 1 0)) (mm' := s_up m2 110 21 0) ?_ ?_ ?_ ?_
    · unfold f_X9_readChanges; rw [hres, bd_, md_, p_slot hs, bd_, act, bd_, j1, if_pos hg, ix_ _ hs (by decide), hent, bd_, hcl]
    · unfold f_X10_readChanges
      rw [q_slot hs, bd_, jn_, if_neg n10, ix_ _ hs (by decide), if_pos (show mm.1 118 s = 1 from e2)]
      dsimp only
      rw [md_, jn_, if_pos u0, hread, bd_, jn_, hq, if_neg (by decide)]
      try dsimp only
      rw [r3, hg, if_neg (by decide), hread2, bd_]
      try dsimp only
      rw [md_, w31]
    · have am : ∀ {P : Nat → Nat → Prop}, (∀ b j, (119 ≤ b ∧ b ≤ 121 ∧ 64 * s ≤ j ∧ j < 64 * s + 64) ∨ (b = 110 ∧ (j = 31 ∨ j = 32)) → ¬ P b j) → ag P (s_up (s_up (s_up m1 110 31 0) 110 32 (-1)) 110 21 0) (s_up m2 110 21 0) := fun {P} hp =>
        ag_tr (ag_up2 (apM_ag (s := s) (fun b j q1 q2 q3 q4 => hp b j (by omega)) _ hK (ag_rf _))) (ag_up2 (ag_mo w2 (fun b j q w => hp b j (by omega) q)))
      have hst3 : (apC (54 + 10 * s + 1) (prs (mm.1 127) n 61 0).1 (s_up mp 85 1 0)).1 (54 + 10 * s) 3 = (s_up mp 85 1 0).1 (54 + 10 * s) 3 := (apC_ag (P := fun a j => a = 54 + 10 * s) (by omega) (by omega) (by intro j; omega) _ (ag_rf _) _ 3 rfl).1
      have hrel2 : rChg (apC (54 + 10 * s + 1) (prs (mm.1 127) n 61 0).1 (s_up mp 85 1 0)) (s_up m2 110 21 0) (54 + 10 * s + 1) 119 120 121 (64 * s) := by
        exact rChg_ag (ag_rf _) (ag_up (ag_mo w2 (by intro b j q; omega)) (by omega)) hrel
      exact R_slot hs R0 (apC_ag (by omega) (by omega) (by intro j; omega) _ (ag_rf _)) hst3 (am (by intro b j q; omega)) (rSlot_chg (R_sl R0 hs) (by rw [e1']; decide) (apC_ag (by omega) (by omega) (by intro j; omega) _ (ag_rf _)) (am (by intro b j q; omega)) hrel2)
    · rw [up1 m2 110 21 0 110 0, if_neg (by omega), (w2 110 0 (by omega)).1, (apM_ag (P := fun a j => a = 110 ∧ j = 0) (s := s) (by intro b j q1 q2; omega) _ hK (ag_rf (s_up (s_up m1 110 31 0) 110 32 (-1))) 110 0 ⟨rfl, rfl⟩).1, up1, if_neg (by omega), up1, if_neg (by omega)]
      exact m10
