/-! PURE: format, the call. -/
set_option maxRecDepth 100000 in
set_option maxHeartbeats 1000000 in
theorem ww1 (b : Nat) (m : sM) (a j : Nat) : (x_ww b m).1 a j = if a = 4 + b ∧ j < 13 then (if j = 12 then ck (m.1 3) (nI (b + 17)) 12 else m.1 3 j) else m.1 a j := rfl
set_option maxRecDepth 100000 in
set_option maxHeartbeats 1000000 in
theorem p_ww2 (m : sM) : f_X1_writeWhole 2 m = some (.inl (), x_ww 2 m) := p_ww (b := 2) (by decide) m
set_option maxRecDepth 100000 in
set_option maxHeartbeats 1000000 in
theorem p_ww0 (m : sM) : f_X1_writeWhole 0 m = some (.inl (), x_ww 0 m) := p_ww (b := 0) (by decide) m
set_option maxRecDepth 100000 in
set_option maxHeartbeats 1000000 in
theorem q_ss0 (m : sM) : f_X10_setSum 0 m = some (.inl (), s_up m 111 (13 * 0 + 12) (ck (fun c => m.1 111 (13 * 0 + c)) (nI (0 + 17)) 12)) := q_ss (b := 0) (by decide) m
set_option maxRecDepth 100000 in
set_option maxHeartbeats 1000000 in
theorem q_ss2 (m : sM) : f_X10_setSum 2 m = some (.inl (), s_up m 111 (13 * 2 + 12) (ck (fun c => m.1 111 (13 * 2 + c)) (nI (2 + 17)) 12)) := q_ss (b := 2) (by decide) m
def x_n1 (m : sM) : sM := x_mke (wiC m 32)
def x_v2 (m : sM) : sM := x_row 3 13 (dTab ((x_n1 m).1 36 3) ((x_n1 m).1 (36 + 1))) (x_n1 m)
def x_n2 (m : sM) : sM := x_ww 2 (x_v2 m)
def x_v3 (m : sM) : sM := x_row 3 13 (dRoot ((x_n2 m).1 36 3) ((x_n2 m).1 36 5)) (x_n2 m)
def x_n3 (m : sM) : sM := x_ww 0 (x_v3 m)
def x_new (m : sM) : sM := s_up (x_n3 m) 0 15 1
set_option maxRecDepth 100000 in
set_option maxHeartbeats 1000000 in
theorem n1_1 (m : sM) (a j : Nat) : (x_n1 m).1 a j = if a = 36 ∧ j = 5 then 2 else if a = 36 ∧ j = 4 then 0 else if a = 36 ∧ j = 3 then 0 else if a = 37 ∧ 0 ≤ j ∧ j < 0 + 8 then -1 else if 4 ≤ a ∧ a < 4 + 32 ∧ j < 13 then 0 else m.1 a j := by
  rw [x_n1, mke1, wi1]
set_option maxRecDepth 100000 in
set_option maxHeartbeats 1000000 in
theorem v2_1 (m : sM) (a j : Nat) : (x_v2 m).1 a j = if a = 3 ∧ j < 13 then dTab ((x_n1 m).1 36 3) ((x_n1 m).1 (36 + 1)) j else (x_n1 m).1 a j := rfl
set_option maxRecDepth 100000 in
set_option maxHeartbeats 1000000 in
theorem v3_1 (m : sM) (a j : Nat) : (x_v3 m).1 a j = if a = 3 ∧ j < 13 then dRoot ((x_n2 m).1 36 3) ((x_n2 m).1 36 5) j else (x_n2 m).1 a j := rfl
set_option maxRecDepth 100000 in
set_option maxHeartbeats 1000000 in
theorem n2_36 (m : sM) (j : Nat) : (x_n2 m).1 36 j = (x_n1 m).1 36 j := by
  rw [x_n2, ww1, if_neg (by omega), v2_1, if_neg (by omega)]
set_option maxRecDepth 100000 in
set_option maxHeartbeats 1000000 in
theorem n2_37 (m : sM) (j : Nat) : (x_n2 m).1 37 j = (x_n1 m).1 37 j := by
  rw [x_n2, ww1, if_neg (by omega), v2_1, if_neg (by omega)]
set_option maxRecDepth 100000 in
set_option maxHeartbeats 1000000 in
theorem n3_36 (m : sM) (j : Nat) : (x_new m).1 36 j = (x_n1 m).1 36 j := by
  rw [x_new, up1, if_neg (by omega), x_n3, ww1, if_neg (by omega), v3_1, if_neg (by omega), n2_36]
set_option maxRecDepth 100000 in
set_option maxHeartbeats 1000000 in
theorem n3_37 (m : sM) (j : Nat) : (x_new m).1 37 j = (x_n1 m).1 37 j := by
  rw [x_new, up1, if_neg (by omega), x_n3, ww1, if_neg (by omega), v3_1, if_neg (by omega), n2_37]
set_option maxRecDepth 100000 in
set_option maxHeartbeats 1000000 in
theorem p_mnf (m : sM) : f_X9_makeNewFile m = some (.inl (), x_new m) := by
  unfold f_X9_makeNewFile
  rw [p_wipe, bd_, p_mke, bd_, p_dt (by omega), bd_]
  show s_bd (f_X1_writeWhole ((x_v2 m).1 36 5) (x_v2 m)) _ = _
  have e1 : (x_v2 m).1 36 5 = 2 := by rw [v2_1, if_neg (by omega), n1_1, if_pos ⟨rfl, rfl⟩]
  rw [e1, p_ww2, bd_, p_dr (by omega), bd_]
  show s_bd (f_X1_writeWhole ((x_v3 m).1 36 4) (x_v3 m)) _ = _
  have e2 : (x_v3 m).1 36 4 = 0 := by rw [v3_1, if_neg (by omega), n2_36, n1_1, if_neg (by omega), if_pos ⟨rfl, rfl⟩]
  rw [e2, p_ww0, bd_, md_]
  rfl
set_option maxRecDepth 100000 in
set_option maxHeartbeats 1000000 in
theorem new_ag {P : Nat → Nat → Prop} {m m1 : sM} (h : ag P m m1) (hp : ∀ a j, (3 ≤ a ∧ a ≤ 37) ∨ (a = 0 ∧ j = 15) → ¬ P a j) : ag P m (x_new m1) :=
  ag_up (row_ag (row_ag (row_ag (row_ag (mke_ag (wiC_ag h (fun a j h1 h2 => hp a j (by omega)) 32 (Nat.le_refl _)) (fun a j q => hp a j (by omega))) (fun j _ => hp _ _ (by omega))) (fun j _ => hp _ _ (by omega))) (fun j _ => hp _ _ (by omega))) (fun j _ => hp _ _ (by omega))) (hp _ _ (by omega))
def ndk (b c : Nat) : Int32 := if b = 0 then (if c = 12 then ck (dRoot 0 2) (nI (0 + 17)) 12 else dRoot 0 2 c) else if b = 2 then (if c = 12 then ck (dTab 0 (fun _ => -1)) (nI (2 + 17)) 12 else dTab 0 (fun _ => -1) c) else 0
set_option maxRecDepth 100000 in
set_option maxHeartbeats 1000000 in
theorem new_dk (m : sM) {b c : Nat} (hb : b < 32) (hc : c < 13) : (x_new m).1 (4 + b) c = ndk b c := by
  have t3 : ∀ j, j < 13 → (x_v2 m).1 3 j = dTab 0 (fun _ => -1) j := fun j hj => by
    have e1 : (x_n1 m).1 36 3 = 0 := by rw [n1_1, if_neg (by omega), if_neg (by omega), if_pos ⟨rfl, rfl⟩]
    rw [v2_1, if_pos ⟨rfl, hj⟩, e1]
    unfold dTab
    by_cases q : 4 ≤ j ∧ j < 12
    · rw [if_neg (by omega), if_neg (by omega), if_pos q, if_neg (by omega), if_neg (by omega), if_pos q, n1_1, if_neg (by omega), if_neg (by omega), if_neg (by omega), if_pos (by omega)]
    · rw [if_neg q, if_neg q]
  have r3 : ∀ j, j < 13 → (x_v3 m).1 3 j = dRoot 0 2 j := fun j hj => by
    have e1 : (x_n2 m).1 36 3 = 0 := by rw [n2_36, n1_1, if_neg (by omega), if_neg (by omega), if_pos ⟨rfl, rfl⟩]
    have e2 : (x_n2 m).1 36 5 = 2 := by rw [n2_36, n1_1, if_pos ⟨rfl, rfl⟩]
    rw [v3_1, if_pos ⟨rfl, hj⟩, e1, e2]
  have k3 : ck ((x_v3 m).1 3) (nI (0 + 17)) 12 = ck (dRoot 0 2) (nI (0 + 17)) 12 := ck_cong fun c hc => r3 c (by omega)
  have k2 : ck ((x_v2 m).1 3) (nI (2 + 17)) 12 = ck (dTab 0 (fun _ => -1)) (nI (2 + 17)) 12 := ck_cong fun c hc => t3 c (by omega)
  have e0 : (x_n1 m).1 (4 + b) c = 0 := by rw [n1_1, if_neg (by omega), if_neg (by omega), if_neg (by omega), if_neg (by omega), if_pos (by omega)]
  rw [x_new, up1, if_neg (by omega), x_n3, ww1, k3, r3 c hc, v3_1, if_neg (show ¬ (4 + b = 3 ∧ c < 13) by omega), x_n2, ww1, k2, t3 c hc, v2_1, if_neg (show ¬ (4 + b = 3 ∧ c < 13) by omega), e0]
  unfold ndk
  by_cases q0 : b = 0
  · rw [if_pos (by omega), if_pos q0]
  · rw [if_neg (by omega), if_neg q0]
    by_cases q2 : b = 2
    · rw [if_pos (by omega), if_pos q2]
    · rw [if_neg (by omega), if_neg q2]
def y_f1 (m : sM) : sM := s_up (s_up (x_fil 111 0 416 0 (s_up m 110 0 0)) 111 0 1) 111 2 2
def y_f2 (m : sM) : sM := s_up (s_up (y_f1 m) 111 (13 * 0 + 12) (ck (fun c => (y_f1 m).1 111 (13 * 0 + c)) (nI (0 + 17)) 12)) 111 26 2
def y_f3 (m : sM) : sM := x_fil 111 30 8 (-1) (y_f2 m)
def y_f4 (m : sM) : sM := s_up (y_f3 m) 111 (13 * 2 + 12) (ck (fun c => (y_f3 m).1 111 (13 * 2 + c)) (nI (2 + 17)) 12)
def y_f5 (m : sM) : sM := s_up (s_up (y_rst (y_f4 m)) 112 0 0) 113 0 2
def y_fmt (m : sM) : sM := s_up (s_up (x_fil 115 0 64 0 (x_fil 114 0 8 (-1) (y_f5 m))) 110 2 1) 110 3 0
set_option maxRecDepth 100000 in
set_option maxHeartbeats 1000000 in
theorem q_format {mm : sM} : f_X10_format mm = some (.inl (if mm.1 110 2 = 0 then -1 else mm.1 112 0), y_fmt mm) := by
  unfold f_X10_format
  have e3 : (s_up mm 110 0 0).1 110 2 = mm.1 110 2 := by rw [up1, if_neg (by omega)]
  have e4 : (s_up mm 110 0 0).1 112 0 = mm.1 112 0 := by rw [up1, if_neg (by omega)]
  rw [md_, jn_, e3]
  by_cases q : mm.1 110 2 = 0
  · rw [if_pos q, if_pos q]
    dsimp only
    rw [jn_, q_fmt1, ixl _ (by decide) (by decide), md_, ixl _ (by decide) (by decide), md_, q_ss0, bd_, ixl _ (by decide) (by decide), md_, jn_, q_fmt2, q_ss2, bd_, q_rst, bd_, ixl _ (by decide) (by decide), md_, ixl _ (by decide) (by decide), md_, jn_, q_fmt3, jn_, q_fmt4, md_, md_]
    rfl
  · rw [if_neg q, if_neg q, ixl _ (by decide) (by decide), e4]
    dsimp only
    rw [jn_, q_fmt1, ixl _ (by decide) (by decide), md_, ixl _ (by decide) (by decide), md_, q_ss0, bd_, ixl _ (by decide) (by decide), md_, jn_, q_fmt2, q_ss2, bd_, q_rst, bd_, ixl _ (by decide) (by decide), md_, ixl _ (by decide) (by decide), md_, jn_, q_fmt3, jn_, q_fmt4, md_, md_]
    rfl
set_option maxRecDepth 100000 in
set_option maxHeartbeats 1000000 in
theorem f4_ag {P : Nat → Nat → Prop} {m : sM} (hp : ∀ a j, (a = 110 ∧ j = 0) ∨ a = 111 → ¬ P a j) : ag P m (y_f4 m) :=
  ag_up (fil_ag (ag_up (ag_up (ag_up (ag_up (fil_ag (ag_up (ag_rf m) (hp _ _ (by omega))) (fun j _ _ => hp _ _ (by omega))) (hp _ _ (by omega))) (hp _ _ (by omega))) (hp _ _ (by omega))) (hp _ _ (by omega))) (fun j _ _ => hp _ _ (by omega))) (hp _ _ (by omega))
set_option maxRecDepth 100000 in
set_option maxHeartbeats 1000000 in
theorem fmt_ag {P : Nat → Nat → Prop} {m m0 : sM} (h : ag P m0 (y_rst (y_f4 m))) (hp : ∀ a j, (a = 110 ∧ (j = 2 ∨ j = 3)) ∨ (a = 112 ∧ j = 0) ∨ (a = 113 ∧ j = 0) ∨ (a = 114 ∧ j < 8) ∨ (a = 115 ∧ j < 64) → ¬ P a j) : ag P m0 (y_fmt m) :=
  ag_up (ag_up (fil_ag (fil_ag (ag_up (ag_up h (hp _ _ (by omega))) (hp _ _ (by omega))) (fun j _ _ => hp _ _ (by omega))) (fun j _ _ => hp _ _ (by omega))) (hp _ _ (by omega))) (hp _ _ (by omega))
set_option maxRecDepth 100000 in
set_option maxHeartbeats 1000000 in
theorem f1_111 (m : sM) (j : Nat) : (y_f1 m).1 111 j = if j = 2 then 2 else if j = 0 then 1 else if j < 416 then 0 else m.1 111 j := by
  simp only [y_f1, up1, fil1, true_and, Nat.zero_le, Nat.zero_add]
  (repeat' split) <;> first | rfl | (exfalso; omega) | (simp only [Nat.zero_add, Nat.sub_zero]; done) | (simp only [Nat.zero_add, Nat.sub_zero]; omega) | (congr 1; omega)
set_option maxRecDepth 100000 in
set_option maxHeartbeats 1000000 in
theorem fmt_111 (m : sM) (j : Nat) : (y_fmt m).1 111 j = (y_f4 m).1 111 j :=
  (fmt_ag (P := fun a _ => a = 111) (m0 := y_f4 m) (rstM_ag (ag_rf _) (by intro a j q; omega)) (by intro a j q; omega) 111 j rfl).1
set_option maxRecDepth 100000 in
set_option maxHeartbeats 1000000 in
theorem fmt_dk (m : sM) {b c : Nat} (hb : b < 32) (hc : c < 13) : (y_fmt m).1 111 (13 * b + c) = ndk b c := by
  have k0 : ck (fun c => (y_f1 m).1 111 (13 * 0 + c)) (nI (0 + 17)) 12 = ck (dRoot 0 2) (nI (0 + 17)) 12 := ck_cong fun c hc => by
    show (y_f1 m).1 111 (13 * 0 + c) = _
    rw [f1_111]
    unfold dRoot
    (repeat' split) <;> first | rfl | (exfalso; omega) | (simp only [Nat.zero_add, Nat.sub_zero]; done) | (simp only [Nat.zero_add, Nat.sub_zero]; omega) | (congr 1; omega)
  have f3 : ∀ j, j < 416 → (y_f3 m).1 111 j = if 30 ≤ j ∧ j < 38 then -1 else if j = 26 then 2 else if j = 12 then ck (dRoot 0 2) (nI (0 + 17)) 12 else if j = 2 then 2 else if j = 0 then 1 else 0 := fun j hj => by
    rw [y_f3, fil1, y_f2, up1, up1, k0, f1_111]
    by_cases q : 30 ≤ j ∧ j < 38
    · rw [if_pos (by omega), if_pos q]
    · rw [if_neg (by omega), if_neg q]
      by_cases q1 : j = 26
      · rw [if_pos ⟨rfl, q1⟩, if_pos q1]
      · rw [if_neg (by omega), if_neg q1]
        by_cases q2 : j = 12
        · rw [if_pos (by omega), if_pos q2]
        · rw [if_neg (by omega), if_neg q2, if_pos hj]
  have k2 : ck (fun c => (y_f3 m).1 111 (13 * 2 + c)) (nI (2 + 17)) 12 = ck (dTab 0 (fun _ => -1)) (nI (2 + 17)) 12 := ck_cong fun c hc => by
    show (y_f3 m).1 111 (13 * 2 + c) = _
    rw [f3 _ (by omega)]
    unfold dTab
    (repeat' split) <;> first | rfl | (exfalso; omega) | (simp only [Nat.zero_add, Nat.sub_zero]; done) | (simp only [Nat.zero_add, Nat.sub_zero]; omega) | (congr 1; omega)
  rw [fmt_111, y_f4, up1, k2, f3 _ (by omega)]
  unfold ndk dRoot dTab
  by_cases q0 : b = 0
  · subst q0
    rw [if_neg (by omega), if_neg (by omega), if_neg (by omega), if_pos rfl]
    (repeat' split) <;> first | rfl | (exfalso; omega) | (simp only [Nat.zero_add, Nat.sub_zero]; done) | (simp only [Nat.zero_add, Nat.sub_zero]; omega) | (congr 1; omega)
  · rw [if_neg q0]
    by_cases q2 : b = 2
    · subst q2
      rw [if_pos rfl]
      by_cases q3 : c = 12
      · rw [if_pos (by omega), if_pos q3]
      · rw [if_neg (by omega), if_neg q3]
        (repeat' split) <;> first | rfl | (exfalso; omega) | (simp only [Nat.zero_add, Nat.sub_zero]; done) | (simp only [Nat.zero_add, Nat.sub_zero]; omega) | (congr 1; omega)
    · rw [if_neg q2, if_neg (by omega), if_neg (by omega), if_neg (by omega), if_neg (by omega), if_neg (by omega), if_neg (by omega)]
set_option maxRecDepth 100000 in
set_option maxHeartbeats 1000000 in
theorem R_fmt {mc mm : sM} (h : R mc mm) : R (x_new (x_end mc)) (y_fmt mm) := by
  have hs := fun s (hs : s < 3) => end_slot (mc := mc) (mm := y_f4 mm) hs (fun k hk => by
    rw [(f4_ag (P := fun a _ => a = 120) (m := mm) (by intro a j q; omega) 120 _ rfl).1]; exact R_120 h hs k hk)
  have ac : ∀ {P : Nat → Nat → Prop}, (∀ a j, ((a = 54 ∨ a = 64 ∨ a = 74) ∧ (j = 2 ∨ j = 3)) ∨ ((a = 55 ∨ a = 65 ∨ a = 75) ∧ (j = 1 ∨ j = 2)) ∨ (a = 0 ∧ (j = 7 ∨ j = 15)) ∨ (a = 49 ∧ j < 2) ∨ (3 ≤ a ∧ a ≤ 37) → ¬ P a j) → ag P mc (x_new (x_end mc)) := fun hp => new_ag (end_ag (ag_rf mc) (fun a j q => hp a j (by omega))) (fun a j q => hp a j (by omega))
  have am : ∀ {P : Nat → Nat → Prop}, (∀ a j, (a = 110 ∧ (j = 0 ∨ j = 2 ∨ j = 3 ∨ j = 19)) ∨ (111 ≤ a ∧ a ≤ 115 ∧ (a = 112 ∨ a = 113 → j = 0) ∧ (a = 114 → j < 8) ∧ (a = 115 → j < 64)) ∨ ((a = 118 ∨ a = 122) ∧ j < 3) ∨ (a = 119 ∧ j < 192) ∨ (a = 117 ∧ j < 2) → ¬ P a j) → ag P mm (y_fmt mm) := fun hp => fmt_ag (rstM_ag (f4_ag (fun a j q => hp a j (by omega))) (fun a j q => hp a j (by omega))) (fun a j q => hp a j (by omega))
  obtain ⟨h1, h2, h3, h4, h5, h6, h7, h8, h9, h10, h11⟩ := h
  have y113 : (y_fmt mm).1 113 0 = 2 := by
    rw [y_fmt, up1, if_neg (by omega), up1, if_neg (by omega), fil1, if_neg (by omega), fil1, if_neg (by omega), y_f5]; exact upS _ _ _ _
  have y112 : (y_fmt mm).1 112 0 = 0 := by
    rw [y_fmt, up1, if_neg (by omega), up1, if_neg (by omega), fil1, if_neg (by omega), fil1, if_neg (by omega), y_f5, up1, if_neg (by omega)]; exact upS _ _ _ _
  have y114 : ∀ p, p < 8 → (y_fmt mm).1 114 (8 * 0 + p) = -1 := fun p hp => by
    rw [y_fmt, up1, if_neg (by omega), up1, if_neg (by omega), fil1, if_neg (by omega), fil1, if_pos (by omega)]
  have y115 : ∀ k, k < 64 → (y_fmt mm).1 115 (64 * 0 + k) = 0 := fun k hk => by
    rw [y_fmt, up1, if_neg (by omega), up1, if_neg (by omega), fil1, if_pos (by omega)]
  have x363 : (x_new (x_end mc)).1 36 3 = 0 := by rw [n3_36, n1_1, if_neg (by omega), if_neg (by omega), if_pos ⟨rfl, rfl⟩]
  have x364 : (x_new (x_end mc)).1 36 4 = 0 := by rw [n3_36, n1_1, if_neg (by omega), if_pos ⟨rfl, rfl⟩]
  have x365 : (x_new (x_end mc)).1 36 5 = 2 := by rw [n3_36, n1_1, if_pos ⟨rfl, rfl⟩]
  have x37 : ∀ p, p < 8 → (x_new (x_end mc)).1 37 p = -1 := fun p hp => by
    rw [n3_37, n1_1, if_neg (by omega), if_neg (by omega), if_neg (by omega), if_pos (by omega)]
  have x362 : (x_new (x_end mc)).2 36 2 = 0 := by
    show (s_uL (x_fil 37 0 8 (-1) (wiC (x_end mc) 32)) 36 2 0).2 36 2 = 0
    rw [uL2, if_pos ⟨rfl, rfl⟩]
  refine ⟨fun b c hb hc => by rw [new_dk _ hb hc, fmt_dk _ hb hc], ⟨true, ?_, ?_⟩, ⟨⟨?_, ?_, ⟨2, by decide, by decide, y113⟩, fun p hp => ⟨?_, Or.inl (y114 p hp)⟩, fun k hk => ⟨?_, fun q => ?_⟩⟩, ?_, Or.inl x364, ⟨0, by decide, x363⟩, fun p hp => ?_, fun p q hp hq _ _ => x37 p hp⟩, rPins_ag (new_ag (ag_rf _) ?_) (fmt_ag (ag_rf _) ?_) (end_pins mc (y_f4 mm)), fun s hs3 => rSlot_ag (new_ag (ag_rf _) ?_) (fmt_ag (ag_rf _) ?_) (hs s hs3), rOrd_ag (fun a j q => (new_ag (P := dcOrd) (ag_rf (x_end mc)) (by intro a j q1 q2; omega) a j q).1) (fmt_ag (ag_rf _) ?_) (end_ord mc (y_f4 mm)), rIn_ag (ac ?_) (am ?_) h7, rOut_ag (ac ?_) (am ?_) h8, rLog_ag (ac ?_) (am ?_) h9, rStat_ag (ac ?_) (am ?_) h10, rSalv_ag (ac ?_) (am ?_) h11⟩
  · exact upS _ _ _ _
  · rw [y_fmt, up1, if_neg (by omega)]; exact upS _ _ _ _
  · rw [x363, y112]
  · rw [x365, y113]
  · rw [x37 p hp, y114 p hp]
  · rw [y115 k hk, x362, lb_0]; rfl
  · rw [x362, lb_0] at q; exact absurd q (by decide)
  · rw [x364, y_fmt]; exact (upS _ _ _ _).symm
  · rw [x37 p hp, x365]; decide
  all_goals (intro a j q; omega)
set_option maxRecDepth 100000 in
set_option maxHeartbeats 1000000 in
theorem k_format {mc mm : sM} (h : R mc mm) : Agr [] (f_X9_format mc) (f_X10_format mm) := by
  have hR := R_fmt h
  have hn : mc.1 36 3 = mm.1 112 0 := h.2.2.1.1.1
  refine Agr_ok (v := if mm.1 110 2 = 0 then -1 else mm.1 112 0) (mc' := x_new (x_end mc)) (mm' := y_fmt mm) ?_ q_format hR ?_
  · unfold f_X9_format
    rw [jn_]
    rcases R_open h with ⟨o1, o2⟩ | ⟨o1, o2⟩
    · rw [if_pos o1, if_pos o2]
      dsimp only
      rw [p_end, bd_, p_mnf, bd_]
    · rw [if_neg (by rw [o1]; decide), if_neg (by rw [o2]; decide)]
      dsimp only
      rw [p_end, bd_, p_mnf, bd_, hn]
  · have e0 := (fmt_ag (P := fun a j => a = 110 ∧ j = 0) (m := mm) (m0 := y_f4 mm) (rstM_ag (ag_rf _) (by intro a j q; omega)) (by intro a j q; omega) 110 0 ⟨rfl, rfl⟩).1
    rw [e0, y_f4, up1, if_neg (by omega), y_f3, fil1, if_neg (by omega), y_f2, up1, if_neg (by omega), up1, if_neg (by omega), y_f1, up1, if_neg (by omega), up1, if_neg (by omega), fil1, if_neg (by omega)]
    exact upS _ _ _ _
