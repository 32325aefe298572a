noncomputable def f_X0_clear (a : Nat) (m : sM) : Option (sR Unit) :=
  s_md (s_uL m a 1 0) fun m1 => s_md (s_uL m1 a 2 0) fun m2 => some (.inl (), m2)
set_option maxRecDepth 20000 in
set_option maxHeartbeats 4000000 in
theorem c_X0_clear (nw : Nat) (hnw : 109 ≤ nw) (a : Nat) (ha : isChg a) : s_Con s_u 0 nw yX0_clear wsX0_clear 12 140 0 (f_X0_clear a) (fun ad => [.ref (ad a)]) := by
  refine s_con_of cX0_clear 1 none RX0 (by decide) rfl rfl (fun _ => Nat.le_of_ble_eq_true rfl) (fun ad m res V C h => ?_)
  unfold f_X0_clear at h
  have F_i0 : ∀ w ∈ wsX00, w ∈ wsX0_clear := by decide +kernel
  have F_k15 : Cond.fieldLink RX0 15 "ShadowFile$Changes" "touched" "J" ∈ wsX0_clear := by decide +kernel
  have F_k19 : Cond.fieldLink RX0 19 "ShadowFile$Changes" "removed" "J" ∈ wsX0_clear := by decide +kernel
  show V 0 0 [(0, .ref (ad a))] [] m
  refine r_aload_n C dX0_clear_0 rfl 0 rfl ?_
  refine r_lconst C (v := 0) dX0_clear_1 (by decide) ?_
  refine r_putl C (ci := 0) (k9 := 1) dX0_clear_2 rfl F_i0 (by decide) F_k15 (by have := isChg_b ha; omega) (isChg_0 ha) rfl tyX0 tyX0_ok nmX0 rfl (tyX0_ok 1 (by decide)) rfl rfl h (fun m1 _ h => ?_)
  refine r_aload_n C dX0_clear_5 rfl 0 rfl ?_
  refine r_lconst C (v := 0) dX0_clear_6 (by decide) ?_
  refine r_putl C (ci := 0) (k9 := 2) dX0_clear_7 rfl F_i0 (by decide) F_k19 (by have := isChg_b ha; omega) (isChg_0 ha) rfl tyX0 tyX0_ok nmX0 rfl (tyX0_ok 2 (by decide)) rfl rfl h (fun m2 _ h => ?_)
  exact r_vret C dX0_clear_10 rfl h
noncomputable def f_X7_reset (a : Nat) (p1 : Int32) (m : sM) : Option (sR Unit) :=
  s_md (s_up m a 3 p1) fun m1 => s_md (s_up m1 a 2 0) fun m2 => s_bd (f_X0_clear (a + 1) m2) fun r3 m4 => some (.inl (), m4)
set_option maxRecDepth 20000 in
set_option maxHeartbeats 4000000 in
theorem c_X7_reset (nw : Nat) (hnw : 109 ≤ nw) (a : Nat) (p1 : Int32) (ha : isSlt a) : s_Con s_u 0 nw yX7_reset wsX7_reset 14 185 0 (f_X7_reset a p1) (fun ad => [.ref (ad a), .int p1]) := by
  refine s_con_of cX7_reset 2 none RX7 (by decide) rfl rfl (fun _ => Nat.le_of_ble_eq_true rfl) (fun ad m res V C h => ?_)
  unfold f_X7_reset at h
  have F_i7 : ∀ w ∈ wsX70, w ∈ wsX7_reset := by decide +kernel
  have F_k26 : Cond.fieldLink RX7 26 "ShadowFile$Slot" "state" "I" ∈ wsX7_reset := by decide +kernel
  have F_k22 : Cond.fieldLink RX7 22 "ShadowFile$Slot" "markCount" "I" ∈ wsX7_reset := by decide +kernel
  have F_k12 : Cond.fieldLink RX7 12 "ShadowFile$Slot" "changes" "LShadowFile$Changes;" ∈ wsX7_reset := by decide +kernel
  show V 0 0 [(0, .ref (ad a)), (1, .int p1)] [] m
  refine r_aload_n C dX7_reset_0 rfl 0 rfl ?_
  refine r_iload_n C dX7_reset_1 rfl 1 rfl ?_
  refine r_puti C (ci := 7) (k9 := 3) dX7_reset_2 rfl F_i7 (by decide) F_k26 (by have := isSlt_b ha; omega) (isSlt_0 ha) rfl tyX7 tyX7_ok nmX7 rfl (tyX7_ok 3 (by decide)) rfl rfl h (fun m1 _ h => ?_)
  refine r_aload_n C dX7_reset_5 rfl 0 rfl ?_
  refine r_iconst C (v := 0) dX7_reset_6 (by decide) ?_
  refine r_puti C (ci := 7) (k9 := 2) dX7_reset_7 rfl F_i7 (by decide) F_k22 (by have := isSlt_b ha; omega) (isSlt_0 ha) rfl tyX7 tyX7_ok nmX7 rfl (tyX7_ok 2 (by decide)) rfl rfl h (fun m2 _ h => ?_)
  refine r_aload_n C dX7_reset_10 rfl 0 rfl ?_
  refine r_getr C (ci := 7) (k9 := 0) dX7_reset_11 rfl F_i7 (by decide) F_k12 (by have := isSlt_b ha; omega) (isSlt_0 ha) rfl ?_
  refine r_callV C (c_X0_clear nw hnw (a + 1) (isSlt_c ha)) (As := []) (nn := 0) (stk := [.ref (ad (a + 1))]) (ci := 0) dX7_reset_14 gX7_reset_X0_clear ⟨rfl, by decide, by decide, by decide +kernel⟩ (by have := isChg_b (isSlt_c ha); omega) (isChg_0 (isSlt_c ha)) rfl rfl rfl (by decide) rfl rfl (Nat.le_of_ble_eq_true rfl) (by decide) h (fun r3 m4 h => ?_)
  show V 0 17 [(0, .ref (ad a)), (1, .int p1)] [] m4
  exact r_vret C dX7_reset_17 rfl h
noncomputable def f_X9_endSlotsAndPins_L30 (e48_30 : sM → Option (sR Unit)) : Nat → Int32 → sM → Option (sR Unit)
  | 0, _, _ => none
  | n + 1, x1_30, m30_ =>
    if 2 ≤ x1_30 then (e48_30  m30_) else (s_ix x1_30 2 fun j2 => s_md (s_up m30_ 49 j2 (vp_nar .boolean 0)) fun m3 => f_X9_endSlotsAndPins_L30 e48_30 n (x1_30 + 1) m3)
noncomputable def f_X9_endSlotsAndPins_L2 (e23_2 : sM → Option (sR Unit)) : Nat → Int32 → sM → Option (sR Unit)
  | 0, _, _ => none
  | n + 1, x1_2, m2_ =>
    if 3 ≤ x1_2 then (e23_2  m2_) else (s_ix x1_2 3 fun j4 => s_bd (f_X7_reset (54 + 10 * j4) 0 m2_) fun r5 m6 => f_X9_endSlotsAndPins_L2 e23_2 n (x1_2 + 1) m6)
noncomputable def f_X9_endSlotsAndPins (m : sM) : Option (sR Unit) :=
  s_jn (fun (m23_ : sM) => s_md (s_up m23_ 0 7 0) fun m1 => s_jn (fun (m48_ : sM) => some (.inl (), m48_)) fun e48_30 => f_X9_endSlotsAndPins_L30 e48_30 5000 0 m1) fun e23_2 => f_X9_endSlotsAndPins_L2 e23_2 5000 0 m
set_option maxRecDepth 20000 in
set_option maxHeartbeats 4000000 in
theorem c_X9_endSlotsAndPins (nw : Nat) (hnw : 109 ≤ nw) : s_Con s_u 0 nw yX9_endSlotsAndPins wsX9_endSlotsAndPins 16 230 0 (f_X9_endSlotsAndPins) (fun ad => [.ref (ad 0)]) := by
  refine s_con_of cX9_endSlotsAndPins 2 none RX9 (by decide) rfl rfl (fun _ => Nat.le_of_ble_eq_true rfl) (fun ad m res V C h => ?_)
  unfold f_X9_endSlotsAndPins at h
  have F_i9 : ∀ w ∈ wsX90, w ∈ wsX9_endSlotsAndPins := by decide +kernel
  have F_k50 : Cond.fieldLink RX9 50 "ShadowFile" "readyCount" "I" ∈ wsX9_endSlotsAndPins := by decide +kernel
  have F_k58 : Cond.fieldLink RX9 58 "ShadowFile" "pinUsed" "[Z" ∈ wsX9_endSlotsAndPins := by decide +kernel
  have F_k42 : Cond.fieldLink RX9 42 "ShadowFile" "slots" "[LShadowFile$Slot;" ∈ wsX9_endSlotsAndPins := by decide +kernel
  show V 0 0 [(0, .ref (ad 0))] [] m
  refine r_iconst C (v := 0) dX9_endSlotsAndPins_0 (by decide) ?_
  refine r_istore_n C dX9_endSlotsAndPins_1 rfl (by decide) (show _ = [(1, .int 0), (0, .ref (ad 0))] from rfl) ?_
  refine s_join h (fun e23_2 => ∀ (m23_ : sM), e23_2 m23_ = some res → V 0 23 [(0, .ref (ad 0))] [] m23_) ?_ (fun e23_2 he23_2 h => ?_)
  · intro m23_ h
    refine r_aload_n C dX9_endSlotsAndPins_23 rfl 0 rfl ?_
    refine r_iconst C (v := 0) dX9_endSlotsAndPins_24 (by decide) ?_
    refine r_puti C (ci := 9) (k9 := 7) dX9_endSlotsAndPins_25 rfl F_i9 (by decide) F_k50 (by omega) la_0 rfl tyX9 tyX9_ok nmX9 rfl (tyX9_ok 7 (by decide)) rfl rfl h (fun m1 _ h => ?_)
    refine r_iconst C (v := 0) dX9_endSlotsAndPins_28 (by decide) ?_
    refine r_istore_n C dX9_endSlotsAndPins_29 rfl (by decide) (show _ = [(1, .int 0), (0, .ref (ad 0))] from rfl) ?_
    refine s_join h (fun e48_30 => ∀ (m48_ : sM), e48_30 m48_ = some res → V 0 48 [] [] m48_) ?_ (fun e48_30 he48_30 h => ?_)
    · intro m48_ h
      exact r_vret C dX9_endSlotsAndPins_48 rfl h
    have L30 : ∀ (n : Nat) (x1_30 : Int32) (m30_ : sM), f_X9_endSlotsAndPins_L30 e48_30 n x1_30 m30_ = some res → V 0 30 [(0, .ref (ad 0)), (1, .int x1_30)] [] m30_ := by
      intro n
      induction n with
      | zero => intro x1_30 m30_ h; rw [f_X9_endSlotsAndPins_L30] at h; cases h
      | succ n ih =>
        intro x1_30 m30_ h
        rw [f_X9_endSlotsAndPins_L30] at h
        refine r_iload_n C dX9_endSlotsAndPins_30 rfl 1 rfl ?_
        refine r_iconst C (v := 2) dX9_endSlotsAndPins_31 (by decide) ?_
        refine r_icmp_ge C (tgt := 48) dX9_endSlotsAndPins_32 (by decide) h (fun _ h => ?_) (fun _ h => ?_)
        · skip
          refine r_sub C [] (show _ = [] from rfl) ?_
          exact he48_30 m30_ h
        · skip
          refine r_aload_n C dX9_endSlotsAndPins_35 rfl 0 rfl ?_
          refine r_getr C (ci := 9) (k9 := 9) dX9_endSlotsAndPins_36 rfl F_i9 (by decide) F_k58 (by omega) la_0 rfl ?_
          refine r_iload_n C dX9_endSlotsAndPins_39 rfl 1 rfl ?_
          refine r_iconst C (v := 0) dX9_endSlotsAndPins_40 (by decide) ?_
          refine r_zast C dX9_endSlotsAndPins_41 (by omega) la_49 h (fun j2 m3 hj2 _ h => ?_)
          refine r_iinc C (v := x1_30 + 1) dX9_endSlotsAndPins_42 1 rfl rfl (by decide) (show _ = [(1, .int (x1_30 + 1)), (0, .ref (ad 0))] from rfl) ?_
          refine r_goto C (tgt := 30) dX9_endSlotsAndPins_45 (by decide) ?_
          refine r_sub C [1, 0] (show _ = [(0, .ref (ad 0)), (1, .int (x1_30 + 1))] from rfl) ?_
          exact ih (x1_30 + 1) m3 h
    refine r_sub C [1, 0] (show _ = [(0, .ref (ad 0)), (1, .int 0)] from rfl) ?_
    exact L30 5000 0 m1 h
  have L2 : ∀ (n : Nat) (x1_2 : Int32) (m2_ : sM), f_X9_endSlotsAndPins_L2 e23_2 n x1_2 m2_ = some res → V 0 2 [(0, .ref (ad 0)), (1, .int x1_2)] [] m2_ := by
    intro n
    induction n with
    | zero => intro x1_2 m2_ h; rw [f_X9_endSlotsAndPins_L2] at h; cases h
    | succ n ih =>
      intro x1_2 m2_ h
      rw [f_X9_endSlotsAndPins_L2] at h
      refine r_iload_n C dX9_endSlotsAndPins_2 rfl 1 rfl ?_
      refine r_iconst C (v := 3) dX9_endSlotsAndPins_3 (by decide) ?_
      refine r_icmp_ge C (tgt := 23) dX9_endSlotsAndPins_4 (by decide) h (fun _ h => ?_) (fun _ h => ?_)
      · skip
        refine r_sub C [0] (show _ = [(0, .ref (ad 0))] from rfl) ?_
        exact he23_2 m2_ h
      · skip
        refine r_aload_n C dX9_endSlotsAndPins_7 rfl 0 rfl ?_
        refine r_getr C (ci := 9) (k9 := 5) dX9_endSlotsAndPins_8 rfl F_i9 (by decide) F_k42 (by omega) la_0 rfl ?_
        refine r_iload_n C dX9_endSlotsAndPins_11 rfl 1 rfl ?_
        refine r_aald C (b0 := 54) (d0 := 10) dX9_endSlotsAndPins_12 (by omega) la_53 (fun _ => rfl) rfl h (fun j4 hj4 h => ?_)
        refine r_iconst C (v := 0) dX9_endSlotsAndPins_13 (by decide) ?_
        refine r_callV C (c_X7_reset nw hnw (54 + 10 * j4) 0 (isSlt_s hj4)) (As := [.int 0]) (nn := 1) (stk := [.int 0, .ref (ad (54 + 10 * j4))]) (ci := 7) dX9_endSlotsAndPins_14 gX9_endSlotsAndPins_X7_reset ⟨rfl, by decide, by decide, by decide +kernel⟩ (by have := isSlt_b (isSlt_s hj4); omega) (isSlt_0 (isSlt_s hj4)) rfl rfl rfl (by decide) rfl rfl (Nat.le_of_ble_eq_true rfl) (by decide) h (fun r5 m6 h => ?_)
        show V 0 17 [(0, .ref (ad 0)), (1, .int x1_2)] [] m6
        refine r_iinc C (v := x1_2 + 1) dX9_endSlotsAndPins_17 1 rfl rfl (by decide) (show _ = [(1, .int (x1_2 + 1)), (0, .ref (ad 0))] from rfl) ?_
        refine r_goto C (tgt := 2) dX9_endSlotsAndPins_20 (by decide) ?_
        refine r_sub C [1, 0] (show _ = [(0, .ref (ad 0)), (1, .int (x1_2 + 1))] from rfl) ?_
        exact ih (x1_2 + 1) m6 h
  refine r_sub C [1, 0] (show _ = [(0, .ref (ad 0)), (1, .int 0)] from rfl) ?_
  exact L2 5000 0 m h
noncomputable def f_J7_fill_53178_L5 (a0_5 : Nat) (y1_5 : Int32) (y3_5 : Int32) (N : Nat) (e20_5 : sM → Option (sR Unit)) : Nat → Int32 → sM → Option (sR Unit)
  | 0, _, _ => none
  | n + 1, x2_5, m5_ =>
    if y3_5 ≤ x2_5 then (e20_5  m5_) else (s_ix x2_5 N fun j1 => s_md (s_up m5_ a0_5 j1 y1_5) fun m2 => f_J7_fill_53178_L5 a0_5 y1_5 y3_5 N e20_5 n (x2_5 + 1) m2)
noncomputable def f_J7_fill_53178 (a0 : Nat) (N : Nat) (p1 : Int32) (m : sM) : Option (sR Unit) :=
  s_jn (fun (m20_ : sM) => some (.inl (), m20_)) fun e20_5 => f_J7_fill_53178_L5 a0 p1 (Int32.ofNat N) N e20_5 5000 0 m
set_option maxRecDepth 20000 in
set_option maxHeartbeats 4000000 in
theorem c_J7_fill_53178 (nw : Nat) (hnw : 109 ≤ nw) (a0 : Nat) (N : Nat) (p1 : Int32) (hL : sLay a0 = .inr (0, N, none)) (hB : a0 < 109) (hN : N < 2 ^ 31) : s_Con s_u 0 nw yJ7_fill_53178 wsJ7_fill_53178 12 140 0 (f_J7_fill_53178 a0 N p1) (fun ad => [.ref (ad a0), .int p1]) := by
  refine s_con_of cJ7_fill_53178 4 none RJ7 (by decide) rfl rfl (fun _ => Nat.le_of_ble_eq_true rfl) (fun ad m res V C h => ?_)
  unfold f_J7_fill_53178 at h
  show V 0 0 [(0, .ref (ad a0)), (1, .int p1)] [] m
  refine r_iconst C (v := 0) dJ7_fill_53178_0 (by decide) ?_
  refine r_istore_n C dJ7_fill_53178_1 rfl (by decide) (show _ = [(2, .int 0), (0, .ref (ad a0)), (1, .int p1)] from rfl) ?_
  refine r_aload_n C dJ7_fill_53178_2 rfl 1 rfl ?_
  refine r_alen C (v := Int32.ofNat N) dJ7_fill_53178_3 (by omega) hL (fun _ => rfl) rfl ?_
  refine r_istore_n C dJ7_fill_53178_4 rfl (by decide) (show _ = [(3, .int (Int32.ofNat N)), (2, .int 0), (0, .ref (ad a0)), (1, .int p1)] from rfl) ?_
  refine s_join h (fun e20_5 => ∀ (m20_ : sM), e20_5 m20_ = some res → V 0 20 [] [] m20_) ?_ (fun e20_5 he20_5 h => ?_)
  · intro m20_ h
    exact r_vret C dJ7_fill_53178_20 rfl h
  have L5 : ∀ (n : Nat) (x2_5 : Int32) (m5_ : sM), f_J7_fill_53178_L5 a0 p1 (Int32.ofNat N) N e20_5 n x2_5 m5_ = some res → V 0 5 [(0, .ref (ad a0)), (1, .int p1), (2, .int x2_5), (3, .int (Int32.ofNat N))] [] m5_ := by
    intro n
    induction n with
    | zero => intro x2_5 m5_ h; rw [f_J7_fill_53178_L5] at h; cases h
    | succ n ih =>
      intro x2_5 m5_ h
      rw [f_J7_fill_53178_L5] at h
      refine r_iload_n C dJ7_fill_53178_5 rfl 2 rfl ?_
      refine r_iload_n C dJ7_fill_53178_6 rfl 3 rfl ?_
      refine r_icmp_ge C (tgt := 20) dJ7_fill_53178_7 (by decide) h (fun _ h => ?_) (fun _ h => ?_)
      · skip
        refine r_sub C [] (show _ = [] from rfl) ?_
        exact he20_5 m5_ h
      · skip
        refine r_aload_n C dJ7_fill_53178_10 rfl 0 rfl ?_
        refine r_iload_n C dJ7_fill_53178_11 rfl 2 rfl ?_
        refine r_iload_n C dJ7_fill_53178_12 rfl 1 rfl ?_
        refine r_iast C dJ7_fill_53178_13 (by omega) hL h (fun j1 m2 hj1 _ h => ?_)
        refine r_iinc C (v := x2_5 + 1) dJ7_fill_53178_14 2 rfl rfl (by decide) (show _ = [(2, .int (x2_5 + 1)), (0, .ref (ad a0)), (1, .int p1), (3, .int (Int32.ofNat N))] from rfl) ?_
        refine r_goto C (tgt := 5) dJ7_fill_53178_17 (by decide) ?_
        refine r_sub C [1, 2, 0, 3] (show _ = [(0, .ref (ad a0)), (1, .int p1), (2, .int (x2_5 + 1)), (3, .int (Int32.ofNat N))] from rfl) ?_
        exact ih (x2_5 + 1) m2 h
  refine r_sub C [2, 3, 1, 0] (show _ = [(0, .ref (ad a0)), (1, .int p1), (2, .int 0), (3, .int (Int32.ofNat N))] from rfl) ?_
  exact L5 5000 0 m h
noncomputable def f_X1_wipe_L2 (e24_2 : sM → Option (sR Unit)) : Nat → Int32 → sM → Option (sR Unit)
  | 0, _, _ => none
  | n + 1, x1_2, m2_ =>
    if 32 ≤ x1_2 then (e24_2  m2_) else (s_ix x1_2 32 fun j1 => s_bd (f_J7_fill_53178 (4 + 1 * j1) 13 0 m2_) fun r2 m3 => f_X1_wipe_L2 e24_2 n (x1_2 + 1) m3)
noncomputable def f_X1_wipe (m : sM) : Option (sR Unit) :=
  s_jn (fun (m24_ : sM) => some (.inl (), m24_)) fun e24_2 => f_X1_wipe_L2 e24_2 5000 0 m
set_option maxRecDepth 20000 in
set_option maxHeartbeats 4000000 in
theorem c_X1_wipe (nw : Nat) (hnw : 109 ≤ nw) : s_Con s_u 0 nw yX1_wipe wsX1_wipe 14 185 0 (f_X1_wipe) (fun ad => [.ref (ad 1)]) := by
  refine s_con_of cX1_wipe 2 none RX1 (by decide) rfl rfl (fun _ => Nat.le_of_ble_eq_true rfl) (fun ad m res V C h => ?_)
  unfold f_X1_wipe at h
  have F_i1 : ∀ w ∈ wsX10, w ∈ wsX1_wipe := by decide +kernel
  have F_k11 : Cond.fieldLink RX1 11 "ShadowFile$Disk" "cells" "[[I" ∈ wsX1_wipe := by decide +kernel
  show V 0 0 [(0, .ref (ad 1))] [] m
  refine r_iconst C (v := 0) dX1_wipe_0 (by decide) ?_
  refine r_istore_n C dX1_wipe_1 rfl (by decide) (show _ = [(1, .int 0), (0, .ref (ad 1))] from rfl) ?_
  refine s_join h (fun e24_2 => ∀ (m24_ : sM), e24_2 m24_ = some res → V 0 24 [] [] m24_) ?_ (fun e24_2 he24_2 h => ?_)
  · intro m24_ h
    exact r_vret C dX1_wipe_24 rfl h
  have L2 : ∀ (n : Nat) (x1_2 : Int32) (m2_ : sM), f_X1_wipe_L2 e24_2 n x1_2 m2_ = some res → V 0 2 [(0, .ref (ad 1)), (1, .int x1_2)] [] m2_ := by
    intro n
    induction n with
    | zero => intro x1_2 m2_ h; rw [f_X1_wipe_L2] at h; cases h
    | succ n ih =>
      intro x1_2 m2_ h
      rw [f_X1_wipe_L2] at h
      refine r_iload_n C dX1_wipe_2 rfl 1 rfl ?_
      refine r_bipush C (v := 32) dX1_wipe_3 (by decide) ?_
      refine r_icmp_ge C (tgt := 24) dX1_wipe_5 (by decide) h (fun _ h => ?_) (fun _ h => ?_)
      · skip
        refine r_sub C [] (show _ = [] from rfl) ?_
        exact he24_2 m2_ h
      · skip
        refine r_aload_n C dX1_wipe_8 rfl 0 rfl ?_
        refine r_getr C (ci := 1) (k9 := 0) dX1_wipe_9 rfl F_i1 (by decide) F_k11 (by omega) la_1 rfl ?_
        refine r_iload_n C dX1_wipe_12 rfl 1 rfl ?_
        refine r_aald C (b0 := 4) (d0 := 1) dX1_wipe_13 (by omega) la_2 (fun _ => rfl) rfl h (fun j1 hj1 h => ?_)
        refine r_iconst C (v := 0) dX1_wipe_14 (by decide) ?_
        refine r_callS C (c_J7_fill_53178 nw hnw (4 + 1 * j1) 13 0 (isRow_0 (isRow_d hj1)) (by have := isRow_b (isRow_d hj1); omega) (by decide)) (As := [.ref (ad (4 + 1 * j1)), .int 0]) (nn := 2) (stk := [.int 0, .ref (ad (4 + 1 * j1))]) dX1_wipe_15 gX1_wipe_J7_fill_53178 ⟨by decide, by decide, by decide +kernel⟩ rfl rfl (by decide) rfl rfl (Nat.le_of_ble_eq_true rfl) (by decide) h (fun r2 m3 h => ?_)
        show V 0 18 [(0, .ref (ad 1)), (1, .int x1_2)] [] m3
        refine r_iinc C (v := x1_2 + 1) dX1_wipe_18 1 rfl rfl (by decide) (show _ = [(1, .int (x1_2 + 1)), (0, .ref (ad 1))] from rfl) ?_
        refine r_goto C (tgt := 2) dX1_wipe_21 (by decide) ?_
        refine r_sub C [1, 0] (show _ = [(0, .ref (ad 1)), (1, .int (x1_2 + 1))] from rfl) ?_
        exact ih (x1_2 + 1) m3 h
  refine r_sub C [1, 0] (show _ = [(0, .ref (ad 1)), (1, .int 0)] from rfl) ?_
  exact L2 5000 0 m h
noncomputable def f_X8_makeEmpty (a : Nat) (m : sM) : Option (sR Unit) :=
  s_bd (f_J7_fill_53178 (a + 1) 8 (-1) m) fun r1 m2 => s_md (s_uL m2 a 2 0) fun m3 => s_md (s_up m3 a 3 0) fun m4 => s_md (s_up m4 a 4 0) fun m5 => s_md (s_up m5 a 5 2) fun m6 => some (.inl (), m6)
set_option maxRecDepth 20000 in
set_option maxHeartbeats 4000000 in
theorem c_X8_makeEmpty (nw : Nat) (hnw : 109 ≤ nw) (a : Nat) (ha : isVer a) : s_Con s_u 0 nw yX8_makeEmpty wsX8_makeEmpty 14 185 0 (f_X8_makeEmpty a) (fun ad => [.ref (ad a)]) := by
  refine s_con_of cX8_makeEmpty 1 none RX8 (by decide) rfl rfl (fun _ => Nat.le_of_ble_eq_true rfl) (fun ad m res V C h => ?_)
  unfold f_X8_makeEmpty at h
  have F_i8 : ∀ w ∈ wsX80, w ∈ wsX8_makeEmpty := by decide +kernel
  have F_k9 : Cond.fieldLink RX8 9 "ShadowFile$Version" "blocks" "[I" ∈ wsX8_makeEmpty := by decide +kernel
  have F_k18 : Cond.fieldLink RX8 18 "ShadowFile$Version" "keys" "J" ∈ wsX8_makeEmpty := by decide +kernel
  have F_k22 : Cond.fieldLink RX8 22 "ShadowFile$Version" "number" "I" ∈ wsX8_makeEmpty := by decide +kernel
  have F_k26 : Cond.fieldLink RX8 26 "ShadowFile$Version" "root" "I" ∈ wsX8_makeEmpty := by decide +kernel
  have F_k29 : Cond.fieldLink RX8 29 "ShadowFile$Version" "table" "I" ∈ wsX8_makeEmpty := by decide +kernel
  show V 0 0 [(0, .ref (ad a))] [] m
  refine r_aload_n C dX8_makeEmpty_0 rfl 0 rfl ?_
  refine r_getr C (ci := 8) (k9 := 0) dX8_makeEmpty_1 rfl F_i8 (by decide) F_k9 (by have := isVer_b ha; omega) (isVer_0 ha) rfl ?_
  refine r_iconst C (v := -1) dX8_makeEmpty_4 (by decide) ?_
  refine r_callS C (c_J7_fill_53178 nw hnw (a + 1) 8 (-1) (isVer_1 ha) (by have := isVer_b ha; omega) (by decide)) (As := [.ref (ad (a + 1)), .int (-1)]) (nn := 2) (stk := [.int (-1), .ref (ad (a + 1))]) dX8_makeEmpty_5 gX8_makeEmpty_J7_fill_53178 ⟨by decide, by decide, by decide +kernel⟩ rfl rfl (by decide) rfl rfl (Nat.le_of_ble_eq_true rfl) (by decide) h (fun r1 m2 h => ?_)
  show V 0 8 [(0, .ref (ad a))] [] m2
  refine r_aload_n C dX8_makeEmpty_8 rfl 0 rfl ?_
  refine r_lconst C (v := 0) dX8_makeEmpty_9 (by decide) ?_
  refine r_putl C (ci := 8) (k9 := 2) dX8_makeEmpty_10 rfl F_i8 (by decide) F_k18 (by have := isVer_b ha; omega) (isVer_0 ha) rfl tyX8 tyX8_ok nmX8 rfl (tyX8_ok 2 (by decide)) rfl rfl h (fun m3 _ h => ?_)
  refine r_aload_n C dX8_makeEmpty_13 rfl 0 rfl ?_
  refine r_iconst C (v := 0) dX8_makeEmpty_14 (by decide) ?_
  refine r_puti C (ci := 8) (k9 := 3) dX8_makeEmpty_15 rfl F_i8 (by decide) F_k22 (by have := isVer_b ha; omega) (isVer_0 ha) rfl tyX8 tyX8_ok nmX8 rfl (tyX8_ok 3 (by decide)) rfl rfl h (fun m4 _ h => ?_)
  refine r_aload_n C dX8_makeEmpty_18 rfl 0 rfl ?_
  refine r_iconst C (v := 0) dX8_makeEmpty_19 (by decide) ?_
  refine r_puti C (ci := 8) (k9 := 4) dX8_makeEmpty_20 rfl F_i8 (by decide) F_k26 (by have := isVer_b ha; omega) (isVer_0 ha) rfl tyX8 tyX8_ok nmX8 rfl (tyX8_ok 4 (by decide)) rfl rfl h (fun m5 _ h => ?_)
  refine r_aload_n C dX8_makeEmpty_23 rfl 0 rfl ?_
  refine r_iconst C (v := 2) dX8_makeEmpty_24 (by decide) ?_
  refine r_puti C (ci := 8) (k9 := 5) dX8_makeEmpty_25 rfl F_i8 (by decide) F_k29 (by have := isVer_b ha; omega) (isVer_0 ha) rfl tyX8 tyX8_ok nmX8 rfl (tyX8_ok 5 (by decide)) rfl rfl h (fun m6 _ h => ?_)
  exact r_vret C dX8_makeEmpty_28 rfl h
noncomputable def f_X8_describeTable (a : Nat) (a1 : Nat) (m : sM) : Option (sR Unit) :=
  s_bd (f_J7_fill_53178 a1 13 0 m) fun r1 m2 => s_ix 0 13 fun j3 => s_md (s_up m2 a1 j3 2) fun m4 => s_ix 1 13 fun j5 => s_md (s_up m4 a1 j5 (m4.1 a 3)) fun m6 => s_gd (¬ (0 : Int32) < 0 ∧ ¬ (4 : Int32) < 0 ∧ ¬ (8 : Int32) < 0 ∧ (0 : Int32).toNatClampNeg + (8 : Int32).toNatClampNeg ≤ 8 ∧ (4 : Int32).toNatClampNeg + (8 : Int32).toNatClampNeg ≤ 13 ∧ ∀ i, i < (8 : Int32).toNatClampNeg → fits .int (.int (m6.1 (a + 1) ((0 : Int32).toNatClampNeg + i))) = true) (s_md (s_cp m6 (a + 1) a1 (0 : Int32).toNatClampNeg (4 : Int32).toNatClampNeg (8 : Int32).toNatClampNeg) fun m7 => some (.inl (), m7))
set_option maxRecDepth 20000 in
set_option maxHeartbeats 4000000 in
theorem c_X8_describeTable (nw : Nat) (hnw : 109 ≤ nw) (a : Nat) (a1 : Nat) (ha : isVer a) (ha1 : isRow a1) : s_Con s_u 0 nw yX8_describeTable wsX8_describeTable 14 185 0 (f_X8_describeTable a a1) (fun ad => [.ref (ad a), .ref (ad a1)]) := by
  refine s_con_of cX8_describeTable 2 none RX8 (by decide) rfl rfl (fun _ => Nat.le_of_ble_eq_true rfl) (fun ad m res V C h => ?_)
  unfold f_X8_describeTable at h
  have F_i8 : ∀ w ∈ wsX80, w ∈ wsX8_describeTable := by decide +kernel
  have F_k22 : Cond.fieldLink RX8 22 "ShadowFile$Version" "number" "I" ∈ wsX8_describeTable := by decide +kernel
  have F_k9 : Cond.fieldLink RX8 9 "ShadowFile$Version" "blocks" "[I" ∈ wsX8_describeTable := by decide +kernel
  have F_c38 : Cond.methodLink RX8 38 arraycopyName ∈ wsX8_describeTable := by decide +kernel
  have F_cnat : Cond.native arraycopyName ∈ wsX8_describeTable := by decide +kernel
  have F_csta : Cond.static arraycopyName ∈ wsX8_describeTable := by decide +kernel
  have F_cini : Cond.initialized "java/lang/System" ∈ wsX8_describeTable := by decide +kernel
  show V 0 0 [(0, .ref (ad a)), (1, .ref (ad a1))] [] m
  refine r_aload_n C dX8_describeTable_0 rfl 1 rfl ?_
  refine r_iconst C (v := 0) dX8_describeTable_1 (by decide) ?_
  refine r_callS C (c_J7_fill_53178 nw hnw a1 13 0 (isRow_0 ha1) (by have := isRow_b ha1; omega) (by decide)) (As := [.ref (ad a1), .int 0]) (nn := 2) (stk := [.int 0, .ref (ad a1)]) dX8_describeTable_2 gX8_describeTable_J7_fill_53178 ⟨by decide, by decide, by decide +kernel⟩ rfl rfl (by decide) rfl rfl (Nat.le_of_ble_eq_true rfl) (by decide) h (fun r1 m2 h => ?_)
  show V 0 5 [(0, .ref (ad a)), (1, .ref (ad a1))] [] m2
  refine r_aload_n C dX8_describeTable_5 rfl 1 rfl ?_
  refine r_iconst C (v := 0) dX8_describeTable_6 (by decide) ?_
  refine r_iconst C (v := 2) dX8_describeTable_7 (by decide) ?_
  refine r_iast C dX8_describeTable_8 (by have := isRow_b ha1; omega) (isRow_0 ha1) h (fun j3 m4 hj3 _ h => ?_)
  refine r_aload_n C dX8_describeTable_9 rfl 1 rfl ?_
  refine r_iconst C (v := 1) dX8_describeTable_10 (by decide) ?_
  refine r_aload_n C dX8_describeTable_11 rfl 0 rfl ?_
  refine r_geti C (ci := 8) (k9 := 3) dX8_describeTable_12 rfl F_i8 (by decide) F_k22 (by have := isVer_b ha; omega) (isVer_0 ha) rfl ?_
  refine r_iast C dX8_describeTable_15 (by have := isRow_b ha1; omega) (isRow_0 ha1) h (fun j5 m6 hj5 _ h => ?_)
  refine r_aload_n C dX8_describeTable_16 rfl 0 rfl ?_
  refine r_getr C (ci := 8) (k9 := 0) dX8_describeTable_17 rfl F_i8 (by decide) F_k9 (by have := isVer_b ha; omega) (isVer_0 ha) rfl ?_
  refine r_iconst C (v := 0) dX8_describeTable_20 (by decide) ?_
  refine r_aload_n C dX8_describeTable_21 rfl 1 rfl ?_
  refine r_iconst C (v := 4) dX8_describeTable_22 (by decide) ?_
  refine r_bipush C (v := 8) dX8_describeTable_23 (by decide) ?_
  refine r_copy C dX8_describeTable_25 F_c38 F_cnat F_csta F_cini (by have := isVer_b ha; omega) (by have := isRow_b ha1; omega) (isVer_1 ha) (isRow_0 ha1) (by decide) (fun _ => rfl) rfl (by decide) (Nat.le_of_ble_eq_true rfl) h (fun m7 _ h => ?_)
  exact r_vret C dX8_describeTable_28 rfl h
noncomputable def f_X1_computeChecksum_L7 (y1_7 : Int32) (m : sM) (e33_7 : Int32 → Option (sR Int32)) : Nat → Int32 → Int32 → Option (sR Int32)
  | 0, _, _ => none
  | n + 1, x2_7, x3_7 =>
    if 12 ≤ x3_7 then (e33_7 x2_7) else (s_ix y1_7 32 fun j1 => s_ix x3_7 13 fun j2 => f_X1_computeChecksum_L7 y1_7 m e33_7 n ((31 * x2_7) + (m.1 (4 + 1 * j1) j2)) (x3_7 + 1))
noncomputable def f_X1_computeChecksum (p1 : Int32) (m : sM) : Option (sR Int32) :=
  s_jn (fun (x2_33 : Int32) => some (.inl x2_33, m)) fun e33_7 => f_X1_computeChecksum_L7 p1 m e33_7 5000 (p1 + 17) 0
set_option maxRecDepth 20000 in
set_option maxHeartbeats 4000000 in
theorem c_X1_computeChecksum (nw : Nat) (hnw : 109 ≤ nw) (p1 : Int32) : s_Con s_i 0 nw yX1_computeChecksum wsX1_computeChecksum 12 140 0 (f_X1_computeChecksum p1) (fun ad => [.ref (ad 1), .int p1]) := by
  refine s_con_of cX1_computeChecksum 4 (some .int) RX1 (by decide) rfl rfl (fun _ => Nat.le_of_ble_eq_true rfl) (fun ad m res V C h => ?_)
  unfold f_X1_computeChecksum at h
  have F_i1 : ∀ w ∈ wsX10, w ∈ wsX1_computeChecksum := by decide +kernel
  have F_k11 : Cond.fieldLink RX1 11 "ShadowFile$Disk" "cells" "[[I" ∈ wsX1_computeChecksum := by decide +kernel
  show V 0 0 [(0, .ref (ad 1)), (1, .int p1)] [] m
  refine r_iload_n C dX1_computeChecksum_0 rfl 1 rfl ?_
  refine r_bipush C (v := 17) dX1_computeChecksum_1 (by decide) ?_
  refine r_iadd C dX1_computeChecksum_3 ?_
  refine r_istore_n C dX1_computeChecksum_4 rfl (by decide) (show _ = [(2, .int (p1 + 17)), (0, .ref (ad 1)), (1, .int p1)] from rfl) ?_
  refine r_iconst C (v := 0) dX1_computeChecksum_5 (by decide) ?_
  refine r_istore_n C dX1_computeChecksum_6 rfl (by decide) (show _ = [(3, .int 0), (2, .int (p1 + 17)), (0, .ref (ad 1)), (1, .int p1)] from rfl) ?_
  refine s_join h (fun e33_7 => ∀ (x2_33 : Int32), e33_7 x2_33 = some res → V 0 33 [(2, .int x2_33)] [] m) ?_ (fun e33_7 he33_7 h => ?_)
  · intro x2_33 h
    refine r_iload_n C dX1_computeChecksum_33 rfl 0 rfl ?_
    exact r_iret C dX1_computeChecksum_34 rfl h
  have L7 : ∀ (n : Nat) (x2_7 : Int32) (x3_7 : Int32), f_X1_computeChecksum_L7 p1 m e33_7 n x2_7 x3_7 = some res → V 0 7 [(0, .ref (ad 1)), (1, .int p1), (2, .int x2_7), (3, .int x3_7)] [] m := by
    intro n
    induction n with
    | zero => intro x2_7 x3_7 h; rw [f_X1_computeChecksum_L7] at h; cases h
    | succ n ih =>
      intro x2_7 x3_7 h
      rw [f_X1_computeChecksum_L7] at h
      refine r_iload_n C dX1_computeChecksum_7 rfl 3 rfl ?_
      refine r_bipush C (v := 12) dX1_computeChecksum_8 (by decide) ?_
      refine r_icmp_ge C (tgt := 33) dX1_computeChecksum_10 (by decide) h (fun _ h => ?_) (fun _ h => ?_)
      · skip
        refine r_sub C [2] (show _ = [(2, .int x2_7)] from rfl) ?_
        exact he33_7 x2_7 h
      · skip
        refine r_bipush C (v := 31) dX1_computeChecksum_13 (by decide) ?_
        refine r_iload_n C dX1_computeChecksum_15 rfl 2 rfl ?_
        refine r_imul C dX1_computeChecksum_16 ?_
        refine r_aload_n C dX1_computeChecksum_17 rfl 0 rfl ?_
        refine r_getr C (ci := 1) (k9 := 0) dX1_computeChecksum_18 rfl F_i1 (by decide) F_k11 (by omega) la_1 rfl ?_
        refine r_iload_n C dX1_computeChecksum_21 rfl 1 rfl ?_
        refine r_aald C (b0 := 4) (d0 := 1) dX1_computeChecksum_22 (by omega) la_2 (fun _ => rfl) rfl h (fun j1 hj1 h => ?_)
        refine r_iload_n C dX1_computeChecksum_23 rfl 3 rfl ?_
        refine r_iald C dX1_computeChecksum_24 (by have := isRow_b (isRow_d hj1); omega) (isRow_0 (isRow_d hj1)) h (fun j2 hj2 h => ?_)
        refine r_iadd C dX1_computeChecksum_25 ?_
        refine r_istore_n C dX1_computeChecksum_26 rfl (by decide) (show _ = [(2, .int ((31 * x2_7) + (m.1 (4 + 1 * j1) j2))), (0, .ref (ad 1)), (1, .int p1), (3, .int x3_7)] from rfl) ?_
        refine r_iinc C (v := x3_7 + 1) dX1_computeChecksum_27 3 rfl rfl (by decide) (show _ = [(3, .int (x3_7 + 1)), (2, .int ((31 * x2_7) + (m.1 (4 + 1 * j1) j2))), (0, .ref (ad 1)), (1, .int p1)] from rfl) ?_
        refine r_goto C (tgt := 7) dX1_computeChecksum_30 (by decide) ?_
        refine r_sub C [2, 3, 1, 0] (show _ = [(0, .ref (ad 1)), (1, .int p1), (2, .int ((31 * x2_7) + (m.1 (4 + 1 * j1) j2))), (3, .int (x3_7 + 1))] from rfl) ?_
        exact ih ((31 * x2_7) + (m.1 (4 + 1 * j1) j2)) (x3_7 + 1) h
  refine r_sub C [2, 3, 1, 0] (show _ = [(0, .ref (ad 1)), (1, .int p1), (2, .int (p1 + 17)), (3, .int 0)] from rfl) ?_
  exact L7 5000 (p1 + 17) 0 h
noncomputable def f_X1_writeWhole (p1 : Int32) (m : sM) : Option (sR Unit) :=
  s_ix p1 32 fun j1 => s_gd (¬ (0 : Int32) < 0 ∧ ¬ (0 : Int32) < 0 ∧ ¬ (12 : Int32) < 0 ∧ (0 : Int32).toNatClampNeg + (12 : Int32).toNatClampNeg ≤ 13 ∧ (0 : Int32).toNatClampNeg + (12 : Int32).toNatClampNeg ≤ 13 ∧ ∀ i, i < (12 : Int32).toNatClampNeg → fits .int (.int (m.1 3 ((0 : Int32).toNatClampNeg + i))) = true) (s_md (s_cp m 3 (4 + 1 * j1) (0 : Int32).toNatClampNeg (0 : Int32).toNatClampNeg (12 : Int32).toNatClampNeg) fun m2 => s_ix p1 32 fun j3 => s_bd (f_X1_computeChecksum p1 m2) fun r4 m5 => s_ix 12 13 fun j6 => s_md (s_up m5 (4 + 1 * j3) j6 r4) fun m7 => some (.inl (), m7))
set_option maxRecDepth 20000 in
set_option maxHeartbeats 4000000 in
theorem c_X1_writeWhole (nw : Nat) (hnw : 109 ≤ nw) (p1 : Int32) : s_Con s_u 0 nw yX1_writeWhole wsX1_writeWhole 14 185 0 (f_X1_writeWhole p1) (fun ad => [.ref (ad 1), .int p1]) := by
  refine s_con_of cX1_writeWhole 2 none RX1 (by decide) rfl rfl (fun _ => Nat.le_of_ble_eq_true rfl) (fun ad m res V C h => ?_)
  unfold f_X1_writeWhole at h
  have F_i1 : ∀ w ∈ wsX10, w ∈ wsX1_writeWhole := by decide +kernel
  have F_k16 : Cond.fieldLink RX1 16 "ShadowFile$Disk" "draft" "[I" ∈ wsX1_writeWhole := by decide +kernel
  have F_k11 : Cond.fieldLink RX1 11 "ShadowFile$Disk" "cells" "[[I" ∈ wsX1_writeWhole := by decide +kernel
  have F_c26 : Cond.methodLink RX1 26 arraycopyName ∈ wsX1_writeWhole := by decide +kernel
  have F_cnat : Cond.native arraycopyName ∈ wsX1_writeWhole := by decide +kernel
  have F_csta : Cond.static arraycopyName ∈ wsX1_writeWhole := by decide +kernel
  have F_cini : Cond.initialized "java/lang/System" ∈ wsX1_writeWhole := by decide +kernel
  show V 0 0 [(0, .ref (ad 1)), (1, .int p1)] [] m
  refine r_aload_n C dX1_writeWhole_0 rfl 0 rfl ?_
  refine r_getr C (ci := 1) (k9 := 1) dX1_writeWhole_1 rfl F_i1 (by decide) F_k16 (by omega) la_1 rfl ?_
  refine r_iconst C (v := 0) dX1_writeWhole_4 (by decide) ?_
  refine r_aload_n C dX1_writeWhole_5 rfl 0 rfl ?_
  refine r_getr C (ci := 1) (k9 := 0) dX1_writeWhole_6 rfl F_i1 (by decide) F_k11 (by omega) la_1 rfl ?_
  refine r_iload_n C dX1_writeWhole_9 rfl 1 rfl ?_
  refine r_aald C (b0 := 4) (d0 := 1) dX1_writeWhole_10 (by omega) la_2 (fun _ => rfl) rfl h (fun j1 hj1 h => ?_)
  refine r_iconst C (v := 0) dX1_writeWhole_11 (by decide) ?_
  refine r_bipush C (v := 12) dX1_writeWhole_12 (by decide) ?_
  refine r_copy C dX1_writeWhole_14 F_c26 F_cnat F_csta F_cini (by omega) (by have := isRow_b (isRow_d hj1); omega) la_3 (isRow_0 (isRow_d hj1)) (by decide) (fun _ => rfl) rfl (by decide) (Nat.le_of_ble_eq_true rfl) h (fun m2 _ h => ?_)
  refine r_aload_n C dX1_writeWhole_17 rfl 0 rfl ?_
  refine r_getr C (ci := 1) (k9 := 0) dX1_writeWhole_18 rfl F_i1 (by decide) F_k11 (by omega) la_1 rfl ?_
  refine r_iload_n C dX1_writeWhole_21 rfl 1 rfl ?_
  refine r_aald C (b0 := 4) (d0 := 1) dX1_writeWhole_22 (by omega) la_2 (fun _ => rfl) rfl h (fun j3 hj3 h => ?_)
  refine r_bipush C (v := 12) dX1_writeWhole_23 (by decide) ?_
  refine r_aload_n C dX1_writeWhole_25 rfl 0 rfl ?_
  refine r_iload_n C dX1_writeWhole_26 rfl 1 rfl ?_
  refine r_callV C (c_X1_computeChecksum nw hnw p1) (As := [.int p1]) (nn := 1) (stk := [.int p1, .ref (ad 1), .int 12, .ref (ad (4 + 1 * j3))]) (ci := 1) dX1_writeWhole_27 gX1_writeWhole_X1_computeChecksum ⟨rfl, by decide, by decide, by decide +kernel⟩ (by omega) la_1 rfl rfl rfl (by decide) rfl rfl (Nat.le_of_ble_eq_true rfl) (by decide) h (fun r4 m5 h => ?_)
  show V 0 30 [(0, .ref (ad 1)), (1, .int p1)] [.int r4, .int 12, .ref (ad (4 + 1 * j3))] m5
  refine r_iast C dX1_writeWhole_30 (by have := isRow_b (isRow_d hj3); omega) (isRow_0 (isRow_d hj3)) h (fun j6 m7 hj6 _ h => ?_)
  exact r_vret C dX1_writeWhole_31 rfl h
noncomputable def f_X8_describeRoot (a : Nat) (a1 : Nat) (m : sM) : Option (sR Unit) :=
  s_bd (f_J7_fill_53178 a1 13 0 m) fun r1 m2 => s_ix 0 13 fun j3 => s_md (s_up m2 a1 j3 1) fun m4 => s_ix 1 13 fun j5 => s_md (s_up m4 a1 j5 (m4.1 a 3)) fun m6 => s_ix 2 13 fun j7 => s_md (s_up m6 a1 j7 (m6.1 a 5)) fun m8 => some (.inl (), m8)
set_option maxRecDepth 20000 in
set_option maxHeartbeats 4000000 in
theorem c_X8_describeRoot (nw : Nat) (hnw : 109 ≤ nw) (a : Nat) (a1 : Nat) (ha : isVer a) (ha1 : isRow a1) : s_Con s_u 0 nw yX8_describeRoot wsX8_describeRoot 14 185 0 (f_X8_describeRoot a a1) (fun ad => [.ref (ad a), .ref (ad a1)]) := by
  refine s_con_of cX8_describeRoot 2 none RX8 (by decide) rfl rfl (fun _ => Nat.le_of_ble_eq_true rfl) (fun ad m res V C h => ?_)
  unfold f_X8_describeRoot at h
  have F_i8 : ∀ w ∈ wsX80, w ∈ wsX8_describeRoot := by decide +kernel
  have F_k22 : Cond.fieldLink RX8 22 "ShadowFile$Version" "number" "I" ∈ wsX8_describeRoot := by decide +kernel
  have F_k29 : Cond.fieldLink RX8 29 "ShadowFile$Version" "table" "I" ∈ wsX8_describeRoot := by decide +kernel
  show V 0 0 [(0, .ref (ad a)), (1, .ref (ad a1))] [] m
  refine r_aload_n C dX8_describeRoot_0 rfl 1 rfl ?_
  refine r_iconst C (v := 0) dX8_describeRoot_1 (by decide) ?_
  refine r_callS C (c_J7_fill_53178 nw hnw a1 13 0 (isRow_0 ha1) (by have := isRow_b ha1; omega) (by decide)) (As := [.ref (ad a1), .int 0]) (nn := 2) (stk := [.int 0, .ref (ad a1)]) dX8_describeRoot_2 gX8_describeRoot_J7_fill_53178 ⟨by decide, by decide, by decide +kernel⟩ rfl rfl (by decide) rfl rfl (Nat.le_of_ble_eq_true rfl) (by decide) h (fun r1 m2 h => ?_)
  show V 0 5 [(0, .ref (ad a)), (1, .ref (ad a1))] [] m2
  refine r_aload_n C dX8_describeRoot_5 rfl 1 rfl ?_
  refine r_iconst C (v := 0) dX8_describeRoot_6 (by decide) ?_
  refine r_iconst C (v := 1) dX8_describeRoot_7 (by decide) ?_
  refine r_iast C dX8_describeRoot_8 (by have := isRow_b ha1; omega) (isRow_0 ha1) h (fun j3 m4 hj3 _ h => ?_)
  refine r_aload_n C dX8_describeRoot_9 rfl 1 rfl ?_
  refine r_iconst C (v := 1) dX8_describeRoot_10 (by decide) ?_
  refine r_aload_n C dX8_describeRoot_11 rfl 0 rfl ?_
  refine r_geti C (ci := 8) (k9 := 3) dX8_describeRoot_12 rfl F_i8 (by decide) F_k22 (by have := isVer_b ha; omega) (isVer_0 ha) rfl ?_
  refine r_iast C dX8_describeRoot_15 (by have := isRow_b ha1; omega) (isRow_0 ha1) h (fun j5 m6 hj5 _ h => ?_)
  refine r_aload_n C dX8_describeRoot_16 rfl 1 rfl ?_
  refine r_iconst C (v := 2) dX8_describeRoot_17 (by decide) ?_
  refine r_aload_n C dX8_describeRoot_18 rfl 0 rfl ?_
  refine r_geti C (ci := 8) (k9 := 5) dX8_describeRoot_19 rfl F_i8 (by decide) F_k29 (by have := isVer_b ha; omega) (isVer_0 ha) rfl ?_
  refine r_iast C dX8_describeRoot_22 (by have := isRow_b ha1; omega) (isRow_0 ha1) h (fun j7 m8 hj7 _ h => ?_)
  exact r_vret C dX8_describeRoot_23 rfl h
noncomputable def f_X9_makeNewFile (m : sM) : Option (sR Unit) :=
  s_bd (f_X1_wipe m) fun r1 m2 => s_bd (f_X8_makeEmpty 36 m2) fun r3 m4 => s_bd (f_X8_describeTable 36 3 m4) fun r5 m6 => s_bd (f_X1_writeWhole (m6.1 36 5) m6) fun r7 m8 => s_bd (f_X8_describeRoot 36 3 m8) fun r9 m10 => s_bd (f_X1_writeWhole (m10.1 36 4) m10) fun r11 m12 => s_md (s_up m12 0 15 1) fun m13 => some (.inl (), m13)
set_option maxRecDepth 20000 in
set_option maxHeartbeats 4000000 in
theorem c_X9_makeNewFile (nw : Nat) (hnw : 109 ≤ nw) : s_Con s_u 0 nw yX9_makeNewFile wsX9_makeNewFile 16 230 0 (f_X9_makeNewFile) (fun ad => [.ref (ad 0)]) := by
  refine s_con_of cX9_makeNewFile 1 none RX9 (by decide) rfl rfl (fun _ => Nat.le_of_ble_eq_true rfl) (fun ad m res V C h => ?_)
  unfold f_X9_makeNewFile at h
  have F_i9 : ∀ w ∈ wsX90, w ∈ wsX9_makeNewFile := by decide +kernel
  have F_k10 : Cond.fieldLink RX9 10 "ShadowFile" "disk" "LShadowFile$Disk;" ∈ wsX9_makeNewFile := by decide +kernel
  have F_k19 : Cond.fieldLink RX9 19 "ShadowFile" "present" "LShadowFile$Version;" ∈ wsX9_makeNewFile := by decide +kernel
  have F_i1 : ∀ w ∈ wsX10, w ∈ wsX9_makeNewFile := by decide +kernel
  have F_k372 : Cond.fieldLink RX9 372 "ShadowFile$Disk" "draft" "[I" ∈ wsX9_makeNewFile := by decide +kernel
  have F_i8 : ∀ w ∈ wsX80, w ∈ wsX9_makeNewFile := by decide +kernel
  have F_k379 : Cond.fieldLink RX9 379 "ShadowFile$Version" "table" "I" ∈ wsX9_makeNewFile := by decide +kernel
  have F_k388 : Cond.fieldLink RX9 388 "ShadowFile$Version" "root" "I" ∈ wsX9_makeNewFile := by decide +kernel
  have F_k93 : Cond.fieldLink RX9 93 "ShadowFile" "open" "Z" ∈ wsX9_makeNewFile := by decide +kernel
  show V 0 0 [(0, .ref (ad 0))] [] m
  refine r_aload_n C dX9_makeNewFile_0 rfl 0 rfl ?_
  refine r_getr C (ci := 9) (k9 := 0) dX9_makeNewFile_1 rfl F_i9 (by decide) F_k10 (by omega) la_0 rfl ?_
  refine r_callV C (c_X1_wipe nw hnw) (As := []) (nn := 0) (stk := [.ref (ad 1)]) (ci := 1) dX9_makeNewFile_4 gX9_makeNewFile_X1_wipe ⟨rfl, by decide, by decide, by decide +kernel⟩ (by omega) la_1 rfl rfl rfl (by decide) rfl rfl (Nat.le_of_ble_eq_true rfl) (by decide) h (fun r1 m2 h => ?_)
  show V 0 7 [(0, .ref (ad 0))] [] m2
  refine r_aload_n C dX9_makeNewFile_7 rfl 0 rfl ?_
  refine r_getr C (ci := 9) (k9 := 1) dX9_makeNewFile_8 rfl F_i9 (by decide) F_k19 (by omega) la_0 rfl ?_
  refine r_callV C (c_X8_makeEmpty nw hnw 36 (by unfold isVer; omega)) (As := []) (nn := 0) (stk := [.ref (ad 36)]) (ci := 8) dX9_makeNewFile_11 gX9_makeNewFile_X8_makeEmpty ⟨rfl, by decide, by decide, by decide +kernel⟩ (by omega) la_36 rfl rfl rfl (by decide) rfl rfl (Nat.le_of_ble_eq_true rfl) (by decide) h (fun r3 m4 h => ?_)
  show V 0 14 [(0, .ref (ad 0))] [] m4
  refine r_aload_n C dX9_makeNewFile_14 rfl 0 rfl ?_
  refine r_getr C (ci := 9) (k9 := 1) dX9_makeNewFile_15 rfl F_i9 (by decide) F_k19 (by omega) la_0 rfl ?_
  refine r_aload_n C dX9_makeNewFile_18 rfl 0 rfl ?_
  refine r_getr C (ci := 9) (k9 := 0) dX9_makeNewFile_19 rfl F_i9 (by decide) F_k10 (by omega) la_0 rfl ?_
  refine r_getr C (ci := 1) (k9 := 1) dX9_makeNewFile_22 rfl F_i1 (by decide) F_k372 (by omega) la_1 rfl ?_
  refine r_callV C (c_X8_describeTable nw hnw 36 3 (by unfold isVer; omega) (by unfold isRow; omega)) (As := [.ref (ad 3)]) (nn := 1) (stk := [.ref (ad 3), .ref (ad 36)]) (ci := 8) dX9_makeNewFile_25 gX9_makeNewFile_X8_describeTable ⟨rfl, by decide, by decide, by decide +kernel⟩ (by omega) la_36 rfl rfl rfl (by decide) rfl rfl (Nat.le_of_ble_eq_true rfl) (by decide) h (fun r5 m6 h => ?_)
  show V 0 28 [(0, .ref (ad 0))] [] m6
  refine r_aload_n C dX9_makeNewFile_28 rfl 0 rfl ?_
  refine r_getr C (ci := 9) (k9 := 0) dX9_makeNewFile_29 rfl F_i9 (by decide) F_k10 (by omega) la_0 rfl ?_
  refine r_aload_n C dX9_makeNewFile_32 rfl 0 rfl ?_
  refine r_getr C (ci := 9) (k9 := 1) dX9_makeNewFile_33 rfl F_i9 (by decide) F_k19 (by omega) la_0 rfl ?_
  refine r_geti C (ci := 8) (k9 := 5) dX9_makeNewFile_36 rfl F_i8 (by decide) F_k379 (by omega) la_36 rfl ?_
  refine r_callV C (c_X1_writeWhole nw hnw (m6.1 36 5)) (As := [.int (m6.1 36 5)]) (nn := 1) (stk := [.int (m6.1 36 5), .ref (ad 1)]) (ci := 1) dX9_makeNewFile_39 gX9_makeNewFile_X1_writeWhole ⟨rfl, by decide, by decide, by decide +kernel⟩ (by omega) la_1 rfl rfl rfl (by decide) rfl rfl (Nat.le_of_ble_eq_true rfl) (by decide) h (fun r7 m8 h => ?_)
  show V 0 42 [(0, .ref (ad 0))] [] m8
  refine r_aload_n C dX9_makeNewFile_42 rfl 0 rfl ?_
  refine r_getr C (ci := 9) (k9 := 1) dX9_makeNewFile_43 rfl F_i9 (by decide) F_k19 (by omega) la_0 rfl ?_
  refine r_aload_n C dX9_makeNewFile_46 rfl 0 rfl ?_
  refine r_getr C (ci := 9) (k9 := 0) dX9_makeNewFile_47 rfl F_i9 (by decide) F_k10 (by omega) la_0 rfl ?_
  refine r_getr C (ci := 1) (k9 := 1) dX9_makeNewFile_50 rfl F_i1 (by decide) F_k372 (by omega) la_1 rfl ?_
  refine r_callV C (c_X8_describeRoot nw hnw 36 3 (by unfold isVer; omega) (by unfold isRow; omega)) (As := [.ref (ad 3)]) (nn := 1) (stk := [.ref (ad 3), .ref (ad 36)]) (ci := 8) dX9_makeNewFile_53 gX9_makeNewFile_X8_describeRoot ⟨rfl, by decide, by decide, by decide +kernel⟩ (by omega) la_36 rfl rfl rfl (by decide) rfl rfl (Nat.le_of_ble_eq_true rfl) (by decide) h (fun r9 m10 h => ?_)
  show V 0 56 [(0, .ref (ad 0))] [] m10
  refine r_aload_n C dX9_makeNewFile_56 rfl 0 rfl ?_
  refine r_getr C (ci := 9) (k9 := 0) dX9_makeNewFile_57 rfl F_i9 (by decide) F_k10 (by omega) la_0 rfl ?_
  refine r_aload_n C dX9_makeNewFile_60 rfl 0 rfl ?_
  refine r_getr C (ci := 9) (k9 := 1) dX9_makeNewFile_61 rfl F_i9 (by decide) F_k19 (by omega) la_0 rfl ?_
  refine r_geti C (ci := 8) (k9 := 4) dX9_makeNewFile_64 rfl F_i8 (by decide) F_k388 (by omega) la_36 rfl ?_
  refine r_callV C (c_X1_writeWhole nw hnw (m10.1 36 4)) (As := [.int (m10.1 36 4)]) (nn := 1) (stk := [.int (m10.1 36 4), .ref (ad 1)]) (ci := 1) dX9_makeNewFile_67 gX9_makeNewFile_X1_writeWhole ⟨rfl, by decide, by decide, by decide +kernel⟩ (by omega) la_1 rfl rfl rfl (by decide) rfl rfl (Nat.le_of_ble_eq_true rfl) (by decide) h (fun r11 m12 h => ?_)
  show V 0 70 [(0, .ref (ad 0))] [] m12
  refine r_aload_n C dX9_makeNewFile_70 rfl 0 rfl ?_
  refine r_iconst C (v := 1) dX9_makeNewFile_71 (by decide) ?_
  refine r_puti C (ci := 9) (k9 := 15) dX9_makeNewFile_72 rfl F_i9 (by decide) F_k93 (by omega) la_0 rfl tyX9 tyX9_ok nmX9 rfl (tyX9_ok 15 (by decide)) rfl rfl h (fun m13 _ h => ?_)
  exact r_vret C dX9_makeNewFile_75 rfl h
noncomputable def f_X9_format (m : sM) : Option (sR Int32) :=
  s_jn (fun (s0_18 : Int32) => s_bd (f_X9_endSlotsAndPins m) fun r1 m2 => s_bd (f_X9_makeNewFile m2) fun r3 m4 => some (.inl s0_18, m4)) fun k18 => if (m.1 0 15) = 0 then (k18 (-1)) else (k18 (m.1 36 3))
set_option maxRecDepth 20000 in
set_option maxHeartbeats 4000000 in
theorem c_X9_format (nw : Nat) (hnw : 109 ≤ nw) : s_Con s_i 0 nw yX9_format wsX9_format 18 275 0 (f_X9_format) (fun ad => [.ref (ad 0)]) := by
  refine s_con_of cX9_format 2 (some .int) RX9 (by decide) rfl rfl (fun _ => Nat.le_of_ble_eq_true rfl) (fun ad m res V C h => ?_)
  unfold f_X9_format at h
  have F_i9 : ∀ w ∈ wsX90, w ∈ wsX9_format := by decide +kernel
  have F_k93 : Cond.fieldLink RX9 93 "ShadowFile" "open" "Z" ∈ wsX9_format := by decide +kernel
  have F_k19 : Cond.fieldLink RX9 19 "ShadowFile" "present" "LShadowFile$Version;" ∈ wsX9_format := by decide +kernel
  have F_i8 : ∀ w ∈ wsX80, w ∈ wsX9_format := by decide +kernel
  have F_k101 : Cond.fieldLink RX9 101 "ShadowFile$Version" "number" "I" ∈ wsX9_format := by decide +kernel
  show V 0 0 [(0, .ref (ad 0))] [] m
  refine r_aload_n C dX9_format_0 rfl 0 rfl ?_
  refine r_geti C (ci := 9) (k9 := 15) dX9_format_1 rfl F_i9 (by decide) F_k93 (by omega) la_0 rfl ?_
  refine s_join h (fun k18 => ∀ (s0_18 : Int32), k18 s0_18 = some res → V 0 18 [(0, .ref (ad 0))] [.int s0_18] m) ?_ (fun k18 hk18 h => ?_)
  · intro s0_18 h
    refine r_istore_n C dX9_format_18 rfl (by decide) (show _ = [(1, .int s0_18), (0, .ref (ad 0))] from rfl) ?_
    refine r_aload_n C dX9_format_19 rfl 1 rfl ?_
    refine r_callV C (c_X9_endSlotsAndPins nw hnw) (As := []) (nn := 0) (stk := [.ref (ad 0)]) (ci := 9) dX9_format_20 gX9_format_X9_endSlotsAndPins ⟨rfl, by decide, by decide, by decide +kernel⟩ (by omega) la_0 rfl rfl rfl (by decide) rfl rfl (Nat.le_of_ble_eq_true rfl) (by decide) h (fun r1 m2 h => ?_)
    show V 0 23 [(1, .int s0_18), (0, .ref (ad 0))] [] m2
    refine r_aload_n C dX9_format_23 rfl 1 rfl ?_
    refine r_callV C (c_X9_makeNewFile nw hnw) (As := []) (nn := 0) (stk := [.ref (ad 0)]) (ci := 9) dX9_format_24 gX9_format_X9_makeNewFile ⟨rfl, by decide, by decide, by decide +kernel⟩ (by omega) la_0 rfl rfl rfl (by decide) rfl rfl (Nat.le_of_ble_eq_true rfl) (by decide) h (fun r3 m4 h => ?_)
    show V 0 27 [(1, .int s0_18), (0, .ref (ad 0))] [] m4
    refine r_iload_n C dX9_format_27 rfl 0 rfl ?_
    exact r_iret C dX9_format_28 rfl h
  refine r_if_eq C (tgt := 17) dX9_format_4 (by decide) h (fun _ h => ?_) (fun _ h => ?_)
  · skip
    refine r_iconst C (v := -1) dX9_format_17 (by decide) ?_
    exact hk18 (-1) h
  · skip
    refine r_aload_n C dX9_format_7 rfl 0 rfl ?_
    refine r_getr C (ci := 9) (k9 := 1) dX9_format_8 rfl F_i9 (by decide) F_k19 (by omega) la_0 rfl ?_
    refine r_geti C (ci := 8) (k9 := 3) dX9_format_11 rfl F_i8 (by decide) F_k101 (by omega) la_36 rfl ?_
    refine r_goto C (tgt := 18) dX9_format_14 (by decide) ?_
    exact hk18 (m.1 36 3) h
noncomputable def f_X9_requireOpen (m : sM) : Option (sR Unit) :=
  if (m.1 0 15) = 0 then (some (.inr "java/lang/IllegalStateException", m)) else (some (.inl (), m))
set_option maxRecDepth 20000 in
set_option maxHeartbeats 4000000 in
theorem c_X9_requireOpen (nw : Nat) (hnw : 109 ≤ nw) : s_Con s_u 0 nw yX9_requireOpen wsX9_requireOpen 12 140 1 (f_X9_requireOpen) (fun ad => [.ref (ad 0)]) := by
  refine s_con_of cX9_requireOpen 1 none RX9 (by decide) rfl rfl (fun _ => Nat.le_of_ble_eq_true rfl) (fun ad m res V C h => ?_)
  unfold f_X9_requireOpen at h
  have F_i9 : ∀ w ∈ wsX90, w ∈ wsX9_requireOpen := by decide +kernel
  have F_k93 : Cond.fieldLink RX9 93 "ShadowFile" "open" "Z" ∈ wsX9_requireOpen := by decide +kernel
  have F_q117 : Cond.classLink RX9 117 "java/lang/IllegalStateException" ∈ wsX9_requireOpen := by decide +kernel
  have F_u117 : Cond.initialized "java/lang/IllegalStateException" ∈ wsX9_requireOpen := by decide +kernel
  have F_z121 : ∀ w ∈ (vx_atS RX9 121 "java/lang/IllegalStateException" ["java/lang/RuntimeException", "java/lang/Exception"]).filter goodWord, w ∈ wsX9_requireOpen := by decide +kernel
  have F_y121 : ∀ w ∈ (vx_atS RX9 121 "java/lang/IllegalStateException" ["java/lang/RuntimeException", "java/lang/Exception"]).filter (fun w => !goodWord w), w ∈ Cond.castable "java/lang/IllegalStateException" "java/lang/IllegalStateException" :: s_dec.map Cond.declares := by decide +kernel
  have F_v121 : ∀ w ∈ Cond.classLink RX9 117 "java/lang/IllegalStateException" :: Cond.initialized "java/lang/IllegalStateException" :: vx_atS RX9 121 "java/lang/IllegalStateException" ["java/lang/RuntimeException", "java/lang/Exception"], vx_ot w = true := by decide +kernel
  show V 1 0 [(0, .ref (ad 0))] [] m
  refine r_aload_n C dX9_requireOpen_0 rfl 0 rfl ?_
  refine r_geti C (ci := 9) (k9 := 15) dX9_requireOpen_1 rfl F_i9 (by decide) F_k93 (by omega) la_0 rfl ?_
  refine r_if_ne C (tgt := 18) dX9_requireOpen_4 (by decide) h (fun _ h => ?_) (fun _ h => ?_)
  · skip
    exact r_throwW C (text := "the file is closed") (names := ["java/lang/RuntimeException", "java/lang/Exception"]) dX9_requireOpen_7 dX9_requireOpen_10 dX9_requireOpen_11 dX9_requireOpen_14 dX9_requireOpen_17 (by decide) (by decide) F_q117 F_u117 F_z121 F_y121 F_v121 (by decide +kernel) (by decide +kernel) (by decide) (Nat.le_of_ble_eq_true rfl) (by decide) h
  · skip
    exact r_vret C dX9_requireOpen_18 rfl h
noncomputable def f_X9_begin_L6 (m2 : sM) (e41_6 : Option (sR Int32)) (e23_6 : Int32 → Option (sR Int32)) : Nat → Int32 → Option (sR Int32)
  | 0, _ => none
  | n + 1, x1_6 =>
    if 3 ≤ x1_6 then (e41_6) else (s_ix x1_6 3 fun j6 => if (m2.1 (54 + 10 * j6) 3) = 0 then (e23_6 x1_6) else (f_X9_begin_L6 m2 e41_6 e23_6 n (x1_6 + 1)))
noncomputable def f_X9_begin (m : sM) : Option (sR Int32) :=
  s_bd (f_X9_requireOpen m) fun r1 m2 => s_jn (some (.inr "java/lang/IllegalStateException", m2)) fun e41_6 => s_jn (fun (x1_23 : Int32) => s_ix x1_23 3 fun j3 => s_bd (f_X7_reset (54 + 10 * j3) 1 m2) fun r4 m5 => some (.inl x1_23, m5)) fun e23_6 => f_X9_begin_L6 m2 e41_6 e23_6 5000 0
set_option maxRecDepth 20000 in
set_option maxHeartbeats 4000000 in
theorem c_X9_begin (nw : Nat) (hnw : 109 ≤ nw) : s_Con s_i 0 nw yX9_begin wsX9_begin 16 230 2 (f_X9_begin) (fun ad => [.ref (ad 0)]) := by
  refine s_con_of cX9_begin 2 (some .int) RX9 (by decide) rfl rfl (fun _ => Nat.le_of_ble_eq_true rfl) (fun ad m res V C h => ?_)
  unfold f_X9_begin at h
  have F_q117 : Cond.classLink RX9 117 "java/lang/IllegalStateException" ∈ wsX9_begin := by decide +kernel
  have F_u117 : Cond.initialized "java/lang/IllegalStateException" ∈ wsX9_begin := by decide +kernel
  have F_z121 : ∀ w ∈ (vx_atS RX9 121 "java/lang/IllegalStateException" ["java/lang/RuntimeException", "java/lang/Exception"]).filter goodWord, w ∈ wsX9_begin := by decide +kernel
  have F_y121 : ∀ w ∈ (vx_atS RX9 121 "java/lang/IllegalStateException" ["java/lang/RuntimeException", "java/lang/Exception"]).filter (fun w => !goodWord w), w ∈ Cond.castable "java/lang/IllegalStateException" "java/lang/IllegalStateException" :: s_dec.map Cond.declares := by decide +kernel
  have F_v121 : ∀ w ∈ Cond.classLink RX9 117 "java/lang/IllegalStateException" :: Cond.initialized "java/lang/IllegalStateException" :: vx_atS RX9 121 "java/lang/IllegalStateException" ["java/lang/RuntimeException", "java/lang/Exception"], vx_ot w = true := by decide +kernel
  have F_i9 : ∀ w ∈ wsX90, w ∈ wsX9_begin := by decide +kernel
  have F_k42 : Cond.fieldLink RX9 42 "ShadowFile" "slots" "[LShadowFile$Slot;" ∈ wsX9_begin := by decide +kernel
  have F_i7 : ∀ w ∈ wsX70, w ∈ wsX9_begin := by decide +kernel
  have F_k110 : Cond.fieldLink RX9 110 "ShadowFile$Slot" "state" "I" ∈ wsX9_begin := by decide +kernel
  show V 2 0 [(0, .ref (ad 0))] [] m
  refine r_aload_n C dX9_begin_0 rfl 0 rfl ?_
  refine r_callV C (c_X9_requireOpen nw hnw) (As := []) (nn := 0) (stk := [.ref (ad 0)]) (ci := 9) dX9_begin_1 gX9_begin_X9_requireOpen ⟨rfl, by decide, by decide, by decide +kernel⟩ (by omega) la_0 rfl rfl rfl (by decide) rfl rfl (Nat.le_of_ble_eq_true rfl) (by decide) h (fun r1 m2 h => ?_)
  show V 1 4 [(0, .ref (ad 0))] [] m2
  refine r_iconst C (v := 0) dX9_begin_4 (by decide) ?_
  refine r_istore_n C dX9_begin_5 rfl (by decide) (show _ = [(1, .int 0), (0, .ref (ad 0))] from rfl) ?_
  refine s_join h (fun e41_6 => e41_6  = some res → V 1 41 [] [] m2) ?_ (fun e41_6 he41_6 h => ?_)
  · intro  h
    exact r_throw C (text := "no slot is idle") (names := ["java/lang/RuntimeException", "java/lang/Exception"]) dX9_begin_41 dX9_begin_44 dX9_begin_45 dX9_begin_47 dX9_begin_50 (by decide) (by decide) F_q117 F_u117 F_z121 F_y121 F_v121 (by decide +kernel) (by decide +kernel) (by decide) (Nat.le_of_ble_eq_true rfl) (by decide) h
  refine s_join h (fun e23_6 => ∀ (x1_23 : Int32), e23_6 x1_23 = some res → V 1 23 [(0, .ref (ad 0)), (1, .int x1_23)] [] m2) ?_ (fun e23_6 he23_6 h => ?_)
  · intro x1_23 h
    refine r_aload_n C dX9_begin_23 rfl 0 rfl ?_
    refine r_getr C (ci := 9) (k9 := 5) dX9_begin_24 rfl F_i9 (by decide) F_k42 (by omega) la_0 rfl ?_
    refine r_iload_n C dX9_begin_27 rfl 1 rfl ?_
    refine r_aald C (b0 := 54) (d0 := 10) dX9_begin_28 (by omega) la_53 (fun _ => rfl) rfl h (fun j3 hj3 h => ?_)
    refine r_iconst C (v := 1) dX9_begin_29 (by decide) ?_
    refine r_callV C (c_X7_reset nw hnw (54 + 10 * j3) 1 (isSlt_s hj3)) (As := [.int 1]) (nn := 1) (stk := [.int 1, .ref (ad (54 + 10 * j3))]) (ci := 7) dX9_begin_30 gX9_begin_X7_reset ⟨rfl, by decide, by decide, by decide +kernel⟩ (by have := isSlt_b (isSlt_s hj3); omega) (isSlt_0 (isSlt_s hj3)) rfl rfl rfl (by decide) rfl rfl (Nat.le_of_ble_eq_true rfl) (by decide) h (fun r4 m5 h => ?_)
    show V 1 33 [(0, .ref (ad 0)), (1, .int x1_23)] [] m5
    refine r_iload_n C dX9_begin_33 rfl 1 rfl ?_
    exact r_iret C dX9_begin_34 rfl h
  have L6 : ∀ (n : Nat) (x1_6 : Int32), f_X9_begin_L6 m2 e41_6 e23_6 n x1_6 = some res → V 1 6 [(0, .ref (ad 0)), (1, .int x1_6)] [] m2 := by
    intro n
    induction n with
    | zero => intro x1_6 h; rw [f_X9_begin_L6] at h; cases h
    | succ n ih =>
      intro x1_6 h
      rw [f_X9_begin_L6] at h
      refine r_iload_n C dX9_begin_6 rfl 1 rfl ?_
      refine r_iconst C (v := 3) dX9_begin_7 (by decide) ?_
      refine r_icmp_ge C (tgt := 41) dX9_begin_8 (by decide) h (fun _ h => ?_) (fun _ h => ?_)
      · skip
        refine r_sub C [] (show _ = [] from rfl) ?_
        exact he41_6 h
      · skip
        refine r_aload_n C dX9_begin_11 rfl 0 rfl ?_
        refine r_getr C (ci := 9) (k9 := 5) dX9_begin_12 rfl F_i9 (by decide) F_k42 (by omega) la_0 rfl ?_
        refine r_iload_n C dX9_begin_15 rfl 1 rfl ?_
        refine r_aald C (b0 := 54) (d0 := 10) dX9_begin_16 (by omega) la_53 (fun _ => rfl) rfl h (fun j6 hj6 h => ?_)
        refine r_geti C (ci := 7) (k9 := 3) dX9_begin_17 rfl F_i7 (by decide) F_k110 (by have := isSlt_b (isSlt_s hj6); omega) (isSlt_0 (isSlt_s hj6)) rfl ?_
        refine r_if_ne C (tgt := 35) dX9_begin_20 (by decide) h (fun _ h => ?_) (fun _ h => ?_)
        · skip
          exact he23_6 x1_6 h
        · skip
          refine r_iinc C (v := x1_6 + 1) dX9_begin_35 1 rfl rfl (by decide) (show _ = [(1, .int (x1_6 + 1)), (0, .ref (ad 0))] from rfl) ?_
          refine r_goto C (tgt := 6) dX9_begin_38 (by decide) ?_
          refine r_sub C [1, 0] (show _ = [(0, .ref (ad 0)), (1, .int (x1_6 + 1))] from rfl) ?_
          exact ih (x1_6 + 1) h
  refine r_sub C [1, 0] (show _ = [(0, .ref (ad 0)), (1, .int 0)] from rfl) ?_
  exact L6 5000 0 h
noncomputable def f_X9_requireIndex (p0 : Int32) (p1 : Int32) (m : sM) : Option (sR Unit) :=
  s_jn (some (.inr "java/lang/IndexOutOfBoundsException", m)) fun k9 => if p0 < 0 then (k9) else (if p0 < p1 then (some (.inl (), m)) else (k9))
set_option maxRecDepth 20000 in
set_option maxHeartbeats 4000000 in
theorem c_X9_requireIndex (nw : Nat) (hnw : 109 ≤ nw) (p0 : Int32) (p1 : Int32) : s_Con s_u 0 nw yX9_requireIndex wsX9_requireIndex 12 140 1 (f_X9_requireIndex p0 p1) (fun ad => [.int p0, .int p1]) := by
  refine s_con_of cX9_requireIndex 2 none RX9 (by decide) rfl rfl (fun _ => Nat.le_of_ble_eq_true rfl) (fun ad m res V C h => ?_)
  unfold f_X9_requireIndex at h
  have F_q229 : Cond.classLink RX9 229 "java/lang/IndexOutOfBoundsException" ∈ wsX9_requireIndex := by decide +kernel
  have F_u229 : Cond.initialized "java/lang/IndexOutOfBoundsException" ∈ wsX9_requireIndex := by decide +kernel
  have F_z233 : ∀ w ∈ (vx_atS RX9 233 "java/lang/IndexOutOfBoundsException" ["java/lang/RuntimeException", "java/lang/Exception"]).filter goodWord, w ∈ wsX9_requireIndex := by decide +kernel
  have F_y233 : ∀ w ∈ (vx_atS RX9 233 "java/lang/IndexOutOfBoundsException" ["java/lang/RuntimeException", "java/lang/Exception"]).filter (fun w => !goodWord w), w ∈ Cond.castable "java/lang/IndexOutOfBoundsException" "java/lang/IndexOutOfBoundsException" :: s_dec.map Cond.declares := by decide +kernel
  have F_v233 : ∀ w ∈ Cond.classLink RX9 229 "java/lang/IndexOutOfBoundsException" :: Cond.initialized "java/lang/IndexOutOfBoundsException" :: vx_atS RX9 233 "java/lang/IndexOutOfBoundsException" ["java/lang/RuntimeException", "java/lang/Exception"], vx_ot w = true := by decide +kernel
  show V 1 0 [(0, .int p0), (1, .int p1)] [] m
  refine r_iload_n C dX9_requireIndex_0 rfl 0 rfl ?_
  refine s_join h (fun k9 => k9  = some res → V 1 9 [] [] m) ?_ (fun k9 hk9 h => ?_)
  · intro  h
    exact r_throwW C (text := "no such number or index") (names := ["java/lang/RuntimeException", "java/lang/Exception"]) dX9_requireIndex_9 dX9_requireIndex_12 dX9_requireIndex_13 dX9_requireIndex_16 dX9_requireIndex_19 (by decide) (by decide) F_q229 F_u229 F_z233 F_y233 F_v233 (by decide +kernel) (by decide +kernel) (by decide) (Nat.le_of_ble_eq_true rfl) (by decide) h
  refine r_if_lt C (tgt := 9) dX9_requireIndex_1 (by decide) h (fun _ h => ?_) (fun _ h => ?_)
  · skip
    refine r_sub C [] (show _ = [] from rfl) ?_
    exact hk9 h
  · skip
    refine r_iload_n C dX9_requireIndex_4 rfl 0 rfl ?_
    refine r_iload_n C dX9_requireIndex_5 rfl 1 rfl ?_
    refine r_icmp_lt C (tgt := 20) dX9_requireIndex_6 (by decide) h (fun _ h => ?_) (fun _ h => ?_)
    · skip
      exact r_vret C dX9_requireIndex_20 rfl h
    · skip
      refine r_sub C [] (show _ = [] from rfl) ?_
      exact hk9 h
noncomputable def f_X9_requireSlot (p0 : Int32) (m : sM) : Option (sR Unit) :=
  s_bd (f_X9_requireIndex p0 3 m) fun r1 m2 => some (.inl (), m2)
set_option maxRecDepth 20000 in
set_option maxHeartbeats 4000000 in
theorem c_X9_requireSlot (nw : Nat) (hnw : 109 ≤ nw) (p0 : Int32) : s_Con s_u 0 nw yX9_requireSlot wsX9_requireSlot 14 185 1 (f_X9_requireSlot p0) (fun ad => [.int p0]) := by
  refine s_con_of cX9_requireSlot 1 none RX9 (by decide) rfl rfl (fun _ => Nat.le_of_ble_eq_true rfl) (fun ad m res V C h => ?_)
  unfold f_X9_requireSlot at h
  show V 1 0 [(0, .int p0)] [] m
  refine r_iload_n C dX9_requireSlot_0 rfl 0 rfl ?_
  refine r_iconst C (v := 3) dX9_requireSlot_1 (by decide) ?_
  refine r_callS C (c_X9_requireIndex nw hnw p0 3) (As := [.int p0, .int 3]) (nn := 2) (stk := [.int 3, .int p0]) dX9_requireSlot_2 gX9_requireSlot_X9_requireIndex ⟨by decide, by decide, by decide +kernel⟩ rfl rfl (by decide) rfl rfl (Nat.le_of_ble_eq_true rfl) (by decide) h (fun r1 m2 h => ?_)
  show V 0 5 [(0, .int p0)] [] m2
  exact r_vret C dX9_requireSlot_5 rfl h
noncomputable def f_X9_requireKey (p0 : Int32) (m : sM) : Option (sR Unit) :=
  s_jn (some (.inr "java/lang/IllegalArgumentException", m)) fun k10 => if p0 < 0 then (k10) else (if p0 < 64 then (some (.inl (), m)) else (k10))
set_option maxRecDepth 20000 in
set_option maxHeartbeats 4000000 in
theorem c_X9_requireKey (nw : Nat) (hnw : 109 ≤ nw) (p0 : Int32) : s_Con s_u 0 nw yX9_requireKey wsX9_requireKey 12 140 1 (f_X9_requireKey p0) (fun ad => [.int p0]) := by
  refine s_con_of cX9_requireKey 1 none RX9 (by decide) rfl rfl (fun _ => Nat.le_of_ble_eq_true rfl) (fun ad m res V C h => ?_)
  unfold f_X9_requireKey at h
  have F_q130 : Cond.classLink RX9 130 "java/lang/IllegalArgumentException" ∈ wsX9_requireKey := by decide +kernel
  have F_u130 : Cond.initialized "java/lang/IllegalArgumentException" ∈ wsX9_requireKey := by decide +kernel
  have F_z134 : ∀ w ∈ (vx_atS RX9 134 "java/lang/IllegalArgumentException" ["java/lang/RuntimeException", "java/lang/Exception"]).filter goodWord, w ∈ wsX9_requireKey := by decide +kernel
  have F_y134 : ∀ w ∈ (vx_atS RX9 134 "java/lang/IllegalArgumentException" ["java/lang/RuntimeException", "java/lang/Exception"]).filter (fun w => !goodWord w), w ∈ Cond.castable "java/lang/IllegalArgumentException" "java/lang/IllegalArgumentException" :: s_dec.map Cond.declares := by decide +kernel
  have F_v134 : ∀ w ∈ Cond.classLink RX9 130 "java/lang/IllegalArgumentException" :: Cond.initialized "java/lang/IllegalArgumentException" :: vx_atS RX9 134 "java/lang/IllegalArgumentException" ["java/lang/RuntimeException", "java/lang/Exception"], vx_ot w = true := by decide +kernel
  show V 1 0 [(0, .int p0)] [] m
  refine r_iload_n C dX9_requireKey_0 rfl 0 rfl ?_
  refine s_join h (fun k10 => k10  = some res → V 1 10 [] [] m) ?_ (fun k10 hk10 h => ?_)
  · intro  h
    exact r_throwW C (text := "the key is out of range") (names := ["java/lang/RuntimeException", "java/lang/Exception"]) dX9_requireKey_10 dX9_requireKey_13 dX9_requireKey_14 dX9_requireKey_17 dX9_requireKey_20 (by decide) (by decide) F_q130 F_u130 F_z134 F_y134 F_v134 (by decide +kernel) (by decide +kernel) (by decide) (Nat.le_of_ble_eq_true rfl) (by decide) h
  refine r_if_lt C (tgt := 10) dX9_requireKey_1 (by decide) h (fun _ h => ?_) (fun _ h => ?_)
  · skip
    refine r_sub C [] (show _ = [] from rfl) ?_
    exact hk10 h
  · skip
    refine r_iload_n C dX9_requireKey_4 rfl 0 rfl ?_
    refine r_bipush C (v := 64) dX9_requireKey_5 (by decide) ?_
    refine r_icmp_lt C (tgt := 21) dX9_requireKey_7 (by decide) h (fun _ h => ?_) (fun _ h => ?_)
    · skip
      exact r_vret C dX9_requireKey_21 rfl h
    · skip
      refine r_sub C [] (show _ = [] from rfl) ?_
      exact hk10 h
noncomputable def f_X9_requireActive (p1 : Int32) (m : sM) : Option (sR Unit) :=
  s_ix p1 3 fun j1 => if (m.1 (54 + 10 * j1) 3) = 1 then (some (.inl (), m)) else (some (.inr "java/lang/IllegalStateException", m))
set_option maxRecDepth 20000 in
set_option maxHeartbeats 4000000 in
theorem c_X9_requireActive (nw : Nat) (hnw : 109 ≤ nw) (p1 : Int32) : s_Con s_u 0 nw yX9_requireActive wsX9_requireActive 12 140 1 (f_X9_requireActive p1) (fun ad => [.ref (ad 0), .int p1]) := by
  refine s_con_of cX9_requireActive 2 none RX9 (by decide) rfl rfl (fun _ => Nat.le_of_ble_eq_true rfl) (fun ad m res V C h => ?_)
  unfold f_X9_requireActive at h
  have F_i9 : ∀ w ∈ wsX90, w ∈ wsX9_requireActive := by decide +kernel
  have F_k42 : Cond.fieldLink RX9 42 "ShadowFile" "slots" "[LShadowFile$Slot;" ∈ wsX9_requireActive := by decide +kernel
  have F_i7 : ∀ w ∈ wsX70, w ∈ wsX9_requireActive := by decide +kernel
  have F_k110 : Cond.fieldLink RX9 110 "ShadowFile$Slot" "state" "I" ∈ wsX9_requireActive := by decide +kernel
  have F_q117 : Cond.classLink RX9 117 "java/lang/IllegalStateException" ∈ wsX9_requireActive := by decide +kernel
  have F_u117 : Cond.initialized "java/lang/IllegalStateException" ∈ wsX9_requireActive := by decide +kernel
  have F_z121 : ∀ w ∈ (vx_atS RX9 121 "java/lang/IllegalStateException" ["java/lang/RuntimeException", "java/lang/Exception"]).filter goodWord, w ∈ wsX9_requireActive := by decide +kernel
  have F_y121 : ∀ w ∈ (vx_atS RX9 121 "java/lang/IllegalStateException" ["java/lang/RuntimeException", "java/lang/Exception"]).filter (fun w => !goodWord w), w ∈ Cond.castable "java/lang/IllegalStateException" "java/lang/IllegalStateException" :: s_dec.map Cond.declares := by decide +kernel
  have F_v121 : ∀ w ∈ Cond.classLink RX9 117 "java/lang/IllegalStateException" :: Cond.initialized "java/lang/IllegalStateException" :: vx_atS RX9 121 "java/lang/IllegalStateException" ["java/lang/RuntimeException", "java/lang/Exception"], vx_ot w = true := by decide +kernel
  show V 1 0 [(0, .ref (ad 0)), (1, .int p1)] [] m
  refine r_aload_n C dX9_requireActive_0 rfl 0 rfl ?_
  refine r_getr C (ci := 9) (k9 := 5) dX9_requireActive_1 rfl F_i9 (by decide) F_k42 (by omega) la_0 rfl ?_
  refine r_iload_n C dX9_requireActive_4 rfl 1 rfl ?_
  refine r_aald C (b0 := 54) (d0 := 10) dX9_requireActive_5 (by omega) la_53 (fun _ => rfl) rfl h (fun j1 hj1 h => ?_)
  refine r_geti C (ci := 7) (k9 := 3) dX9_requireActive_6 rfl F_i7 (by decide) F_k110 (by have := isSlt_b (isSlt_s hj1); omega) (isSlt_0 (isSlt_s hj1)) rfl ?_
  refine r_iconst C (v := 1) dX9_requireActive_9 (by decide) ?_
  refine r_icmp_eq C (tgt := 24) dX9_requireActive_10 (by decide) h (fun _ h => ?_) (fun _ h => ?_)
  · skip
    exact r_vret C dX9_requireActive_24 rfl h
  · skip
    exact r_throwW C (text := "the slot is not active") (names := ["java/lang/RuntimeException", "java/lang/Exception"]) dX9_requireActive_13 dX9_requireActive_16 dX9_requireActive_17 dX9_requireActive_20 dX9_requireActive_23 (by decide) (by decide) F_q117 F_u117 F_z121 F_y121 F_v121 (by decide +kernel) (by decide +kernel) (by decide) (Nat.le_of_ble_eq_true rfl) (by decide) h
