noncomputable def f_X10_thrown (m : sM) : Option (sR Int32) :=
  some (.inl (m.1 110 0), m)
set_option maxRecDepth 20000 in
set_option maxHeartbeats 4000000 in
theorem c_X10_thrown (nw : Nat) (hnw : 29 ≤ nw) : s_Con s_i 110 nw yX10_thrown wsX10_thrown 12 140 0 (f_X10_thrown) (fun ad => [.ref (ad 110)]) := by
  refine s_con_of cX10_thrown 1 (some .int) RX10 (by decide) rfl rfl (fun _ => Nat.le_of_ble_eq_true rfl) (fun ad m res V C h => ?_)
  unfold f_X10_thrown at h
  have F_i10 : ∀ w ∈ wsX100, w ∈ wsX10_thrown := by decide +kernel
  have F_k100 : Cond.fieldLink RX10 100 "ShadowFileModel" "thrown" "I" ∈ wsX10_thrown := by decide +kernel
  show V 0 0 [(0, .ref (ad 110))] [] m
  refine r_aload_n C dX10_thrown_0 rfl 0 rfl ?_
  refine r_geti C (ci := 10) (k9 := 0) dX10_thrown_1 rfl F_i10 (by decide) F_k100 (by omega) la_110 rfl ?_
  exact r_iret C dX10_thrown_4 rfl h
noncomputable def f_X10_fails (p1 : Int32) (m : sM) : Option (sR Int32) :=
  s_md (s_up m 110 0 p1) fun m1 => some (.inl 0, m1)
set_option maxRecDepth 20000 in
set_option maxHeartbeats 4000000 in
theorem c_X10_fails (nw : Nat) (hnw : 29 ≤ nw) (p1 : Int32) : s_Con s_i 110 nw yX10_fails wsX10_fails 12 140 0 (f_X10_fails p1) (fun ad => [.ref (ad 110), .int p1]) := by
  refine s_con_of cX10_fails 2 (some .int) RX10 (by decide) rfl rfl (fun _ => Nat.le_of_ble_eq_true rfl) (fun ad m res V C h => ?_)
  unfold f_X10_fails at h
  have F_i10 : ∀ w ∈ wsX100, w ∈ wsX10_fails := by decide +kernel
  have F_k100 : Cond.fieldLink RX10 100 "ShadowFileModel" "thrown" "I" ∈ wsX10_fails := by decide +kernel
  show V 0 0 [(0, .ref (ad 110)), (1, .int p1)] [] m
  refine r_aload_n C dX10_fails_0 rfl 0 rfl ?_
  refine r_iload_n C dX10_fails_1 rfl 1 rfl ?_
  refine r_puti C (ci := 10) (k9 := 0) dX10_fails_2 rfl F_i10 (by decide) F_k100 (by omega) la_110 rfl tyX10 tyX10_ok nmX10 rfl (tyX10_ok 0 (by decide)) rfl rfl h (fun m1 _ h => ?_)
  refine r_iconst C (v := 0) dX10_fails_5 (by decide) ?_
  exact r_iret C dX10_fails_6 rfl h
noncomputable def f_X10_in (p0 : Int32) (p1 : Int32) (p2 : Int32) (m : sM) : Option (sR Int32) :=
  s_jn (fun (s0_15 : Int32) => s_gd (s0_15 = 0 ∨ s0_15 = 1) (some (.inl s0_15, m))) fun k15 => s_jn (k15 0) fun k14 => if p0 < p1 then (k14) else (if p2 < p0 then (k14) else (k15 1))
set_option maxRecDepth 20000 in
set_option maxHeartbeats 4000000 in
theorem c_X10_in (nw : Nat) (hnw : 29 ≤ nw) (p0 : Int32) (p1 : Int32) (p2 : Int32) : s_Con s_i 110 nw yX10_in wsX10_in 12 140 0 (f_X10_in p0 p1 p2) (fun ad => [.int p0, .int p1, .int p2]) := by
  refine s_con_of cX10_in 3 (some .boolean) RX10 (by decide) rfl rfl (fun _ => Nat.le_of_ble_eq_true rfl) (fun ad m res V C h => ?_)
  unfold f_X10_in at h
  show V 0 0 [(0, .int p0), (1, .int p1), (2, .int p2)] [] m
  refine r_iload_n C dX10_in_0 rfl 0 rfl ?_
  refine r_iload_n C dX10_in_1 rfl 1 rfl ?_
  refine s_join h (fun k15 => ∀ (s0_15 : Int32), k15 s0_15 = some res → V 0 15 [] [.int s0_15] m) ?_ (fun k15 hk15 h => ?_)
  · intro s0_15 h
    obtain ⟨hg, h⟩ := s_gd_of h
    exact r_zret C dX10_in_15 rfl (s_z hg) h
  refine s_join h (fun k14 => k14  = some res → V 0 14 [] [] m) ?_ (fun k14 hk14 h => ?_)
  · intro  h
    refine r_iconst C (v := 0) dX10_in_14 (by decide) ?_
    exact hk15 0 h
  refine r_icmp_lt C (tgt := 14) dX10_in_2 (by decide) h (fun _ h => ?_) (fun _ h => ?_)
  · skip
    refine r_sub C [] (show _ = [] from rfl) ?_
    exact hk14 h
  · skip
    refine r_iload_n C dX10_in_5 rfl 0 rfl ?_
    refine r_iload_n C dX10_in_6 rfl 2 rfl ?_
    refine r_icmp_gt C (tgt := 14) dX10_in_7 (by decide) h (fun _ h => ?_) (fun _ h => ?_)
    · skip
      refine r_sub C [] (show _ = [] from rfl) ?_
      exact hk14 h
    · skip
      refine r_iconst C (v := 1) dX10_in_10 (by decide) ?_
      refine r_goto C (tgt := 15) dX10_in_11 (by decide) ?_
      refine r_sub C [] (show _ = [] from rfl) ?_
      exact hk15 1 h
noncomputable def f_X10_isKey (p0 : Int32) (m : sM) : Option (sR Int32) :=
  s_bd (f_X10_in p0 0 63 m) fun r1 m2 => s_gd (r1 = 0 ∨ r1 = 1) (some (.inl r1, m2))
set_option maxRecDepth 20000 in
set_option maxHeartbeats 4000000 in
theorem c_X10_isKey (nw : Nat) (hnw : 29 ≤ nw) (p0 : Int32) : s_Con s_i 110 nw yX10_isKey wsX10_isKey 14 185 0 (f_X10_isKey p0) (fun ad => [.int p0]) := by
  refine s_con_of cX10_isKey 1 (some .boolean) RX10 (by decide) rfl rfl (fun _ => Nat.le_of_ble_eq_true rfl) (fun ad m res V C h => ?_)
  unfold f_X10_isKey at h
  show V 0 0 [(0, .int p0)] [] m
  refine r_iload_n C dX10_isKey_0 rfl 0 rfl ?_
  refine r_iconst C (v := 0) dX10_isKey_1 (by decide) ?_
  refine r_bipush C (v := 63) dX10_isKey_2 (by decide) ?_
  refine r_callS C (c_X10_in nw hnw p0 0 63) (As := [.int p0, .int 0, .int 63]) (nn := 3) (stk := [.int 63, .int 0, .int p0]) dX10_isKey_4 gX10_isKey_X10_in ⟨by decide, by decide, by decide +kernel⟩ rfl rfl (by decide) rfl rfl (Nat.le_of_ble_eq_true rfl) (by decide) h (fun r1 m2 h => ?_)
  show V 0 7 [(0, .int p0)] [.int r1] m2
  obtain ⟨hg, h⟩ := s_gd_of h
  exact r_zret C dX10_isKey_7 rfl (s_z hg) h
noncomputable def f_X10_isSlot (p0 : Int32) (m : sM) : Option (sR Int32) :=
  s_bd (f_X10_in p0 0 2 m) fun r1 m2 => s_gd (r1 = 0 ∨ r1 = 1) (some (.inl r1, m2))
set_option maxRecDepth 20000 in
set_option maxHeartbeats 4000000 in
theorem c_X10_isSlot (nw : Nat) (hnw : 29 ≤ nw) (p0 : Int32) : s_Con s_i 110 nw yX10_isSlot wsX10_isSlot 14 185 0 (f_X10_isSlot p0) (fun ad => [.int p0]) := by
  refine s_con_of cX10_isSlot 1 (some .boolean) RX10 (by decide) rfl rfl (fun _ => Nat.le_of_ble_eq_true rfl) (fun ad m res V C h => ?_)
  unfold f_X10_isSlot at h
  show V 0 0 [(0, .int p0)] [] m
  refine r_iload_n C dX10_isSlot_0 rfl 0 rfl ?_
  refine r_iconst C (v := 0) dX10_isSlot_1 (by decide) ?_
  refine r_iconst C (v := 2) dX10_isSlot_2 (by decide) ?_
  refine r_callS C (c_X10_in nw hnw p0 0 2) (As := [.int p0, .int 0, .int 2]) (nn := 3) (stk := [.int 2, .int 0, .int p0]) dX10_isSlot_3 gX10_isSlot_X10_in ⟨by decide, by decide, by decide +kernel⟩ rfl rfl (by decide) rfl rfl (Nat.le_of_ble_eq_true rfl) (by decide) h (fun r1 m2 h => ?_)
  show V 0 6 [(0, .int p0)] [.int r1] m2
  obtain ⟨hg, h⟩ := s_gd_of h
  exact r_zret C dX10_isSlot_6 rfl (s_z hg) h
noncomputable def f_X10_isBlock (p0 : Int32) (m : sM) : Option (sR Int32) :=
  s_bd (f_X10_in p0 0 31 m) fun r1 m2 => s_gd (r1 = 0 ∨ r1 = 1) (some (.inl r1, m2))
set_option maxRecDepth 20000 in
set_option maxHeartbeats 4000000 in
theorem c_X10_isBlock (nw : Nat) (hnw : 29 ≤ nw) (p0 : Int32) : s_Con s_i 110 nw yX10_isBlock wsX10_isBlock 14 185 0 (f_X10_isBlock p0) (fun ad => [.int p0]) := by
  refine s_con_of cX10_isBlock 1 (some .boolean) RX10 (by decide) rfl rfl (fun _ => Nat.le_of_ble_eq_true rfl) (fun ad m res V C h => ?_)
  unfold f_X10_isBlock at h
  show V 0 0 [(0, .int p0)] [] m
  refine r_iload_n C dX10_isBlock_0 rfl 0 rfl ?_
  refine r_iconst C (v := 0) dX10_isBlock_1 (by decide) ?_
  refine r_bipush C (v := 31) dX10_isBlock_2 (by decide) ?_
  refine r_callS C (c_X10_in nw hnw p0 0 31) (As := [.int p0, .int 0, .int 31]) (nn := 3) (stk := [.int 31, .int 0, .int p0]) dX10_isBlock_4 gX10_isBlock_X10_in ⟨by decide, by decide, by decide +kernel⟩ rfl rfl (by decide) rfl rfl (Nat.le_of_ble_eq_true rfl) (by decide) h (fun r1 m2 h => ?_)
  show V 0 7 [(0, .int p0)] [.int r1] m2
  obtain ⟨hg, h⟩ := s_gd_of h
  exact r_zret C dX10_isBlock_7 rfl (s_z hg) h
noncomputable def f_X10_at (p1 : Int32) (p2 : Int32) (m : sM) : Option (sR Int32) :=
  s_ix ((13 * p1) + p2) 416 fun j1 => some (.inl (m.1 111 j1), m)
set_option maxRecDepth 20000 in
set_option maxHeartbeats 4000000 in
theorem c_X10_at (nw : Nat) (hnw : 29 ≤ nw) (p1 : Int32) (p2 : Int32) : s_Con s_i 110 nw yX10_at wsX10_at 12 140 0 (f_X10_at p1 p2) (fun ad => [.ref (ad 110), .int p1, .int p2]) := by
  refine s_con_of cX10_at 3 (some .int) RX10 (by decide) rfl rfl (fun _ => Nat.le_of_ble_eq_true rfl) (fun ad m res V C h => ?_)
  unfold f_X10_at at h
  have F_i10 : ∀ w ∈ wsX100, w ∈ wsX10_at := by decide +kernel
  have F_k9 : Cond.fieldLink RX10 9 "ShadowFileModel" "disk" "[I" ∈ wsX10_at := by decide +kernel
  show V 0 0 [(0, .ref (ad 110)), (1, .int p1), (2, .int p2)] [] m
  refine r_aload_n C dX10_at_0 rfl 0 rfl ?_
  refine r_getr C (ci := 10) (k9 := 1) dX10_at_1 rfl F_i10 (by decide) F_k9 (by omega) la_110 rfl ?_
  refine r_bipush C (v := 13) dX10_at_4 (by decide) ?_
  refine r_iload_n C dX10_at_6 rfl 1 rfl ?_
  refine r_imul C dX10_at_7 ?_
  refine r_iload_n C dX10_at_8 rfl 2 rfl ?_
  refine r_iadd C dX10_at_9 ?_
  refine r_iald C dX10_at_10 (by omega) la_111 h (fun j1 hj1 h => ?_)
  exact r_iret C dX10_at_11 rfl h
noncomputable def f_X10_sumOf_L7 (y1_7 : Int32) (e31_7 : Int32 → sM → Option (sR Int32)) : Nat → Int32 → Int32 → sM → Option (sR Int32)
  | 0, _, _, _ => none
  | n + 1, x2_7, x3_7, m7_ =>
    if 12 ≤ x3_7 then (e31_7 x2_7 m7_) else (s_bd (f_X10_at y1_7 x3_7 m7_) fun r1 m2 => f_X10_sumOf_L7 y1_7 e31_7 n ((31 * x2_7) + r1) (x3_7 + 1) m2)
noncomputable def f_X10_sumOf (p1 : Int32) (m : sM) : Option (sR Int32) :=
  s_jn (fun (x2_31 : Int32) (m31_ : sM) => some (.inl x2_31, m31_)) fun e31_7 => f_X10_sumOf_L7 p1 e31_7 5000 (p1 + 17) 0 m
set_option maxRecDepth 20000 in
set_option maxHeartbeats 4000000 in
theorem c_X10_sumOf (nw : Nat) (hnw : 29 ≤ nw) (p1 : Int32) : s_Con s_i 110 nw yX10_sumOf wsX10_sumOf 14 185 0 (f_X10_sumOf p1) (fun ad => [.ref (ad 110), .int p1]) := by
  refine s_con_of cX10_sumOf 4 (some .int) RX10 (by decide) rfl rfl (fun _ => Nat.le_of_ble_eq_true rfl) (fun ad m res V C h => ?_)
  unfold f_X10_sumOf at h
  show V 0 0 [(0, .ref (ad 110)), (1, .int p1)] [] m
  refine r_iload_n C dX10_sumOf_0 rfl 1 rfl ?_
  refine r_bipush C (v := 17) dX10_sumOf_1 (by decide) ?_
  refine r_iadd C dX10_sumOf_3 ?_
  refine r_istore_n C dX10_sumOf_4 rfl (by decide) (show _ = [(2, .int (p1 + 17)), (0, .ref (ad 110)), (1, .int p1)] from rfl) ?_
  refine r_iconst C (v := 0) dX10_sumOf_5 (by decide) ?_
  refine r_istore_n C dX10_sumOf_6 rfl (by decide) (show _ = [(3, .int 0), (2, .int (p1 + 17)), (0, .ref (ad 110)), (1, .int p1)] from rfl) ?_
  refine s_join h (fun e31_7 => ∀ (x2_31 : Int32) (m31_ : sM), e31_7 x2_31 m31_ = some res → V 0 31 [(2, .int x2_31)] [] m31_) ?_ (fun e31_7 he31_7 h => ?_)
  · intro x2_31 m31_ h
    refine r_iload_n C dX10_sumOf_31 rfl 0 rfl ?_
    exact r_iret C dX10_sumOf_32 rfl h
  have L7 : ∀ (n : Nat) (x2_7 : Int32) (x3_7 : Int32) (m7_ : sM), f_X10_sumOf_L7 p1 e31_7 n x2_7 x3_7 m7_ = some res → V 0 7 [(0, .ref (ad 110)), (1, .int p1), (2, .int x2_7), (3, .int x3_7)] [] m7_ := by
    intro n
    induction n with
    | zero => intro x2_7 x3_7 m7_ h; rw [f_X10_sumOf_L7] at h; cases h
    | succ n ih =>
      intro x2_7 x3_7 m7_ h
      rw [f_X10_sumOf_L7] at h
      refine r_iload_n C dX10_sumOf_7 rfl 3 rfl ?_
      refine r_bipush C (v := 12) dX10_sumOf_8 (by decide) ?_
      refine r_icmp_ge C (tgt := 31) dX10_sumOf_10 (by decide) h (fun _ h => ?_) (fun _ h => ?_)
      · skip
        refine r_sub C [2] (show _ = [(2, .int x2_7)] from rfl) ?_
        exact he31_7 x2_7 m7_ h
      · skip
        refine r_bipush C (v := 31) dX10_sumOf_13 (by decide) ?_
        refine r_iload_n C dX10_sumOf_15 rfl 2 rfl ?_
        refine r_imul C dX10_sumOf_16 ?_
        refine r_aload_n C dX10_sumOf_17 rfl 0 rfl ?_
        refine r_iload_n C dX10_sumOf_18 rfl 1 rfl ?_
        refine r_iload_n C dX10_sumOf_19 rfl 3 rfl ?_
        refine r_callV C (c_X10_at nw hnw p1 x3_7) (As := [.int p1, .int x3_7]) (nn := 2) (stk := [.int x3_7, .int p1, .ref (ad 110), .int (31 * x2_7)]) (ci := 10) dX10_sumOf_20 gX10_sumOf_X10_at ⟨rfl, by decide, by decide, by decide +kernel⟩ (by omega) la_110 rfl rfl rfl (by decide) rfl rfl (Nat.le_of_ble_eq_true rfl) (by decide) h (fun r1 m2 h => ?_)
        show V 0 23 [(0, .ref (ad 110)), (1, .int p1), (2, .int x2_7), (3, .int x3_7)] [.int r1, .int (31 * x2_7)] m2
        refine r_iadd C dX10_sumOf_23 ?_
        refine r_istore_n C dX10_sumOf_24 rfl (by decide) (show _ = [(2, .int ((31 * x2_7) + r1)), (0, .ref (ad 110)), (1, .int p1), (3, .int x3_7)] from rfl) ?_
        refine r_iinc C (v := x3_7 + 1) dX10_sumOf_25 3 rfl rfl (by decide) (show _ = [(3, .int (x3_7 + 1)), (2, .int ((31 * x2_7) + r1)), (0, .ref (ad 110)), (1, .int p1)] from rfl) ?_
        refine r_goto C (tgt := 7) dX10_sumOf_28 (by decide) ?_
        refine r_sub C [2, 3, 1, 0] (show _ = [(0, .ref (ad 110)), (1, .int p1), (2, .int ((31 * x2_7) + r1)), (3, .int (x3_7 + 1))] from rfl) ?_
        exact ih ((31 * x2_7) + r1) (x3_7 + 1) m2 h
  refine r_sub C [2, 3, 1, 0] (show _ = [(0, .ref (ad 110)), (1, .int p1), (2, .int (p1 + 17)), (3, .int 0)] from rfl) ?_
  exact L7 5000 (p1 + 17) 0 m h
noncomputable def f_X10_valid (p1 : Int32) (m : sM) : Option (sR Int32) :=
  s_bd (f_X10_at p1 12 m) fun r1 m2 => s_bd (f_X10_sumOf p1 m2) fun r3 m4 => s_jn (fun (s0_20 : Int32) => s_gd (s0_20 = 0 ∨ s0_20 = 1) (some (.inl s0_20, m4))) fun k20 => if r1 = r3 then (k20 1) else (k20 0)
set_option maxRecDepth 20000 in
set_option maxHeartbeats 4000000 in
theorem c_X10_valid (nw : Nat) (hnw : 29 ≤ nw) (p1 : Int32) : s_Con s_i 110 nw yX10_valid wsX10_valid 16 230 0 (f_X10_valid p1) (fun ad => [.ref (ad 110), .int p1]) := by
  refine s_con_of cX10_valid 2 (some .boolean) RX10 (by decide) rfl rfl (fun _ => Nat.le_of_ble_eq_true rfl) (fun ad m res V C h => ?_)
  unfold f_X10_valid at h
  show V 0 0 [(0, .ref (ad 110)), (1, .int p1)] [] m
  refine r_aload_n C dX10_valid_0 rfl 0 rfl ?_
  refine r_iload_n C dX10_valid_1 rfl 1 rfl ?_
  refine r_bipush C (v := 12) dX10_valid_2 (by decide) ?_
  refine r_callV C (c_X10_at nw hnw p1 12) (As := [.int p1, .int 12]) (nn := 2) (stk := [.int 12, .int p1, .ref (ad 110)]) (ci := 10) dX10_valid_4 gX10_valid_X10_at ⟨rfl, by decide, by decide, by decide +kernel⟩ (by omega) la_110 rfl rfl rfl (by decide) rfl rfl (Nat.le_of_ble_eq_true rfl) (by decide) h (fun r1 m2 h => ?_)
  show V 0 7 [(0, .ref (ad 110)), (1, .int p1)] [.int r1] m2
  refine r_aload_n C dX10_valid_7 rfl 0 rfl ?_
  refine r_iload_n C dX10_valid_8 rfl 1 rfl ?_
  refine r_callV C (c_X10_sumOf nw hnw p1) (As := [.int p1]) (nn := 1) (stk := [.int p1, .ref (ad 110), .int r1]) (ci := 10) dX10_valid_9 gX10_valid_X10_sumOf ⟨rfl, by decide, by decide, by decide +kernel⟩ (by omega) la_110 rfl rfl rfl (by decide) rfl rfl (Nat.le_of_ble_eq_true rfl) (by decide) h (fun r3 m4 h => ?_)
  show V 0 12 [(0, .ref (ad 110)), (1, .int p1)] [.int r3, .int r1] m4
  refine s_join h (fun k20 => ∀ (s0_20 : Int32), k20 s0_20 = some res → V 0 20 [] [.int s0_20] m4) ?_ (fun k20 hk20 h => ?_)
  · intro s0_20 h
    obtain ⟨hg, h⟩ := s_gd_of h
    exact r_zret C dX10_valid_20 rfl (s_z hg) h
  refine r_icmp_ne C (tgt := 19) dX10_valid_12 (by decide) h (fun _ h => ?_) (fun _ h => ?_)
  · skip
    refine r_iconst C (v := 1) dX10_valid_15 (by decide) ?_
    refine r_goto C (tgt := 20) dX10_valid_16 (by decide) ?_
    refine r_sub C [] (show _ = [] from rfl) ?_
    exact hk20 1 h
  · skip
    refine r_iconst C (v := 0) dX10_valid_19 (by decide) ?_
    refine r_sub C [] (show _ = [] from rfl) ?_
    exact hk20 0 h
noncomputable def f_X10_setSum (p1 : Int32) (m : sM) : Option (sR Unit) :=
  s_bd (f_X10_sumOf p1 m) fun r1 m2 => s_ix ((13 * p1) + 12) 416 fun j3 => s_md (s_up m2 111 j3 r1) fun m4 => some (.inl (), m4)
set_option maxRecDepth 20000 in
set_option maxHeartbeats 4000000 in
theorem c_X10_setSum (nw : Nat) (hnw : 29 ≤ nw) (p1 : Int32) : s_Con s_u 110 nw yX10_setSum wsX10_setSum 16 230 0 (f_X10_setSum p1) (fun ad => [.ref (ad 110), .int p1]) := by
  refine s_con_of cX10_setSum 2 none RX10 (by decide) rfl rfl (fun _ => Nat.le_of_ble_eq_true rfl) (fun ad m res V C h => ?_)
  unfold f_X10_setSum at h
  have F_i10 : ∀ w ∈ wsX100, w ∈ wsX10_setSum := by decide +kernel
  have F_k9 : Cond.fieldLink RX10 9 "ShadowFileModel" "disk" "[I" ∈ wsX10_setSum := by decide +kernel
  show V 0 0 [(0, .ref (ad 110)), (1, .int p1)] [] m
  refine r_aload_n C dX10_setSum_0 rfl 0 rfl ?_
  refine r_getr C (ci := 10) (k9 := 1) dX10_setSum_1 rfl F_i10 (by decide) F_k9 (by omega) la_110 rfl ?_
  refine r_bipush C (v := 13) dX10_setSum_4 (by decide) ?_
  refine r_iload_n C dX10_setSum_6 rfl 1 rfl ?_
  refine r_imul C dX10_setSum_7 ?_
  refine r_bipush C (v := 12) dX10_setSum_8 (by decide) ?_
  refine r_iadd C dX10_setSum_10 ?_
  refine r_aload_n C dX10_setSum_11 rfl 0 rfl ?_
  refine r_iload_n C dX10_setSum_12 rfl 1 rfl ?_
  refine r_callV C (c_X10_sumOf nw hnw p1) (As := [.int p1]) (nn := 1) (stk := [.int p1, .ref (ad 110), .int ((13 * p1) + 12), .ref (ad 111)]) (ci := 10) dX10_setSum_13 gX10_setSum_X10_sumOf ⟨rfl, by decide, by decide, by decide +kernel⟩ (by omega) la_110 rfl rfl rfl (by decide) rfl rfl (Nat.le_of_ble_eq_true rfl) (by decide) h (fun r1 m2 h => ?_)
  show V 0 16 [(0, .ref (ad 110)), (1, .int p1)] [.int r1, .int ((13 * p1) + 12), .ref (ad 111)] m2
  refine r_iast C dX10_setSum_16 (by omega) la_111 h (fun j3 m4 hj3 _ h => ?_)
  exact r_vret C dX10_setSum_17 rfl h
noncomputable def f_X10_idle_L16 (y1_16 : Int32) (e40_16 : sM → Option (sR Unit)) : Nat → Int32 → sM → Option (sR Unit)
  | 0, _, _ => none
  | n + 1, x2_16, m16_ =>
    if 64 ≤ x2_16 then (e40_16  m16_) else (s_ix ((64 * y1_16) + x2_16) 192 fun j5 => s_md (s_up m16_ 119 j5 (vp_nar .boolean 0)) fun m6 => f_X10_idle_L16 y1_16 e40_16 n (x2_16 + 1) m6)
noncomputable def f_X10_idle (p1 : Int32) (m : sM) : Option (sR Unit) :=
  s_ix p1 3 fun j1 => s_md (s_up m 118 j1 0) fun m2 => s_ix p1 3 fun j3 => s_md (s_up m2 122 j3 0) fun m4 => s_jn (fun (m40_ : sM) => some (.inl (), m40_)) fun e40_16 => f_X10_idle_L16 p1 e40_16 5000 0 m4
set_option maxRecDepth 20000 in
set_option maxHeartbeats 4000000 in
theorem c_X10_idle (nw : Nat) (hnw : 29 ≤ nw) (p1 : Int32) : s_Con s_u 110 nw yX10_idle wsX10_idle 12 140 0 (f_X10_idle p1) (fun ad => [.ref (ad 110), .int p1]) := by
  refine s_con_of cX10_idle 3 none RX10 (by decide) rfl rfl (fun _ => Nat.le_of_ble_eq_true rfl) (fun ad m res V C h => ?_)
  unfold f_X10_idle at h
  have F_i10 : ∀ w ∈ wsX100, w ∈ wsX10_idle := by decide +kernel
  have F_k32 : Cond.fieldLink RX10 32 "ShadowFileModel" "state" "[I" ∈ wsX10_idle := by decide +kernel
  have F_k44 : Cond.fieldLink RX10 44 "ShadowFileModel" "marks" "[I" ∈ wsX10_idle := by decide +kernel
  have F_k35 : Cond.fieldLink RX10 35 "ShadowFileModel" "changes" "[Z" ∈ wsX10_idle := by decide +kernel
  show V 0 0 [(0, .ref (ad 110)), (1, .int p1)] [] m
  refine r_aload_n C dX10_idle_0 rfl 0 rfl ?_
  refine r_getr C (ci := 10) (k9 := 10) dX10_idle_1 rfl F_i10 (by decide) F_k32 (by omega) la_110 rfl ?_
  refine r_iload_n C dX10_idle_4 rfl 1 rfl ?_
  refine r_iconst C (v := 0) dX10_idle_5 (by decide) ?_
  refine r_iast C dX10_idle_6 (by omega) la_118 h (fun j1 m2 hj1 _ h => ?_)
  refine r_aload_n C dX10_idle_7 rfl 0 rfl ?_
  refine r_getr C (ci := 10) (k9 := 14) dX10_idle_8 rfl F_i10 (by decide) F_k44 (by omega) la_110 rfl ?_
  refine r_iload_n C dX10_idle_11 rfl 1 rfl ?_
  refine r_iconst C (v := 0) dX10_idle_12 (by decide) ?_
  refine r_iast C dX10_idle_13 (by omega) la_122 h (fun j3 m4 hj3 _ h => ?_)
  refine r_iconst C (v := 0) dX10_idle_14 (by decide) ?_
  refine r_istore_n C dX10_idle_15 rfl (by decide) (show _ = [(2, .int 0), (0, .ref (ad 110)), (1, .int p1)] from rfl) ?_
  refine s_join h (fun e40_16 => ∀ (m40_ : sM), e40_16 m40_ = some res → V 0 40 [] [] m40_) ?_ (fun e40_16 he40_16 h => ?_)
  · intro m40_ h
    exact r_vret C dX10_idle_40 rfl h
  have L16 : ∀ (n : Nat) (x2_16 : Int32) (m16_ : sM), f_X10_idle_L16 p1 e40_16 n x2_16 m16_ = some res → V 0 16 [(0, .ref (ad 110)), (1, .int p1), (2, .int x2_16)] [] m16_ := by
    intro n
    induction n with
    | zero => intro x2_16 m16_ h; rw [f_X10_idle_L16] at h; cases h
    | succ n ih =>
      intro x2_16 m16_ h
      rw [f_X10_idle_L16] at h
      refine r_iload_n C dX10_idle_16 rfl 2 rfl ?_
      refine r_bipush C (v := 64) dX10_idle_17 (by decide) ?_
      refine r_icmp_ge C (tgt := 40) dX10_idle_19 (by decide) h (fun _ h => ?_) (fun _ h => ?_)
      · skip
        refine r_sub C [] (show _ = [] from rfl) ?_
        exact he40_16 m16_ h
      · skip
        refine r_aload_n C dX10_idle_22 rfl 0 rfl ?_
        refine r_getr C (ci := 10) (k9 := 11) dX10_idle_23 rfl F_i10 (by decide) F_k35 (by omega) la_110 rfl ?_
        refine r_bipush C (v := 64) dX10_idle_26 (by decide) ?_
        refine r_iload_n C dX10_idle_28 rfl 1 rfl ?_
        refine r_imul C dX10_idle_29 ?_
        refine r_iload_n C dX10_idle_30 rfl 2 rfl ?_
        refine r_iadd C dX10_idle_31 ?_
        refine r_iconst C (v := 0) dX10_idle_32 (by decide) ?_
        refine r_zast C dX10_idle_33 (by omega) la_119 h (fun j5 m6 hj5 _ h => ?_)
        refine r_iinc C (v := x2_16 + 1) dX10_idle_34 2 rfl rfl (by decide) (show _ = [(2, .int (x2_16 + 1)), (0, .ref (ad 110)), (1, .int p1)] from rfl) ?_
        refine r_goto C (tgt := 16) dX10_idle_37 (by decide) ?_
        refine r_sub C [1, 2, 0] (show _ = [(0, .ref (ad 110)), (1, .int p1), (2, .int (x2_16 + 1))] from rfl) ?_
        exact ih (x2_16 + 1) m6 h
  refine r_sub C [1, 2, 0] (show _ = [(0, .ref (ad 110)), (1, .int p1), (2, .int 0)] from rfl) ?_
  exact L16 5000 0 m4 h
noncomputable def f_X10_restart_L25 (e43_25 : sM → Option (sR Unit)) : Nat → Int32 → sM → Option (sR Unit)
  | 0, _, _ => none
  | n + 1, x1_25, m25_ =>
    if 2 ≤ x1_25 then (e43_25  m25_) else (s_ix x1_25 2 fun j2 => s_md (s_up m25_ 117 j2 (vp_nar .boolean 0)) fun m3 => f_X10_restart_L25 e43_25 n (x1_25 + 1) m3)
noncomputable def f_X10_restart_L2 (e18_2 : sM → Option (sR Unit)) : Nat → Int32 → sM → Option (sR Unit)
  | 0, _, _ => none
  | n + 1, x1_2, m2_ =>
    if 3 ≤ x1_2 then (e18_2  m2_) else (s_bd (f_X10_idle x1_2 m2_) fun r4 m5 => f_X10_restart_L2 e18_2 n (x1_2 + 1) m5)
noncomputable def f_X10_restart (m : sM) : Option (sR Unit) :=
  s_jn (fun (m18_ : sM) => s_md (s_up m18_ 110 19 0) fun m1 => s_jn (fun (m43_ : sM) => some (.inl (), m43_)) fun e43_25 => f_X10_restart_L25 e43_25 5000 0 m1) fun e18_2 => f_X10_restart_L2 e18_2 5000 0 m
set_option maxRecDepth 20000 in
set_option maxHeartbeats 4000000 in
theorem c_X10_restart (nw : Nat) (hnw : 29 ≤ nw) : s_Con s_u 110 nw yX10_restart wsX10_restart 14 185 0 (f_X10_restart) (fun ad => [.ref (ad 110)]) := by
  refine s_con_of cX10_restart 2 none RX10 (by decide) rfl rfl (fun _ => Nat.le_of_ble_eq_true rfl) (fun ad m res V C h => ?_)
  unfold f_X10_restart at h
  have F_i10 : ∀ w ∈ wsX100, w ∈ wsX10_restart := by decide +kernel
  have F_k133 : Cond.fieldLink RX10 133 "ShadowFileModel" "ready" "I" ∈ wsX10_restart := by decide +kernel
  have F_k29 : Cond.fieldLink RX10 29 "ShadowFileModel" "isPinned" "[Z" ∈ wsX10_restart := by decide +kernel
  show V 0 0 [(0, .ref (ad 110))] [] m
  refine r_iconst C (v := 0) dX10_restart_0 (by decide) ?_
  refine r_istore_n C dX10_restart_1 rfl (by decide) (show _ = [(1, .int 0), (0, .ref (ad 110))] from rfl) ?_
  refine s_join h (fun e18_2 => ∀ (m18_ : sM), e18_2 m18_ = some res → V 0 18 [(0, .ref (ad 110))] [] m18_) ?_ (fun e18_2 he18_2 h => ?_)
  · intro m18_ h
    refine r_aload_n C dX10_restart_18 rfl 0 rfl ?_
    refine r_iconst C (v := 0) dX10_restart_19 (by decide) ?_
    refine r_puti C (ci := 10) (k9 := 19) dX10_restart_20 rfl F_i10 (by decide) F_k133 (by omega) la_110 rfl tyX10 tyX10_ok nmX10 rfl (tyX10_ok 19 (by decide)) rfl rfl h (fun m1 _ h => ?_)
    refine r_iconst C (v := 0) dX10_restart_23 (by decide) ?_
    refine r_istore_n C dX10_restart_24 rfl (by decide) (show _ = [(1, .int 0), (0, .ref (ad 110))] from rfl) ?_
    refine s_join h (fun e43_25 => ∀ (m43_ : sM), e43_25 m43_ = some res → V 0 43 [] [] m43_) ?_ (fun e43_25 he43_25 h => ?_)
    · intro m43_ h
      exact r_vret C dX10_restart_43 rfl h
    have L25 : ∀ (n : Nat) (x1_25 : Int32) (m25_ : sM), f_X10_restart_L25 e43_25 n x1_25 m25_ = some res → V 0 25 [(0, .ref (ad 110)), (1, .int x1_25)] [] m25_ := by
      intro n
      induction n with
      | zero => intro x1_25 m25_ h; rw [f_X10_restart_L25] at h; cases h
      | succ n ih =>
        intro x1_25 m25_ h
        rw [f_X10_restart_L25] at h
        refine r_iload_n C dX10_restart_25 rfl 1 rfl ?_
        refine r_iconst C (v := 2) dX10_restart_26 (by decide) ?_
        refine r_icmp_ge C (tgt := 43) dX10_restart_27 (by decide) h (fun _ h => ?_) (fun _ h => ?_)
        · skip
          refine r_sub C [] (show _ = [] from rfl) ?_
          exact he43_25 m25_ h
        · skip
          refine r_aload_n C dX10_restart_30 rfl 0 rfl ?_
          refine r_getr C (ci := 10) (k9 := 9) dX10_restart_31 rfl F_i10 (by decide) F_k29 (by omega) la_110 rfl ?_
          refine r_iload_n C dX10_restart_34 rfl 1 rfl ?_
          refine r_iconst C (v := 0) dX10_restart_35 (by decide) ?_
          refine r_zast C dX10_restart_36 (by omega) la_117 h (fun j2 m3 hj2 _ h => ?_)
          refine r_iinc C (v := x1_25 + 1) dX10_restart_37 1 rfl rfl (by decide) (show _ = [(1, .int (x1_25 + 1)), (0, .ref (ad 110))] from rfl) ?_
          refine r_goto C (tgt := 25) dX10_restart_40 (by decide) ?_
          refine r_sub C [1, 0] (show _ = [(0, .ref (ad 110)), (1, .int (x1_25 + 1))] from rfl) ?_
          exact ih (x1_25 + 1) m3 h
    refine r_sub C [1, 0] (show _ = [(0, .ref (ad 110)), (1, .int 0)] from rfl) ?_
    exact L25 5000 0 m1 h
  have L2 : ∀ (n : Nat) (x1_2 : Int32) (m2_ : sM), f_X10_restart_L2 e18_2 n x1_2 m2_ = some res → V 0 2 [(0, .ref (ad 110)), (1, .int x1_2)] [] m2_ := by
    intro n
    induction n with
    | zero => intro x1_2 m2_ h; rw [f_X10_restart_L2] at h; cases h
    | succ n ih =>
      intro x1_2 m2_ h
      rw [f_X10_restart_L2] at h
      refine r_iload_n C dX10_restart_2 rfl 1 rfl ?_
      refine r_iconst C (v := 3) dX10_restart_3 (by decide) ?_
      refine r_icmp_ge C (tgt := 18) dX10_restart_4 (by decide) h (fun _ h => ?_) (fun _ h => ?_)
      · skip
        refine r_sub C [0] (show _ = [(0, .ref (ad 110))] from rfl) ?_
        exact he18_2 m2_ h
      · skip
        refine r_aload_n C dX10_restart_7 rfl 0 rfl ?_
        refine r_iload_n C dX10_restart_8 rfl 1 rfl ?_
        refine r_callV C (c_X10_idle nw hnw x1_2) (As := [.int x1_2]) (nn := 1) (stk := [.int x1_2, .ref (ad 110)]) (ci := 10) dX10_restart_9 gX10_restart_X10_idle ⟨rfl, by decide, by decide, by decide +kernel⟩ (by omega) la_110 rfl rfl rfl (by decide) rfl rfl (Nat.le_of_ble_eq_true rfl) (by decide) h (fun r4 m5 h => ?_)
        show V 0 12 [(0, .ref (ad 110)), (1, .int x1_2)] [] m5
        refine r_iinc C (v := x1_2 + 1) dX10_restart_12 1 rfl rfl (by decide) (show _ = [(1, .int (x1_2 + 1)), (0, .ref (ad 110))] from rfl) ?_
        refine r_goto C (tgt := 2) dX10_restart_15 (by decide) ?_
        refine r_sub C [1, 0] (show _ = [(0, .ref (ad 110)), (1, .int (x1_2 + 1))] from rfl) ?_
        exact ih (x1_2 + 1) m5 h
  refine r_sub C [1, 0] (show _ = [(0, .ref (ad 110)), (1, .int 0)] from rfl) ?_
  exact L2 5000 0 m h
noncomputable def f_X10_format_L142 (y1_142 : Int32) (e161_142 : sM → Option (sR Int32)) : Nat → Int32 → sM → Option (sR Int32)
  | 0, _, _ => none
  | n + 1, x2_142, m142_ =>
    if 64 ≤ x2_142 then (e161_142  m142_) else (s_ix x2_142 192 fun j20 => s_md (s_up m142_ 115 j20 (vp_nar .boolean 0)) fun m21 => f_X10_format_L142 y1_142 e161_142 n (x2_142 + 1) m21)
noncomputable def f_X10_format_L121 (y1_121 : Int32) (e140_121 : sM → Option (sR Int32)) : Nat → Int32 → sM → Option (sR Int32)
  | 0, _, _ => none
  | n + 1, x2_121, m121_ =>
    if 8 ≤ x2_121 then (e140_121  m121_) else (s_ix x2_121 24 fun j22 => s_md (s_up m121_ 114 j22 (-1)) fun m23 => f_X10_format_L121 y1_121 e140_121 n (x2_121 + 1) m23)
noncomputable def f_X10_format_L74 (y1_74 : Int32) (e96_74 : sM → Option (sR Int32)) : Nat → Int32 → sM → Option (sR Int32)
  | 0, _, _ => none
  | n + 1, x2_74, m74_ =>
    if 8 ≤ x2_74 then (e96_74  m74_) else (s_ix (30 + x2_74) 416 fun j24 => s_md (s_up m74_ 111 j24 (-1)) fun m25 => f_X10_format_L74 y1_74 e96_74 n (x2_74 + 1) m25)
noncomputable def f_X10_format_L25 (y1_25 : Int32) (e45_25 : sM → Option (sR Int32)) : Nat → Int32 → sM → Option (sR Int32)
  | 0, _, _ => none
  | n + 1, x2_25, m25_ =>
    if 416 ≤ x2_25 then (e45_25  m25_) else (s_ix x2_25 416 fun j26 => s_md (s_up m25_ 111 j26 0) fun m27 => f_X10_format_L25 y1_25 e45_25 n (x2_25 + 1) m27)
noncomputable def f_X10_format (m : sM) : Option (sR Int32) :=
  s_md (s_up m 110 0 0) fun m1 => s_jn (fun (s0_22 : Int32) => s_jn (fun (m45_ : sM) => s_ix 0 416 fun j2 => s_md (s_up m45_ 111 j2 1) fun m3 => s_ix 2 416 fun j4 => s_md (s_up m3 111 j4 2) fun m5 => s_bd (f_X10_setSum 0 m5) fun r6 m7 => s_ix 26 416 fun j8 => s_md (s_up m7 111 j8 2) fun m9 => s_jn (fun (m96_ : sM) => s_bd (f_X10_setSum 2 m96_) fun r10 m11 => s_bd (f_X10_restart m11) fun r12 m13 => s_ix 0 3 fun j14 => s_md (s_up m13 112 j14 0) fun m15 => s_ix 0 3 fun j16 => s_md (s_up m15 113 j16 2) fun m17 => s_jn (fun (m140_ : sM) => s_jn (fun (m161_ : sM) => s_md (s_up m161_ 110 2 1) fun m18 => s_md (s_up m18 110 3 0) fun m19 => some (.inl s0_22, m19)) fun e161_142 => f_X10_format_L142 s0_22 e161_142 5000 0 m140_) fun e140_121 => f_X10_format_L121 s0_22 e140_121 5000 0 m17) fun e96_74 => f_X10_format_L74 s0_22 e96_74 5000 0 m9) fun e45_25 => f_X10_format_L25 s0_22 e45_25 5000 0 m1) fun k22 => if (m1.1 110 2) = 0 then (k22 (-1)) else (s_ix 0 3 fun j28 => k22 (m1.1 112 j28))
set_option maxRecDepth 20000 in
set_option maxHeartbeats 4000000 in
theorem c_X10_format (nw : Nat) (hnw : 29 ≤ nw) : s_Con s_i 110 nw yX10_format wsX10_format 18 275 0 (f_X10_format) (fun ad => [.ref (ad 110)]) := by
  refine s_con_of cX10_format 3 (some .int) RX10 (by decide) rfl rfl (fun _ => Nat.le_of_ble_eq_true rfl) (fun ad m res V C h => ?_)
  unfold f_X10_format at h
  have F_i10 : ∀ w ∈ wsX100, w ∈ wsX10_format := by decide +kernel
  have F_k100 : Cond.fieldLink RX10 100 "ShadowFileModel" "thrown" "I" ∈ wsX10_format := by decide +kernel
  have F_k116 : Cond.fieldLink RX10 116 "ShadowFileModel" "isOpen" "Z" ∈ wsX10_format := by decide +kernel
  have F_k9 : Cond.fieldLink RX10 9 "ShadowFileModel" "disk" "[I" ∈ wsX10_format := by decide +kernel
  have F_k13 : Cond.fieldLink RX10 13 "ShadowFileModel" "number" "[I" ∈ wsX10_format := by decide +kernel
  have F_k16 : Cond.fieldLink RX10 16 "ShadowFileModel" "tableOf" "[I" ∈ wsX10_format := by decide +kernel
  have F_k127 : Cond.fieldLink RX10 127 "ShadowFileModel" "rootBlock" "I" ∈ wsX10_format := by decide +kernel
  have F_k22 : Cond.fieldLink RX10 22 "ShadowFileModel" "has" "[Z" ∈ wsX10_format := by decide +kernel
  have F_k19 : Cond.fieldLink RX10 19 "ShadowFileModel" "pageOf" "[I" ∈ wsX10_format := by decide +kernel
  show V 0 0 [(0, .ref (ad 110))] [] m
  refine r_aload_n C dX10_format_0 rfl 0 rfl ?_
  refine r_iconst C (v := 0) dX10_format_1 (by decide) ?_
  refine r_puti C (ci := 10) (k9 := 0) dX10_format_2 rfl F_i10 (by decide) F_k100 (by omega) la_110 rfl tyX10 tyX10_ok nmX10 rfl (tyX10_ok 0 (by decide)) rfl rfl h (fun m1 _ h => ?_)
  refine r_aload_n C dX10_format_5 rfl 0 rfl ?_
  refine r_geti C (ci := 10) (k9 := 2) dX10_format_6 rfl F_i10 (by decide) F_k116 (by omega) la_110 rfl ?_
  refine s_join h (fun k22 => ∀ (s0_22 : Int32), k22 s0_22 = some res → V 0 22 [(0, .ref (ad 110))] [.int s0_22] m1) ?_ (fun k22 hk22 h => ?_)
  · intro s0_22 h
    refine r_istore_n C dX10_format_22 rfl (by decide) (show _ = [(1, .int s0_22), (0, .ref (ad 110))] from rfl) ?_
    refine r_iconst C (v := 0) dX10_format_23 (by decide) ?_
    refine r_istore_n C dX10_format_24 rfl (by decide) (show _ = [(2, .int 0), (1, .int s0_22), (0, .ref (ad 110))] from rfl) ?_
    refine s_join h (fun e45_25 => ∀ (m45_ : sM), e45_25 m45_ = some res → V 0 45 [(0, .ref (ad 110)), (1, .int s0_22)] [] m45_) ?_ (fun e45_25 he45_25 h => ?_)
    · intro m45_ h
      refine r_aload_n C dX10_format_45 rfl 0 rfl ?_
      refine r_getr C (ci := 10) (k9 := 1) dX10_format_46 rfl F_i10 (by decide) F_k9 (by omega) la_110 rfl ?_
      refine r_iconst C (v := 0) dX10_format_49 (by decide) ?_
      refine r_iconst C (v := 1) dX10_format_50 (by decide) ?_
      refine r_iast C dX10_format_51 (by omega) la_111 h (fun j2 m3 hj2 _ h => ?_)
      refine r_aload_n C dX10_format_52 rfl 0 rfl ?_
      refine r_getr C (ci := 10) (k9 := 1) dX10_format_53 rfl F_i10 (by decide) F_k9 (by omega) la_110 rfl ?_
      refine r_iconst C (v := 2) dX10_format_56 (by decide) ?_
      refine r_iconst C (v := 2) dX10_format_57 (by decide) ?_
      refine r_iast C dX10_format_58 (by omega) la_111 h (fun j4 m5 hj4 _ h => ?_)
      refine r_aload_n C dX10_format_59 rfl 0 rfl ?_
      refine r_iconst C (v := 0) dX10_format_60 (by decide) ?_
      refine r_callV C (c_X10_setSum nw hnw 0) (As := [.int 0]) (nn := 1) (stk := [.int 0, .ref (ad 110)]) (ci := 10) dX10_format_61 gX10_format_X10_setSum ⟨rfl, by decide, by decide, by decide +kernel⟩ (by omega) la_110 rfl rfl rfl (by decide) rfl rfl (Nat.le_of_ble_eq_true rfl) (by decide) h (fun r6 m7 h => ?_)
      show V 0 64 [(0, .ref (ad 110)), (1, .int s0_22)] [] m7
      refine r_aload_n C dX10_format_64 rfl 0 rfl ?_
      refine r_getr C (ci := 10) (k9 := 1) dX10_format_65 rfl F_i10 (by decide) F_k9 (by omega) la_110 rfl ?_
      refine r_bipush C (v := 26) dX10_format_68 (by decide) ?_
      refine r_iconst C (v := 2) dX10_format_70 (by decide) ?_
      refine r_iast C dX10_format_71 (by omega) la_111 h (fun j8 m9 hj8 _ h => ?_)
      refine r_iconst C (v := 0) dX10_format_72 (by decide) ?_
      refine r_istore_n C dX10_format_73 rfl (by decide) (show _ = [(2, .int 0), (0, .ref (ad 110)), (1, .int s0_22)] from rfl) ?_
      refine s_join h (fun e96_74 => ∀ (m96_ : sM), e96_74 m96_ = some res → V 0 96 [(0, .ref (ad 110)), (1, .int s0_22)] [] m96_) ?_ (fun e96_74 he96_74 h => ?_)
      · intro m96_ h
        refine r_aload_n C dX10_format_96 rfl 0 rfl ?_
        refine r_iconst C (v := 2) dX10_format_97 (by decide) ?_
        refine r_callV C (c_X10_setSum nw hnw 2) (As := [.int 2]) (nn := 1) (stk := [.int 2, .ref (ad 110)]) (ci := 10) dX10_format_98 gX10_format_X10_setSum ⟨rfl, by decide, by decide, by decide +kernel⟩ (by omega) la_110 rfl rfl rfl (by decide) rfl rfl (Nat.le_of_ble_eq_true rfl) (by decide) h (fun r10 m11 h => ?_)
        show V 0 101 [(0, .ref (ad 110)), (1, .int s0_22)] [] m11
        refine r_aload_n C dX10_format_101 rfl 0 rfl ?_
        refine r_callV C (c_X10_restart nw hnw) (As := []) (nn := 0) (stk := [.ref (ad 110)]) (ci := 10) dX10_format_102 gX10_format_X10_restart ⟨rfl, by decide, by decide, by decide +kernel⟩ (by omega) la_110 rfl rfl rfl (by decide) rfl rfl (Nat.le_of_ble_eq_true rfl) (by decide) h (fun r12 m13 h => ?_)
        show V 0 105 [(0, .ref (ad 110)), (1, .int s0_22)] [] m13
        refine r_aload_n C dX10_format_105 rfl 0 rfl ?_
        refine r_getr C (ci := 10) (k9 := 4) dX10_format_106 rfl F_i10 (by decide) F_k13 (by omega) la_110 rfl ?_
        refine r_iconst C (v := 0) dX10_format_109 (by decide) ?_
        refine r_iconst C (v := 0) dX10_format_110 (by decide) ?_
        refine r_iast C dX10_format_111 (by omega) la_112 h (fun j14 m15 hj14 _ h => ?_)
        refine r_aload_n C dX10_format_112 rfl 0 rfl ?_
        refine r_getr C (ci := 10) (k9 := 5) dX10_format_113 rfl F_i10 (by decide) F_k16 (by omega) la_110 rfl ?_
        refine r_iconst C (v := 0) dX10_format_116 (by decide) ?_
        refine r_iconst C (v := 2) dX10_format_117 (by decide) ?_
        refine r_iast C dX10_format_118 (by omega) la_113 h (fun j16 m17 hj16 _ h => ?_)
        refine r_iconst C (v := 0) dX10_format_119 (by decide) ?_
        refine r_istore_n C dX10_format_120 rfl (by decide) (show _ = [(2, .int 0), (0, .ref (ad 110)), (1, .int s0_22)] from rfl) ?_
        refine s_join h (fun e140_121 => ∀ (m140_ : sM), e140_121 m140_ = some res → V 0 140 [(0, .ref (ad 110)), (1, .int s0_22)] [] m140_) ?_ (fun e140_121 he140_121 h => ?_)
        · intro m140_ h
          refine r_iconst C (v := 0) dX10_format_140 (by decide) ?_
          refine r_istore_n C dX10_format_141 rfl (by decide) (show _ = [(2, .int 0), (0, .ref (ad 110)), (1, .int s0_22)] from rfl) ?_
          refine s_join h (fun e161_142 => ∀ (m161_ : sM), e161_142 m161_ = some res → V 0 161 [(0, .ref (ad 110)), (1, .int s0_22)] [] m161_) ?_ (fun e161_142 he161_142 h => ?_)
          · intro m161_ h
            refine r_aload_n C dX10_format_161 rfl 0 rfl ?_
            refine r_iconst C (v := 1) dX10_format_162 (by decide) ?_
            refine r_puti C (ci := 10) (k9 := 2) dX10_format_163 rfl F_i10 (by decide) F_k116 (by omega) la_110 rfl tyX10 tyX10_ok nmX10 rfl (tyX10_ok 2 (by decide)) rfl rfl h (fun m18 _ h => ?_)
            refine r_aload_n C dX10_format_166 rfl 0 rfl ?_
            refine r_iconst C (v := 0) dX10_format_167 (by decide) ?_
            refine r_puti C (ci := 10) (k9 := 3) dX10_format_168 rfl F_i10 (by decide) F_k127 (by omega) la_110 rfl tyX10 tyX10_ok nmX10 rfl (tyX10_ok 3 (by decide)) rfl rfl h (fun m19 _ h => ?_)
            refine r_iload_n C dX10_format_171 rfl 1 rfl ?_
            exact r_iret C dX10_format_172 rfl h
          have L142 : ∀ (n : Nat) (x2_142 : Int32) (m142_ : sM), f_X10_format_L142 s0_22 e161_142 n x2_142 m142_ = some res → V 0 142 [(0, .ref (ad 110)), (1, .int s0_22), (2, .int x2_142)] [] m142_ := by
            intro n
            induction n with
            | zero => intro x2_142 m142_ h; rw [f_X10_format_L142] at h; cases h
            | succ n ih =>
              intro x2_142 m142_ h
              rw [f_X10_format_L142] at h
              refine r_iload_n C dX10_format_142 rfl 2 rfl ?_
              refine r_bipush C (v := 64) dX10_format_143 (by decide) ?_
              refine r_icmp_ge C (tgt := 161) dX10_format_145 (by decide) h (fun _ h => ?_) (fun _ h => ?_)
              · skip
                refine r_sub C [0, 1] (show _ = [(0, .ref (ad 110)), (1, .int s0_22)] from rfl) ?_
                exact he161_142 m142_ h
              · skip
                refine r_aload_n C dX10_format_148 rfl 0 rfl ?_
                refine r_getr C (ci := 10) (k9 := 7) dX10_format_149 rfl F_i10 (by decide) F_k22 (by omega) la_110 rfl ?_
                refine r_iload_n C dX10_format_152 rfl 2 rfl ?_
                refine r_iconst C (v := 0) dX10_format_153 (by decide) ?_
                refine r_zast C dX10_format_154 (by omega) la_115 h (fun j20 m21 hj20 _ h => ?_)
                refine r_iinc C (v := x2_142 + 1) dX10_format_155 2 rfl rfl (by decide) (show _ = [(2, .int (x2_142 + 1)), (0, .ref (ad 110)), (1, .int s0_22)] from rfl) ?_
                refine r_goto C (tgt := 142) dX10_format_158 (by decide) ?_
                refine r_sub C [1, 2, 0] (show _ = [(0, .ref (ad 110)), (1, .int s0_22), (2, .int (x2_142 + 1))] from rfl) ?_
                exact ih (x2_142 + 1) m21 h
          refine r_sub C [1, 2, 0] (show _ = [(0, .ref (ad 110)), (1, .int s0_22), (2, .int 0)] from rfl) ?_
          exact L142 5000 0 m140_ h
        have L121 : ∀ (n : Nat) (x2_121 : Int32) (m121_ : sM), f_X10_format_L121 s0_22 e140_121 n x2_121 m121_ = some res → V 0 121 [(0, .ref (ad 110)), (1, .int s0_22), (2, .int x2_121)] [] m121_ := by
          intro n
          induction n with
          | zero => intro x2_121 m121_ h; rw [f_X10_format_L121] at h; cases h
          | succ n ih =>
            intro x2_121 m121_ h
            rw [f_X10_format_L121] at h
            refine r_iload_n C dX10_format_121 rfl 2 rfl ?_
            refine r_bipush C (v := 8) dX10_format_122 (by decide) ?_
            refine r_icmp_ge C (tgt := 140) dX10_format_124 (by decide) h (fun _ h => ?_) (fun _ h => ?_)
            · skip
              refine r_sub C [0, 1] (show _ = [(0, .ref (ad 110)), (1, .int s0_22)] from rfl) ?_
              exact he140_121 m121_ h
            · skip
              refine r_aload_n C dX10_format_127 rfl 0 rfl ?_
              refine r_getr C (ci := 10) (k9 := 6) dX10_format_128 rfl F_i10 (by decide) F_k19 (by omega) la_110 rfl ?_
              refine r_iload_n C dX10_format_131 rfl 2 rfl ?_
              refine r_iconst C (v := -1) dX10_format_132 (by decide) ?_
              refine r_iast C dX10_format_133 (by omega) la_114 h (fun j22 m23 hj22 _ h => ?_)
              refine r_iinc C (v := x2_121 + 1) dX10_format_134 2 rfl rfl (by decide) (show _ = [(2, .int (x2_121 + 1)), (0, .ref (ad 110)), (1, .int s0_22)] from rfl) ?_
              refine r_goto C (tgt := 121) dX10_format_137 (by decide) ?_
              refine r_sub C [1, 2, 0] (show _ = [(0, .ref (ad 110)), (1, .int s0_22), (2, .int (x2_121 + 1))] from rfl) ?_
              exact ih (x2_121 + 1) m23 h
        refine r_sub C [1, 2, 0] (show _ = [(0, .ref (ad 110)), (1, .int s0_22), (2, .int 0)] from rfl) ?_
        exact L121 5000 0 m17 h
      have L74 : ∀ (n : Nat) (x2_74 : Int32) (m74_ : sM), f_X10_format_L74 s0_22 e96_74 n x2_74 m74_ = some res → V 0 74 [(0, .ref (ad 110)), (1, .int s0_22), (2, .int x2_74)] [] m74_ := by
        intro n
        induction n with
        | zero => intro x2_74 m74_ h; rw [f_X10_format_L74] at h; cases h
        | succ n ih =>
          intro x2_74 m74_ h
          rw [f_X10_format_L74] at h
          refine r_iload_n C dX10_format_74 rfl 2 rfl ?_
          refine r_bipush C (v := 8) dX10_format_75 (by decide) ?_
          refine r_icmp_ge C (tgt := 96) dX10_format_77 (by decide) h (fun _ h => ?_) (fun _ h => ?_)
          · skip
            refine r_sub C [0, 1] (show _ = [(0, .ref (ad 110)), (1, .int s0_22)] from rfl) ?_
            exact he96_74 m74_ h
          · skip
            refine r_aload_n C dX10_format_80 rfl 0 rfl ?_
            refine r_getr C (ci := 10) (k9 := 1) dX10_format_81 rfl F_i10 (by decide) F_k9 (by omega) la_110 rfl ?_
            refine r_bipush C (v := 30) dX10_format_84 (by decide) ?_
            refine r_iload_n C dX10_format_86 rfl 2 rfl ?_
            refine r_iadd C dX10_format_87 ?_
            refine r_iconst C (v := -1) dX10_format_88 (by decide) ?_
            refine r_iast C dX10_format_89 (by omega) la_111 h (fun j24 m25 hj24 _ h => ?_)
            refine r_iinc C (v := x2_74 + 1) dX10_format_90 2 rfl rfl (by decide) (show _ = [(2, .int (x2_74 + 1)), (0, .ref (ad 110)), (1, .int s0_22)] from rfl) ?_
            refine r_goto C (tgt := 74) dX10_format_93 (by decide) ?_
            refine r_sub C [1, 2, 0] (show _ = [(0, .ref (ad 110)), (1, .int s0_22), (2, .int (x2_74 + 1))] from rfl) ?_
            exact ih (x2_74 + 1) m25 h
      refine r_sub C [1, 2, 0] (show _ = [(0, .ref (ad 110)), (1, .int s0_22), (2, .int 0)] from rfl) ?_
      exact L74 5000 0 m9 h
    have L25 : ∀ (n : Nat) (x2_25 : Int32) (m25_ : sM), f_X10_format_L25 s0_22 e45_25 n x2_25 m25_ = some res → V 0 25 [(0, .ref (ad 110)), (1, .int s0_22), (2, .int x2_25)] [] m25_ := by
      intro n
      induction n with
      | zero => intro x2_25 m25_ h; rw [f_X10_format_L25] at h; cases h
      | succ n ih =>
        intro x2_25 m25_ h
        rw [f_X10_format_L25] at h
        refine r_iload_n C dX10_format_25 rfl 2 rfl ?_
        refine r_sipush C (v := 416) dX10_format_26 (by decide) ?_
        refine r_icmp_ge C (tgt := 45) dX10_format_29 (by decide) h (fun _ h => ?_) (fun _ h => ?_)
        · skip
          refine r_sub C [0, 1] (show _ = [(0, .ref (ad 110)), (1, .int s0_22)] from rfl) ?_
          exact he45_25 m25_ h
        · skip
          refine r_aload_n C dX10_format_32 rfl 0 rfl ?_
          refine r_getr C (ci := 10) (k9 := 1) dX10_format_33 rfl F_i10 (by decide) F_k9 (by omega) la_110 rfl ?_
          refine r_iload_n C dX10_format_36 rfl 2 rfl ?_
          refine r_iconst C (v := 0) dX10_format_37 (by decide) ?_
          refine r_iast C dX10_format_38 (by omega) la_111 h (fun j26 m27 hj26 _ h => ?_)
          refine r_iinc C (v := x2_25 + 1) dX10_format_39 2 rfl rfl (by decide) (show _ = [(2, .int (x2_25 + 1)), (0, .ref (ad 110)), (1, .int s0_22)] from rfl) ?_
          refine r_goto C (tgt := 25) dX10_format_42 (by decide) ?_
          refine r_sub C [1, 2, 0] (show _ = [(0, .ref (ad 110)), (1, .int s0_22), (2, .int (x2_25 + 1))] from rfl) ?_
          exact ih (x2_25 + 1) m27 h
    refine r_sub C [2, 1, 0] (show _ = [(0, .ref (ad 110)), (1, .int s0_22), (2, .int 0)] from rfl) ?_
    exact L25 5000 0 m1 h
  refine r_if_eq C (tgt := 21) dX10_format_9 (by decide) h (fun _ h => ?_) (fun _ h => ?_)
  · skip
    refine r_iconst C (v := -1) dX10_format_21 (by decide) ?_
    exact hk22 (-1) h
  · skip
    refine r_aload_n C dX10_format_12 rfl 0 rfl ?_
    refine r_getr C (ci := 10) (k9 := 4) dX10_format_13 rfl F_i10 (by decide) F_k13 (by omega) la_110 rfl ?_
    refine r_iconst C (v := 0) dX10_format_16 (by decide) ?_
    refine r_iald C dX10_format_17 (by omega) la_112 h (fun j28 hj28 h => ?_)
    refine r_goto C (tgt := 22) dX10_format_18 (by decide) ?_
    exact hk22 (m1.1 112 j28) h
noncomputable def f_X10_begin_L7 (m1 : sM) (e43_7 : Option (sR Int32)) (e28_7 : Int32 → Option (sR Int32)) : Nat → Int32 → Option (sR Int32)
  | 0, _ => none
  | n + 1, x1_7 =>
    if (m1.1 110 2) = 0 then (e43_7) else (if 3 ≤ x1_7 then (e43_7) else (s_ix x1_7 3 fun j6 => if (m1.1 118 j6) = 0 then (e28_7 x1_7) else (f_X10_begin_L7 m1 e43_7 e28_7 n (x1_7 + 1))))
noncomputable def f_X10_begin (m : sM) : Option (sR Int32) :=
  s_md (s_up m 110 0 0) fun m1 => s_jn (s_bd (f_X10_fails 1 m1) fun r2 m3 => some (.inl r2, m3)) fun e43_7 => s_jn (fun (x1_28 : Int32) => s_ix x1_28 3 fun j4 => s_md (s_up m1 118 j4 1) fun m5 => some (.inl x1_28, m5)) fun e28_7 => f_X10_begin_L7 m1 e43_7 e28_7 5000 0
set_option maxRecDepth 20000 in
set_option maxHeartbeats 4000000 in
theorem c_X10_begin (nw : Nat) (hnw : 29 ≤ nw) : s_Con s_i 110 nw yX10_begin wsX10_begin 14 185 0 (f_X10_begin) (fun ad => [.ref (ad 110)]) := by
  refine s_con_of cX10_begin 2 (some .int) RX10 (by decide) rfl rfl (fun _ => Nat.le_of_ble_eq_true rfl) (fun ad m res V C h => ?_)
  unfold f_X10_begin at h
  have F_i10 : ∀ w ∈ wsX100, w ∈ wsX10_begin := by decide +kernel
  have F_k100 : Cond.fieldLink RX10 100 "ShadowFileModel" "thrown" "I" ∈ wsX10_begin := by decide +kernel
  have F_k32 : Cond.fieldLink RX10 32 "ShadowFileModel" "state" "[I" ∈ wsX10_begin := by decide +kernel
  have F_k116 : Cond.fieldLink RX10 116 "ShadowFileModel" "isOpen" "Z" ∈ wsX10_begin := by decide +kernel
  show V 0 0 [(0, .ref (ad 110))] [] m
  refine r_aload_n C dX10_begin_0 rfl 0 rfl ?_
  refine r_iconst C (v := 0) dX10_begin_1 (by decide) ?_
  refine r_puti C (ci := 10) (k9 := 0) dX10_begin_2 rfl F_i10 (by decide) F_k100 (by omega) la_110 rfl tyX10 tyX10_ok nmX10 rfl (tyX10_ok 0 (by decide)) rfl rfl h (fun m1 _ h => ?_)
  refine r_iconst C (v := 0) dX10_begin_5 (by decide) ?_
  refine r_istore_n C dX10_begin_6 rfl (by decide) (show _ = [(1, .int 0), (0, .ref (ad 110))] from rfl) ?_
  refine s_join h (fun e43_7 => e43_7  = some res → V 0 43 [(0, .ref (ad 110))] [] m1) ?_ (fun e43_7 he43_7 h => ?_)
  · intro  h
    refine r_aload_n C dX10_begin_43 rfl 0 rfl ?_
    refine r_iconst C (v := 1) dX10_begin_44 (by decide) ?_
    refine r_callV C (c_X10_fails nw hnw 1) (As := [.int 1]) (nn := 1) (stk := [.int 1, .ref (ad 110)]) (ci := 10) dX10_begin_45 gX10_begin_X10_fails ⟨rfl, by decide, by decide, by decide +kernel⟩ (by omega) la_110 rfl rfl rfl (by decide) rfl rfl (Nat.le_of_ble_eq_true rfl) (by decide) h (fun r2 m3 h => ?_)
    show V 0 48 [(0, .ref (ad 110))] [.int r2] m3
    exact r_iret C dX10_begin_48 rfl h
  refine s_join h (fun e28_7 => ∀ (x1_28 : Int32), e28_7 x1_28 = some res → V 0 28 [(0, .ref (ad 110)), (1, .int x1_28)] [] m1) ?_ (fun e28_7 he28_7 h => ?_)
  · intro x1_28 h
    refine r_aload_n C dX10_begin_28 rfl 0 rfl ?_
    refine r_getr C (ci := 10) (k9 := 10) dX10_begin_29 rfl F_i10 (by decide) F_k32 (by omega) la_110 rfl ?_
    refine r_iload_n C dX10_begin_32 rfl 1 rfl ?_
    refine r_iconst C (v := 1) dX10_begin_33 (by decide) ?_
    refine r_iast C dX10_begin_34 (by omega) la_118 h (fun j4 m5 hj4 _ h => ?_)
    refine r_iload_n C dX10_begin_35 rfl 1 rfl ?_
    exact r_iret C dX10_begin_36 rfl h
  have L7 : ∀ (n : Nat) (x1_7 : Int32), f_X10_begin_L7 m1 e43_7 e28_7 n x1_7 = some res → V 0 7 [(0, .ref (ad 110)), (1, .int x1_7)] [] m1 := by
    intro n
    induction n with
    | zero => intro x1_7 h; rw [f_X10_begin_L7] at h; cases h
    | succ n ih =>
      intro x1_7 h
      rw [f_X10_begin_L7] at h
      refine r_aload_n C dX10_begin_7 rfl 0 rfl ?_
      refine r_geti C (ci := 10) (k9 := 2) dX10_begin_8 rfl F_i10 (by decide) F_k116 (by omega) la_110 rfl ?_
      refine r_if_eq C (tgt := 43) dX10_begin_11 (by decide) h (fun _ h => ?_) (fun _ h => ?_)
      · skip
        refine r_sub C [0] (show _ = [(0, .ref (ad 110))] from rfl) ?_
        exact he43_7 h
      · skip
        refine r_iload_n C dX10_begin_14 rfl 1 rfl ?_
        refine r_iconst C (v := 3) dX10_begin_15 (by decide) ?_
        refine r_icmp_ge C (tgt := 43) dX10_begin_16 (by decide) h (fun _ h => ?_) (fun _ h => ?_)
        · skip
          refine r_sub C [0] (show _ = [(0, .ref (ad 110))] from rfl) ?_
          exact he43_7 h
        · skip
          refine r_aload_n C dX10_begin_19 rfl 0 rfl ?_
          refine r_getr C (ci := 10) (k9 := 10) dX10_begin_20 rfl F_i10 (by decide) F_k32 (by omega) la_110 rfl ?_
          refine r_iload_n C dX10_begin_23 rfl 1 rfl ?_
          refine r_iald C dX10_begin_24 (by omega) la_118 h (fun j6 hj6 h => ?_)
          refine r_if_ne C (tgt := 37) dX10_begin_25 (by decide) h (fun _ h => ?_) (fun _ h => ?_)
          · skip
            exact he28_7 x1_7 h
          · skip
            refine r_iinc C (v := x1_7 + 1) dX10_begin_37 1 rfl rfl (by decide) (show _ = [(1, .int (x1_7 + 1)), (0, .ref (ad 110))] from rfl) ?_
            refine r_goto C (tgt := 7) dX10_begin_40 (by decide) ?_
            refine r_sub C [1, 0] (show _ = [(0, .ref (ad 110)), (1, .int (x1_7 + 1))] from rfl) ?_
            exact ih (x1_7 + 1) h
  refine r_sub C [1, 0] (show _ = [(0, .ref (ad 110)), (1, .int 0)] from rfl) ?_
  exact L7 5000 0 h
noncomputable def f_X10_sees (p1 : Int32) (p2 : Int32) (m : sM) : Option (sR Int32) :=
  s_ix ((64 * p1) + p2) 192 fun j1 => s_jn (fun (s0_42 : Int32) => s_gd (s0_42 = 0 ∨ s0_42 = 1) (some (.inl s0_42, m))) fun k42 => if (m.1 119 j1) = 0 then (s_ix p2 192 fun j2 => k42 (m.1 115 j2)) else (s_ix ((64 * p1) + p2) 192 fun j3 => if (m.1 120 j3) = 0 then (k42 1) else (k42 0))
set_option maxRecDepth 20000 in
set_option maxHeartbeats 4000000 in
theorem c_X10_sees (nw : Nat) (hnw : 29 ≤ nw) (p1 : Int32) (p2 : Int32) : s_Con s_i 110 nw yX10_sees wsX10_sees 12 140 0 (f_X10_sees p1 p2) (fun ad => [.ref (ad 110), .int p1, .int p2]) := by
  refine s_con_of cX10_sees 3 (some .boolean) RX10 (by decide) rfl rfl (fun _ => Nat.le_of_ble_eq_true rfl) (fun ad m res V C h => ?_)
  unfold f_X10_sees at h
  have F_i10 : ∀ w ∈ wsX100, w ∈ wsX10_sees := by decide +kernel
  have F_k35 : Cond.fieldLink RX10 35 "ShadowFileModel" "changes" "[Z" ∈ wsX10_sees := by decide +kernel
  have F_k22 : Cond.fieldLink RX10 22 "ShadowFileModel" "has" "[Z" ∈ wsX10_sees := by decide +kernel
  have F_k38 : Cond.fieldLink RX10 38 "ShadowFileModel" "removes" "[Z" ∈ wsX10_sees := by decide +kernel
  show V 0 0 [(0, .ref (ad 110)), (1, .int p1), (2, .int p2)] [] m
  refine r_aload_n C dX10_sees_0 rfl 0 rfl ?_
  refine r_getr C (ci := 10) (k9 := 11) dX10_sees_1 rfl F_i10 (by decide) F_k35 (by omega) la_110 rfl ?_
  refine r_bipush C (v := 64) dX10_sees_4 (by decide) ?_
  refine r_iload_n C dX10_sees_6 rfl 1 rfl ?_
  refine r_imul C dX10_sees_7 ?_
  refine r_iload_n C dX10_sees_8 rfl 2 rfl ?_
  refine r_iadd C dX10_sees_9 ?_
  refine r_zald C dX10_sees_10 (by omega) la_119 h (fun j1 hj1 h => ?_)
  refine s_join h (fun k42 => ∀ (s0_42 : Int32), k42 s0_42 = some res → V 0 42 [] [.int s0_42] m) ?_ (fun k42 hk42 h => ?_)
  · intro s0_42 h
    obtain ⟨hg, h⟩ := s_gd_of h
    exact r_zret C dX10_sees_42 rfl (s_z hg) h
  refine r_if_eq C (tgt := 36) dX10_sees_11 (by decide) h (fun _ h => ?_) (fun _ h => ?_)
  · skip
    refine r_aload_n C dX10_sees_36 rfl 0 rfl ?_
    refine r_getr C (ci := 10) (k9 := 7) dX10_sees_37 rfl F_i10 (by decide) F_k22 (by omega) la_110 rfl ?_
    refine r_iload_n C dX10_sees_40 rfl 2 rfl ?_
    refine r_zald C dX10_sees_41 (by omega) la_115 h (fun j2 hj2 h => ?_)
    refine r_sub C [] (show _ = [] from rfl) ?_
    exact hk42 (m.1 115 j2) h
  · skip
    refine r_aload_n C dX10_sees_14 rfl 0 rfl ?_
    refine r_getr C (ci := 10) (k9 := 12) dX10_sees_15 rfl F_i10 (by decide) F_k38 (by omega) la_110 rfl ?_
    refine r_bipush C (v := 64) dX10_sees_18 (by decide) ?_
    refine r_iload_n C dX10_sees_20 rfl 1 rfl ?_
    refine r_imul C dX10_sees_21 ?_
    refine r_iload_n C dX10_sees_22 rfl 2 rfl ?_
    refine r_iadd C dX10_sees_23 ?_
    refine r_zald C dX10_sees_24 (by omega) la_120 h (fun j3 hj3 h => ?_)
    refine r_if_ne C (tgt := 32) dX10_sees_25 (by decide) h (fun _ h => ?_) (fun _ h => ?_)
    · skip
      refine r_iconst C (v := 1) dX10_sees_28 (by decide) ?_
      refine r_goto C (tgt := 42) dX10_sees_29 (by decide) ?_
      refine r_sub C [] (show _ = [] from rfl) ?_
      exact hk42 1 h
    · skip
      refine r_iconst C (v := 0) dX10_sees_32 (by decide) ?_
      refine r_goto C (tgt := 42) dX10_sees_33 (by decide) ?_
      refine r_sub C [] (show _ = [] from rfl) ?_
      exact hk42 0 h
noncomputable def f_X10_seen (p1 : Int32) (p2 : Int32) (m : sM) : Option (sR Int32) :=
  s_ix ((64 * p1) + p2) 192 fun j1 => s_jn (fun (s0_34 : Int32) => some (.inl s0_34, m)) fun k34 => if (m.1 119 j1) = 0 then (s_ix p2 192 fun j2 => k34 (m.1 116 j2)) else (s_ix ((64 * p1) + p2) 192 fun j3 => k34 (m.1 121 j3))
set_option maxRecDepth 20000 in
set_option maxHeartbeats 4000000 in
theorem c_X10_seen (nw : Nat) (hnw : 29 ≤ nw) (p1 : Int32) (p2 : Int32) : s_Con s_i 110 nw yX10_seen wsX10_seen 12 140 0 (f_X10_seen p1 p2) (fun ad => [.ref (ad 110), .int p1, .int p2]) := by
  refine s_con_of cX10_seen 3 (some .int) RX10 (by decide) rfl rfl (fun _ => Nat.le_of_ble_eq_true rfl) (fun ad m res V C h => ?_)
  unfold f_X10_seen at h
  have F_i10 : ∀ w ∈ wsX100, w ∈ wsX10_seen := by decide +kernel
  have F_k35 : Cond.fieldLink RX10 35 "ShadowFileModel" "changes" "[Z" ∈ wsX10_seen := by decide +kernel
  have F_k26 : Cond.fieldLink RX10 26 "ShadowFileModel" "values" "[I" ∈ wsX10_seen := by decide +kernel
  have F_k41 : Cond.fieldLink RX10 41 "ShadowFileModel" "changed" "[I" ∈ wsX10_seen := by decide +kernel
  show V 0 0 [(0, .ref (ad 110)), (1, .int p1), (2, .int p2)] [] m
  refine r_aload_n C dX10_seen_0 rfl 0 rfl ?_
  refine r_getr C (ci := 10) (k9 := 11) dX10_seen_1 rfl F_i10 (by decide) F_k35 (by omega) la_110 rfl ?_
  refine r_bipush C (v := 64) dX10_seen_4 (by decide) ?_
  refine r_iload_n C dX10_seen_6 rfl 1 rfl ?_
  refine r_imul C dX10_seen_7 ?_
  refine r_iload_n C dX10_seen_8 rfl 2 rfl ?_
  refine r_iadd C dX10_seen_9 ?_
  refine r_zald C dX10_seen_10 (by omega) la_119 h (fun j1 hj1 h => ?_)
  refine s_join h (fun k34 => ∀ (s0_34 : Int32), k34 s0_34 = some res → V 0 34 [] [.int s0_34] m) ?_ (fun k34 hk34 h => ?_)
  · intro s0_34 h
    exact r_iret C dX10_seen_34 rfl h
  refine r_if_eq C (tgt := 28) dX10_seen_11 (by decide) h (fun _ h => ?_) (fun _ h => ?_)
  · skip
    refine r_aload_n C dX10_seen_28 rfl 0 rfl ?_
    refine r_getr C (ci := 10) (k9 := 8) dX10_seen_29 rfl F_i10 (by decide) F_k26 (by omega) la_110 rfl ?_
    refine r_iload_n C dX10_seen_32 rfl 2 rfl ?_
    refine r_iald C dX10_seen_33 (by omega) la_116 h (fun j2 hj2 h => ?_)
    refine r_sub C [] (show _ = [] from rfl) ?_
    exact hk34 (m.1 116 j2) h
  · skip
    refine r_aload_n C dX10_seen_14 rfl 0 rfl ?_
    refine r_getr C (ci := 10) (k9 := 13) dX10_seen_15 rfl F_i10 (by decide) F_k41 (by omega) la_110 rfl ?_
    refine r_bipush C (v := 64) dX10_seen_18 (by decide) ?_
    refine r_iload_n C dX10_seen_20 rfl 1 rfl ?_
    refine r_imul C dX10_seen_21 ?_
    refine r_iload_n C dX10_seen_22 rfl 2 rfl ?_
    refine r_iadd C dX10_seen_23 ?_
    refine r_iald C dX10_seen_24 (by omega) la_121 h (fun j3 hj3 h => ?_)
    refine r_goto C (tgt := 34) dX10_seen_25 (by decide) ?_
    refine r_sub C [] (show _ = [] from rfl) ?_
    exact hk34 (m.1 121 j3) h
noncomputable def f_X10_change (p1 : Int32) (p2 : Int32) (p3 : Int32) (m : sM) : Option (sR Unit) :=
  s_ix ((64 * p1) + p2) 192 fun j1 => s_md (s_up m 119 j1 (vp_nar .boolean 1)) fun m2 => s_ix ((64 * p1) + p2) 192 fun j3 => s_md (s_up m2 120 j3 (vp_nar .boolean 0)) fun m4 => s_ix ((64 * p1) + p2) 192 fun j5 => s_md (s_up m4 121 j5 p3) fun m6 => some (.inl (), m6)
set_option maxRecDepth 20000 in
set_option maxHeartbeats 4000000 in
theorem c_X10_change (nw : Nat) (hnw : 29 ≤ nw) (p1 : Int32) (p2 : Int32) (p3 : Int32) : s_Con s_u 110 nw yX10_change wsX10_change 12 140 0 (f_X10_change p1 p2 p3) (fun ad => [.ref (ad 110), .int p1, .int p2, .int p3]) := by
  refine s_con_of cX10_change 4 none RX10 (by decide) rfl rfl (fun _ => Nat.le_of_ble_eq_true rfl) (fun ad m res V C h => ?_)
  unfold f_X10_change at h
  have F_i10 : ∀ w ∈ wsX100, w ∈ wsX10_change := by decide +kernel
  have F_k35 : Cond.fieldLink RX10 35 "ShadowFileModel" "changes" "[Z" ∈ wsX10_change := by decide +kernel
  have F_k38 : Cond.fieldLink RX10 38 "ShadowFileModel" "removes" "[Z" ∈ wsX10_change := by decide +kernel
  have F_k41 : Cond.fieldLink RX10 41 "ShadowFileModel" "changed" "[I" ∈ wsX10_change := by decide +kernel
  show V 0 0 [(0, .ref (ad 110)), (1, .int p1), (2, .int p2), (3, .int p3)] [] m
  refine r_aload_n C dX10_change_0 rfl 0 rfl ?_
  refine r_getr C (ci := 10) (k9 := 11) dX10_change_1 rfl F_i10 (by decide) F_k35 (by omega) la_110 rfl ?_
  refine r_bipush C (v := 64) dX10_change_4 (by decide) ?_
  refine r_iload_n C dX10_change_6 rfl 1 rfl ?_
  refine r_imul C dX10_change_7 ?_
  refine r_iload_n C dX10_change_8 rfl 2 rfl ?_
  refine r_iadd C dX10_change_9 ?_
  refine r_iconst C (v := 1) dX10_change_10 (by decide) ?_
  refine r_zast C dX10_change_11 (by omega) la_119 h (fun j1 m2 hj1 _ h => ?_)
  refine r_aload_n C dX10_change_12 rfl 0 rfl ?_
  refine r_getr C (ci := 10) (k9 := 12) dX10_change_13 rfl F_i10 (by decide) F_k38 (by omega) la_110 rfl ?_
  refine r_bipush C (v := 64) dX10_change_16 (by decide) ?_
  refine r_iload_n C dX10_change_18 rfl 1 rfl ?_
  refine r_imul C dX10_change_19 ?_
  refine r_iload_n C dX10_change_20 rfl 2 rfl ?_
  refine r_iadd C dX10_change_21 ?_
  refine r_iconst C (v := 0) dX10_change_22 (by decide) ?_
  refine r_zast C dX10_change_23 (by omega) la_120 h (fun j3 m4 hj3 _ h => ?_)
  refine r_aload_n C dX10_change_24 rfl 0 rfl ?_
  refine r_getr C (ci := 10) (k9 := 13) dX10_change_25 rfl F_i10 (by decide) F_k41 (by omega) la_110 rfl ?_
  refine r_bipush C (v := 64) dX10_change_28 (by decide) ?_
  refine r_iload_n C dX10_change_30 rfl 1 rfl ?_
  refine r_imul C dX10_change_31 ?_
  refine r_iload_n C dX10_change_32 rfl 2 rfl ?_
  refine r_iadd C dX10_change_33 ?_
  refine r_iload_n C dX10_change_34 rfl 3 rfl ?_
  refine r_iast C dX10_change_35 (by omega) la_121 h (fun j5 m6 hj5 _ h => ?_)
  exact r_vret C dX10_change_36 rfl h
noncomputable def f_X10_drop (p1 : Int32) (p2 : Int32) (m : sM) : Option (sR Unit) :=
  s_ix ((64 * p1) + p2) 192 fun j1 => s_md (s_up m 119 j1 (vp_nar .boolean 1)) fun m2 => s_ix ((64 * p1) + p2) 192 fun j3 => s_md (s_up m2 120 j3 (vp_nar .boolean 1)) fun m4 => some (.inl (), m4)
set_option maxRecDepth 20000 in
set_option maxHeartbeats 4000000 in
theorem c_X10_drop (nw : Nat) (hnw : 29 ≤ nw) (p1 : Int32) (p2 : Int32) : s_Con s_u 110 nw yX10_drop wsX10_drop 12 140 0 (f_X10_drop p1 p2) (fun ad => [.ref (ad 110), .int p1, .int p2]) := by
  refine s_con_of cX10_drop 3 none RX10 (by decide) rfl rfl (fun _ => Nat.le_of_ble_eq_true rfl) (fun ad m res V C h => ?_)
  unfold f_X10_drop at h
  have F_i10 : ∀ w ∈ wsX100, w ∈ wsX10_drop := by decide +kernel
  have F_k35 : Cond.fieldLink RX10 35 "ShadowFileModel" "changes" "[Z" ∈ wsX10_drop := by decide +kernel
  have F_k38 : Cond.fieldLink RX10 38 "ShadowFileModel" "removes" "[Z" ∈ wsX10_drop := by decide +kernel
  show V 0 0 [(0, .ref (ad 110)), (1, .int p1), (2, .int p2)] [] m
  refine r_aload_n C dX10_drop_0 rfl 0 rfl ?_
  refine r_getr C (ci := 10) (k9 := 11) dX10_drop_1 rfl F_i10 (by decide) F_k35 (by omega) la_110 rfl ?_
  refine r_bipush C (v := 64) dX10_drop_4 (by decide) ?_
  refine r_iload_n C dX10_drop_6 rfl 1 rfl ?_
  refine r_imul C dX10_drop_7 ?_
  refine r_iload_n C dX10_drop_8 rfl 2 rfl ?_
  refine r_iadd C dX10_drop_9 ?_
  refine r_iconst C (v := 1) dX10_drop_10 (by decide) ?_
  refine r_zast C dX10_drop_11 (by omega) la_119 h (fun j1 m2 hj1 _ h => ?_)
  refine r_aload_n C dX10_drop_12 rfl 0 rfl ?_
  refine r_getr C (ci := 10) (k9 := 12) dX10_drop_13 rfl F_i10 (by decide) F_k38 (by omega) la_110 rfl ?_
  refine r_bipush C (v := 64) dX10_drop_16 (by decide) ?_
  refine r_iload_n C dX10_drop_18 rfl 1 rfl ?_
  refine r_imul C dX10_drop_19 ?_
  refine r_iload_n C dX10_drop_20 rfl 2 rfl ?_
  refine r_iadd C dX10_drop_21 ?_
  refine r_iconst C (v := 1) dX10_drop_22 (by decide) ?_
  refine r_zast C dX10_drop_23 (by omega) la_120 h (fun j3 m4 hj3 _ h => ?_)
  exact r_vret C dX10_drop_24 rfl h
