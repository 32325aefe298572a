noncomputable def f_X10_feed (p1 : Int32) (m : sM) : Option (sR Int32) :=
  s_jn (fun (s0_15 : Int32) => s_md (s_up m 110 0 s0_15) fun m1 => if (m1.1 110 0) ≤ 0 then (s_ix (m1.1 110 21) 60 fun j2 => s_md (s_up m1 127 j2 (vp_nar .char p1)) fun m3 => s_md (s_up m3 110 21 ((m3.1 110 21) + 1)) fun m4 => some (.inl (m4.1 110 21), m4)) else (some (.inl 0, m1))) fun k15 => if (m.1 110 21) = 60 then (k15 1) else (k15 0)
set_option maxRecDepth 20000 in
set_option maxHeartbeats 4000000 in
theorem c_X10_feed (nw : Nat) (hnw : 29 ≤ nw) (p1 : Int32) : s_Con s_i 110 nw yX10_feed wsX10_feed 12 140 0 (f_X10_feed p1) (fun ad => [.ref (ad 110), .int p1]) := by
  refine s_con_of cX10_feed 2 (some .int) RX10 (by decide) rfl rfl (fun _ => Nat.le_of_ble_eq_true rfl) (fun ad m res V C h => ?_)
  unfold f_X10_feed at h
  have F_i10 : ∀ w ∈ wsX100, w ∈ wsX10_feed := by decide +kernel
  have F_k170 : Cond.fieldLink RX10 170 "ShadowFileModel" "length" "I" ∈ wsX10_feed := by decide +kernel
  have F_k100 : Cond.fieldLink RX10 100 "ShadowFileModel" "thrown" "I" ∈ wsX10_feed := by decide +kernel
  have F_k59 : Cond.fieldLink RX10 59 "ShadowFileModel" "input" "[C" ∈ wsX10_feed := by decide +kernel
  show V 0 0 [(0, .ref (ad 110)), (1, .int p1)] [] m
  refine r_aload_n C dX10_feed_0 rfl 0 rfl ?_
  refine r_aload_n C dX10_feed_1 rfl 0 rfl ?_
  refine r_geti C (ci := 10) (k9 := 21) dX10_feed_2 rfl F_i10 (by decide) F_k170 (by omega) la_110 rfl ?_
  refine r_bipush C (v := 60) dX10_feed_5 (by decide) ?_
  refine s_join h (fun k15 => ∀ (s0_15 : Int32), k15 s0_15 = some res → V 0 15 [(0, .ref (ad 110)), (1, .int p1)] [.int s0_15, .ref (ad 110)] m) ?_ (fun k15 hk15 h => ?_)
  · intro s0_15 h
    refine r_puti C (ci := 10) (k9 := 0) dX10_feed_15 rfl F_i10 (by decide) F_k100 (by omega) la_110 rfl tyX10 tyX10_ok nmX10 rfl (tyX10_ok 0 (by decide)) rfl rfl h (fun m1 _ h => ?_)
    refine r_aload_n C dX10_feed_18 rfl 0 rfl ?_
    refine r_geti C (ci := 10) (k9 := 0) dX10_feed_19 rfl F_i10 (by decide) F_k100 (by omega) la_110 rfl ?_
    refine r_if_le C (tgt := 27) dX10_feed_22 (by decide) h (fun _ h => ?_) (fun _ h => ?_)
    · skip
      refine r_aload_n C dX10_feed_27 rfl 0 rfl ?_
      refine r_getr C (ci := 10) (k9 := 20) dX10_feed_28 rfl F_i10 (by decide) F_k59 (by omega) la_110 rfl ?_
      refine r_aload_n C dX10_feed_31 rfl 0 rfl ?_
      refine r_geti C (ci := 10) (k9 := 21) dX10_feed_32 rfl F_i10 (by decide) F_k170 (by omega) la_110 rfl ?_
      refine r_iload_n C dX10_feed_35 rfl 1 rfl ?_
      refine r_cast C dX10_feed_36 (by omega) la_127 h (fun j2 m3 hj2 _ h => ?_)
      refine r_aload_n C dX10_feed_37 rfl 0 rfl ?_
      refine r_dup C dX10_feed_38 rfl ?_
      refine r_geti C (ci := 10) (k9 := 21) dX10_feed_39 rfl F_i10 (by decide) F_k170 (by omega) la_110 rfl ?_
      refine r_iconst C (v := 1) dX10_feed_42 (by decide) ?_
      refine r_iadd C dX10_feed_43 ?_
      refine r_puti C (ci := 10) (k9 := 21) dX10_feed_44 rfl F_i10 (by decide) F_k170 (by omega) la_110 rfl tyX10 tyX10_ok nmX10 rfl (tyX10_ok 21 (by decide)) rfl rfl h (fun m4 _ h => ?_)
      refine r_aload_n C dX10_feed_47 rfl 0 rfl ?_
      refine r_geti C (ci := 10) (k9 := 21) dX10_feed_48 rfl F_i10 (by decide) F_k170 (by omega) la_110 rfl ?_
      exact r_iret C dX10_feed_51 rfl h
    · skip
      refine r_iconst C (v := 0) dX10_feed_25 (by decide) ?_
      exact r_iret C dX10_feed_26 rfl h
  refine r_icmp_ne C (tgt := 14) dX10_feed_7 (by decide) h (fun _ h => ?_) (fun _ h => ?_)
  · skip
    refine r_iconst C (v := 1) dX10_feed_10 (by decide) ?_
    refine r_goto C (tgt := 15) dX10_feed_11 (by decide) ?_
    exact hk15 1 h
  · skip
    refine r_iconst C (v := 0) dX10_feed_14 (by decide) ?_
    exact hk15 0 h
noncomputable def f_X10_isDigit (p1 : Int32) (m : sM) : Option (sR Int32) :=
  s_jn (fun (s0_29 : Int32) (m29_ : sM) => s_gd (s0_29 = 0 ∨ s0_29 = 1) (some (.inl s0_29, m29_))) fun k29 => s_jn (fun (m28_ : sM) => k29 0 m28_) fun k28 => if (m.1 110 21) ≤ p1 then (k28  m) else (s_ix p1 60 fun j1 => s_bd (f_X10_in (m.1 127 j1) 48 57 m) fun r2 m3 => if r2 = 0 then (k28  m3) else (k29 1 m3))
set_option maxRecDepth 20000 in
set_option maxHeartbeats 4000000 in
theorem c_X10_isDigit (nw : Nat) (hnw : 29 ≤ nw) (p1 : Int32) : s_Con s_i 110 nw yX10_isDigit wsX10_isDigit 14 185 0 (f_X10_isDigit p1) (fun ad => [.ref (ad 110), .int p1]) := by
  refine s_con_of cX10_isDigit 2 (some .boolean) RX10 (by decide) rfl rfl (fun _ => Nat.le_of_ble_eq_true rfl) (fun ad m res V C h => ?_)
  unfold f_X10_isDigit at h
  have F_i10 : ∀ w ∈ wsX100, w ∈ wsX10_isDigit := by decide +kernel
  have F_k170 : Cond.fieldLink RX10 170 "ShadowFileModel" "length" "I" ∈ wsX10_isDigit := by decide +kernel
  have F_k59 : Cond.fieldLink RX10 59 "ShadowFileModel" "input" "[C" ∈ wsX10_isDigit := by decide +kernel
  show V 0 0 [(0, .ref (ad 110)), (1, .int p1)] [] m
  refine r_iload_n C dX10_isDigit_0 rfl 1 rfl ?_
  refine r_aload_n C dX10_isDigit_1 rfl 0 rfl ?_
  refine r_geti C (ci := 10) (k9 := 21) dX10_isDigit_2 rfl F_i10 (by decide) F_k170 (by omega) la_110 rfl ?_
  refine s_join h (fun k29 => ∀ (s0_29 : Int32) (m29_ : sM), k29 s0_29 m29_ = some res → V 0 29 [] [.int s0_29] m29_) ?_ (fun k29 hk29 h => ?_)
  · intro s0_29 m29_ h
    obtain ⟨hg, h⟩ := s_gd_of h
    exact r_zret C dX10_isDigit_29 rfl (s_z hg) h
  refine s_join h (fun k28 => ∀ (m28_ : sM), k28 m28_ = some res → V 0 28 [] [] m28_) ?_ (fun k28 hk28 h => ?_)
  · intro m28_ h
    refine r_iconst C (v := 0) dX10_isDigit_28 (by decide) ?_
    exact hk29 0 m28_ h
  refine r_icmp_ge C (tgt := 28) dX10_isDigit_5 (by decide) h (fun _ h => ?_) (fun _ h => ?_)
  · skip
    refine r_sub C [] (show _ = [] from rfl) ?_
    exact hk28 m h
  · skip
    refine r_aload_n C dX10_isDigit_8 rfl 0 rfl ?_
    refine r_getr C (ci := 10) (k9 := 20) dX10_isDigit_9 rfl F_i10 (by decide) F_k59 (by omega) la_110 rfl ?_
    refine r_iload_n C dX10_isDigit_12 rfl 1 rfl ?_
    refine r_cald C dX10_isDigit_13 (by omega) la_127 h (fun j1 hj1 h => ?_)
    refine r_bipush C (v := 48) dX10_isDigit_14 (by decide) ?_
    refine r_bipush C (v := 57) dX10_isDigit_16 (by decide) ?_
    refine r_callS C (c_X10_in nw hnw (m.1 127 j1) 48 57) (As := [.int (m.1 127 j1), .int 48, .int 57]) (nn := 3) (stk := [.int 57, .int 48, .int (m.1 127 j1)]) dX10_isDigit_18 gX10_isDigit_X10_in ⟨by decide, by decide, by decide +kernel⟩ rfl rfl (by decide) rfl rfl (Nat.le_of_ble_eq_true rfl) (by decide) h (fun r2 m3 h => ?_)
    show V 0 21 [(0, .ref (ad 110)), (1, .int p1)] [.int r2] m3
    refine r_if_eq C (tgt := 28) dX10_isDigit_21 (by decide) h (fun _ h => ?_) (fun _ h => ?_)
    · skip
      refine r_sub C [] (show _ = [] from rfl) ?_
      exact hk28 m3 h
    · skip
      refine r_iconst C (v := 1) dX10_isDigit_24 (by decide) ?_
      refine r_goto C (tgt := 29) dX10_isDigit_25 (by decide) ?_
      refine r_sub C [] (show _ = [] from rfl) ?_
      exact hk29 1 m3 h
noncomputable def f_X10_isSign (p1 : Int32) (p2 : Int32) (m : sM) : Option (sR Int32) :=
  s_jn (fun (s0_23 : Int32) => s_gd (s0_23 = 0 ∨ s0_23 = 1) (some (.inl s0_23, m))) fun k23 => s_jn (k23 0) fun k22 => if (m.1 110 21) ≤ p1 then (k22) else (s_ix p1 60 fun j1 => if (m.1 127 j1) = p2 then (k23 1) else (k22))
set_option maxRecDepth 20000 in
set_option maxHeartbeats 4000000 in
theorem c_X10_isSign (nw : Nat) (hnw : 29 ≤ nw) (p1 : Int32) (p2 : Int32) : s_Con s_i 110 nw yX10_isSign wsX10_isSign 12 140 0 (f_X10_isSign p1 p2) (fun ad => [.ref (ad 110), .int p1, .int p2]) := by
  refine s_con_of cX10_isSign 3 (some .boolean) RX10 (by decide) rfl rfl (fun _ => Nat.le_of_ble_eq_true rfl) (fun ad m res V C h => ?_)
  unfold f_X10_isSign at h
  have F_i10 : ∀ w ∈ wsX100, w ∈ wsX10_isSign := by decide +kernel
  have F_k170 : Cond.fieldLink RX10 170 "ShadowFileModel" "length" "I" ∈ wsX10_isSign := by decide +kernel
  have F_k59 : Cond.fieldLink RX10 59 "ShadowFileModel" "input" "[C" ∈ wsX10_isSign := by decide +kernel
  show V 0 0 [(0, .ref (ad 110)), (1, .int p1), (2, .int p2)] [] m
  refine r_iload_n C dX10_isSign_0 rfl 1 rfl ?_
  refine r_aload_n C dX10_isSign_1 rfl 0 rfl ?_
  refine r_geti C (ci := 10) (k9 := 21) dX10_isSign_2 rfl F_i10 (by decide) F_k170 (by omega) la_110 rfl ?_
  refine s_join h (fun k23 => ∀ (s0_23 : Int32), k23 s0_23 = some res → V 0 23 [] [.int s0_23] m) ?_ (fun k23 hk23 h => ?_)
  · intro s0_23 h
    obtain ⟨hg, h⟩ := s_gd_of h
    exact r_zret C dX10_isSign_23 rfl (s_z hg) h
  refine s_join h (fun k22 => k22  = some res → V 0 22 [] [] m) ?_ (fun k22 hk22 h => ?_)
  · intro  h
    refine r_iconst C (v := 0) dX10_isSign_22 (by decide) ?_
    exact hk23 0 h
  refine r_icmp_ge C (tgt := 22) dX10_isSign_5 (by decide) h (fun _ h => ?_) (fun _ h => ?_)
  · skip
    refine r_sub C [] (show _ = [] from rfl) ?_
    exact hk22 h
  · skip
    refine r_aload_n C dX10_isSign_8 rfl 0 rfl ?_
    refine r_getr C (ci := 10) (k9 := 20) dX10_isSign_9 rfl F_i10 (by decide) F_k59 (by omega) la_110 rfl ?_
    refine r_iload_n C dX10_isSign_12 rfl 1 rfl ?_
    refine r_cald C dX10_isSign_13 (by omega) la_127 h (fun j1 hj1 h => ?_)
    refine r_iload_n C dX10_isSign_14 rfl 2 rfl ?_
    refine r_icmp_ne C (tgt := 22) dX10_isSign_15 (by decide) h (fun _ h => ?_) (fun _ h => ?_)
    · skip
      refine r_iconst C (v := 1) dX10_isSign_18 (by decide) ?_
      refine r_goto C (tgt := 23) dX10_isSign_19 (by decide) ?_
      refine r_sub C [] (show _ = [] from rfl) ?_
      exact hk23 1 h
    · skip
      refine r_sub C [] (show _ = [] from rfl) ?_
      exact hk22 h
noncomputable def f_X10_behindDigits_L2 (y1_2 : Int32) (y2_2 : Int32) (e23_2 : Int32 → sM → Option (sR Int32)) : Nat → Int32 → sM → Option (sR Int32)
  | 0, _, _ => none
  | n + 1, x3_2, m2_ =>
    if (y1_2 + y2_2) ≤ x3_2 then (e23_2 x3_2 m2_) else (s_bd (f_X10_isDigit x3_2 m2_) fun r1 m2 => if r1 = 0 then (e23_2 x3_2 m2) else (f_X10_behindDigits_L2 y1_2 y2_2 e23_2 n (x3_2 + 1) m2))
noncomputable def f_X10_behindDigits (p1 : Int32) (p2 : Int32) (m : sM) : Option (sR Int32) :=
  s_jn (fun (x3_23 : Int32) (m23_ : sM) => some (.inl x3_23, m23_)) fun e23_2 => f_X10_behindDigits_L2 p1 p2 e23_2 5000 p1 m
set_option maxRecDepth 20000 in
set_option maxHeartbeats 4000000 in
theorem c_X10_behindDigits (nw : Nat) (hnw : 29 ≤ nw) (p1 : Int32) (p2 : Int32) : s_Con s_i 110 nw yX10_behindDigits wsX10_behindDigits 16 230 0 (f_X10_behindDigits p1 p2) (fun ad => [.ref (ad 110), .int p1, .int p2]) := by
  refine s_con_of cX10_behindDigits 4 (some .int) RX10 (by decide) rfl rfl (fun _ => Nat.le_of_ble_eq_true rfl) (fun ad m res V C h => ?_)
  unfold f_X10_behindDigits at h
  show V 0 0 [(0, .ref (ad 110)), (1, .int p1), (2, .int p2)] [] m
  refine r_iload_n C dX10_behindDigits_0 rfl 1 rfl ?_
  refine r_istore_n C dX10_behindDigits_1 rfl (by decide) (show _ = [(3, .int p1), (0, .ref (ad 110)), (1, .int p1), (2, .int p2)] from rfl) ?_
  refine s_join h (fun e23_2 => ∀ (x3_23 : Int32) (m23_ : sM), e23_2 x3_23 m23_ = some res → V 0 23 [(3, .int x3_23)] [] m23_) ?_ (fun e23_2 he23_2 h => ?_)
  · intro x3_23 m23_ h
    refine r_iload_n C dX10_behindDigits_23 rfl 0 rfl ?_
    exact r_iret C dX10_behindDigits_24 rfl h
  have L2 : ∀ (n : Nat) (x3_2 : Int32) (m2_ : sM), f_X10_behindDigits_L2 p1 p2 e23_2 n x3_2 m2_ = some res → V 0 2 [(0, .ref (ad 110)), (1, .int p1), (2, .int p2), (3, .int x3_2)] [] m2_ := by
    intro n
    induction n with
    | zero => intro x3_2 m2_ h; rw [f_X10_behindDigits_L2] at h; cases h
    | succ n ih =>
      intro x3_2 m2_ h
      rw [f_X10_behindDigits_L2] at h
      refine r_iload_n C dX10_behindDigits_2 rfl 3 rfl ?_
      refine r_iload_n C dX10_behindDigits_3 rfl 1 rfl ?_
      refine r_iload_n C dX10_behindDigits_4 rfl 2 rfl ?_
      refine r_iadd C dX10_behindDigits_5 ?_
      refine r_icmp_ge C (tgt := 23) dX10_behindDigits_6 (by decide) h (fun _ h => ?_) (fun _ h => ?_)
      · skip
        refine r_sub C [3] (show _ = [(3, .int x3_2)] from rfl) ?_
        exact he23_2 x3_2 m2_ h
      · skip
        refine r_aload_n C dX10_behindDigits_9 rfl 0 rfl ?_
        refine r_iload_n C dX10_behindDigits_10 rfl 3 rfl ?_
        refine r_callV C (c_X10_isDigit nw hnw x3_2) (As := [.int x3_2]) (nn := 1) (stk := [.int x3_2, .ref (ad 110)]) (ci := 10) dX10_behindDigits_11 gX10_behindDigits_X10_isDigit ⟨rfl, by decide, by decide, by decide +kernel⟩ (by omega) la_110 rfl rfl rfl (by decide) rfl rfl (Nat.le_of_ble_eq_true rfl) (by decide) h (fun r1 m2 h => ?_)
        show V 0 14 [(0, .ref (ad 110)), (1, .int p1), (2, .int p2), (3, .int x3_2)] [.int r1] m2
        refine r_if_eq C (tgt := 23) dX10_behindDigits_14 (by decide) h (fun _ h => ?_) (fun _ h => ?_)
        · skip
          refine r_sub C [3] (show _ = [(3, .int x3_2)] from rfl) ?_
          exact he23_2 x3_2 m2 h
        · skip
          refine r_iinc C (v := x3_2 + 1) dX10_behindDigits_17 3 rfl rfl (by decide) (show _ = [(3, .int (x3_2 + 1)), (0, .ref (ad 110)), (1, .int p1), (2, .int p2)] from rfl) ?_
          refine r_goto C (tgt := 2) dX10_behindDigits_20 (by decide) ?_
          refine r_sub C [1, 2, 3, 0] (show _ = [(0, .ref (ad 110)), (1, .int p1), (2, .int p2), (3, .int (x3_2 + 1))] from rfl) ?_
          exact ih (x3_2 + 1) m2 h
  refine r_sub C [1, 2, 3, 0] (show _ = [(0, .ref (ad 110)), (1, .int p1), (2, .int p2), (3, .int p1)] from rfl) ?_
  exact L2 5000 p1 m h
noncomputable def f_X10_numberAt_L5 (y2_5 : Int32) (m : sM) (e33_5 : Int32 → Option (sR Int32)) : Nat → Int32 → Int32 → Option (sR Int32)
  | 0, _, _ => none
  | n + 1, x3_5, x4_5 =>
    if y2_5 ≤ x4_5 then (e33_5 x3_5) else (s_ix x4_5 60 fun j1 => f_X10_numberAt_L5 y2_5 m e33_5 n (((10 * x3_5) + (m.1 127 j1)) - 48) (x4_5 + 1))
noncomputable def f_X10_numberAt (p1 : Int32) (p2 : Int32) (m : sM) : Option (sR Int32) :=
  s_jn (fun (x3_33 : Int32) => some (.inl x3_33, m)) fun e33_5 => f_X10_numberAt_L5 p2 m e33_5 5000 0 p1
set_option maxRecDepth 20000 in
set_option maxHeartbeats 4000000 in
theorem c_X10_numberAt (nw : Nat) (hnw : 29 ≤ nw) (p1 : Int32) (p2 : Int32) : s_Con s_i 110 nw yX10_numberAt wsX10_numberAt 12 140 0 (f_X10_numberAt p1 p2) (fun ad => [.ref (ad 110), .int p1, .int p2]) := by
  refine s_con_of cX10_numberAt 5 (some .int) RX10 (by decide) rfl rfl (fun _ => Nat.le_of_ble_eq_true rfl) (fun ad m res V C h => ?_)
  unfold f_X10_numberAt at h
  have F_i10 : ∀ w ∈ wsX100, w ∈ wsX10_numberAt := by decide +kernel
  have F_k59 : Cond.fieldLink RX10 59 "ShadowFileModel" "input" "[C" ∈ wsX10_numberAt := by decide +kernel
  show V 0 0 [(0, .ref (ad 110)), (1, .int p1), (2, .int p2)] [] m
  refine r_iconst C (v := 0) dX10_numberAt_0 (by decide) ?_
  refine r_istore_n C dX10_numberAt_1 rfl (by decide) (show _ = [(3, .int 0), (0, .ref (ad 110)), (1, .int p1), (2, .int p2)] from rfl) ?_
  refine r_iload_n C dX10_numberAt_2 rfl 2 rfl ?_
  refine r_istore C dX10_numberAt_3 (by decide) (show _ = [(4, .int p1), (3, .int 0), (0, .ref (ad 110)), (1, .int p1), (2, .int p2)] from rfl) ?_
  refine s_join h (fun e33_5 => ∀ (x3_33 : Int32), e33_5 x3_33 = some res → V 0 33 [(3, .int x3_33)] [] m) ?_ (fun e33_5 he33_5 h => ?_)
  · intro x3_33 h
    refine r_iload_n C dX10_numberAt_33 rfl 0 rfl ?_
    exact r_iret C dX10_numberAt_34 rfl h
  have L5 : ∀ (n : Nat) (x3_5 : Int32) (x4_5 : Int32), f_X10_numberAt_L5 p2 m e33_5 n x3_5 x4_5 = some res → V 0 5 [(0, .ref (ad 110)), (2, .int p2), (3, .int x3_5), (4, .int x4_5)] [] m := by
    intro n
    induction n with
    | zero => intro x3_5 x4_5 h; rw [f_X10_numberAt_L5] at h; cases h
    | succ n ih =>
      intro x3_5 x4_5 h
      rw [f_X10_numberAt_L5] at h
      refine r_iload C dX10_numberAt_5 3 rfl ?_
      refine r_iload_n C dX10_numberAt_7 rfl 1 rfl ?_
      refine r_icmp_ge C (tgt := 33) dX10_numberAt_8 (by decide) h (fun _ h => ?_) (fun _ h => ?_)
      · skip
        refine r_sub C [2] (show _ = [(3, .int x3_5)] from rfl) ?_
        exact he33_5 x3_5 h
      · skip
        refine r_bipush C (v := 10) dX10_numberAt_11 (by decide) ?_
        refine r_iload_n C dX10_numberAt_13 rfl 2 rfl ?_
        refine r_imul C dX10_numberAt_14 ?_
        refine r_aload_n C dX10_numberAt_15 rfl 0 rfl ?_
        refine r_getr C (ci := 10) (k9 := 20) dX10_numberAt_16 rfl F_i10 (by decide) F_k59 (by omega) la_110 rfl ?_
        refine r_iload C dX10_numberAt_19 3 rfl ?_
        refine r_cald C dX10_numberAt_21 (by omega) la_127 h (fun j1 hj1 h => ?_)
        refine r_iadd C dX10_numberAt_22 ?_
        refine r_bipush C (v := 48) dX10_numberAt_23 (by decide) ?_
        refine r_isub C dX10_numberAt_25 ?_
        refine r_istore_n C dX10_numberAt_26 rfl (by decide) (show _ = [(3, .int (((10 * x3_5) + (m.1 127 j1)) - 48)), (0, .ref (ad 110)), (2, .int p2), (4, .int x4_5)] from rfl) ?_
        refine r_iinc C (v := x4_5 + 1) dX10_numberAt_27 3 rfl rfl (by decide) (show _ = [(4, .int (x4_5 + 1)), (3, .int (((10 * x3_5) + (m.1 127 j1)) - 48)), (0, .ref (ad 110)), (2, .int p2)] from rfl) ?_
        refine r_goto C (tgt := 5) dX10_numberAt_30 (by decide) ?_
        refine r_sub C [2, 3, 1, 0] (show _ = [(0, .ref (ad 110)), (2, .int p2), (3, .int (((10 * x3_5) + (m.1 127 j1)) - 48)), (4, .int (x4_5 + 1))] from rfl) ?_
        exact ih (((10 * x3_5) + (m.1 127 j1)) - 48) (x4_5 + 1) h
  refine r_sub C [2, 4, 1, 0] (show _ = [(0, .ref (ad 110)), (2, .int p2), (3, .int 0), (4, .int p1)] from rfl) ?_
  exact L5 5000 0 p1 h
noncomputable def f_X10_read_L12 (y1_12 : Int32) (e230_12 : Int32 → sM → Option (sR Int32)) (e218_12 : sM → Option (sR Int32)) (e146_12 : Int32 → sM → Option (sR Int32)) (e103_12 : Int32 → sM → Option (sR Int32)) (e48_12 : Int32 → sM → Option (sR Int32)) : Nat → Int32 → sM → Option (sR Int32)
  | 0, _, _ => none
  | n + 1, x2_12, m12_ =>
    s_bd (f_X10_isSign x2_12 45 m12_) fun r3 m4 => s_jn (fun (s0_30 : Int32) => s_bd (f_X10_behindDigits (x2_12 + s0_30) 2 m4) fun r5 m6 => if r5 = (x2_12 + s0_30) then (e48_12 r5 m6) else (s_bd (f_X10_numberAt (x2_12 + s0_30) r5 m6) fun r7 m8 => s_jn (fun (s0_83 : Int32) => s_md (s_up m8 110 32 s0_83) fun m9 => s_jn (fun (x2_173 : Int32) (x6_173 : Int32) (m173_ : sM) => s_md (s_up m173_ 110 31 ((m173_.1 110 31) + 1)) fun m10 => s_jn (fun (m210_ : sM) => if x2_173 = (m210_.1 110 21) then (e218_12  m210_) else (s_bd (f_X10_isSign x2_173 44 m210_) fun r11 m12 => if r11 = 0 then (e230_12 x2_173 m12) else (f_X10_read_L12 y1_12 e230_12 e218_12 e146_12 e103_12 e48_12 n (x2_173 + 1) m12))) fun k210 => if y1_12 < 0 then (k210  m10) else (if r3 = 0 then (s_bd (f_X10_change y1_12 r7 x6_173 m10) fun r13 m14 => k210  m14) else (s_bd (f_X10_drop y1_12 r7 m10) fun r15 m16 => k210  m16))) fun k173 => if r3 = 0 then (s_bd (f_X10_isSign r5 61 m9) fun r17 m18 => if r17 = 0 then (e103_12 r5 m18) else (s_bd (f_X10_isSign (r5 + 1) 45 m18) fun r19 m20 => s_jn (fun (s0_128 : Int32) => s_bd (f_X10_behindDigits ((r5 + 1) + s0_128) 4 m20) fun r21 m22 => if r21 = ((r5 + 1) + s0_128) then (e146_12 r21 m22) else (s_jn (fun (s0_171 : Int32) (m171_ : sM) => k173 r21 s0_171 m171_) fun k171 => if r19 = 0 then (s_bd (f_X10_numberAt ((r5 + 1) + s0_128) r21 m22) fun r23 m24 => k171 r23 m24) else (s_bd (f_X10_numberAt ((r5 + 1) + s0_128) r21 m22) fun r25 m26 => k171 (-r25) m26))) fun k128 => if r19 = 0 then (k128 0) else (k128 1))) else (k173 r5 0 m9)) fun k83 => s_jn (k83 (m8.1 110 32)) fun k79 => if 0 ≤ (m8.1 110 32) then (k79) else (if r7 < 64 then (k79) else (k83 (x2_12 + s0_30))))) fun k30 => if r3 = 0 then (k30 0) else (k30 1)
noncomputable def f_X10_read (p1 : Int32) (m : sM) : Option (sR Int32) :=
  s_md (s_up m 110 31 0) fun m1 => s_md (s_up m1 110 32 (-1)) fun m2 => s_jn (fun (x2_230 : Int32) (m230_ : sM) => some (.inl x2_230, m230_)) fun e230_12 => s_jn (fun (m218_ : sM) => some (.inl (-1), m218_)) fun e218_12 => s_jn (fun (x2_146 : Int32) (m146_ : sM) => some (.inl x2_146, m146_)) fun e146_12 => s_jn (fun (x2_103 : Int32) (m103_ : sM) => some (.inl x2_103, m103_)) fun e103_12 => s_jn (fun (x2_48 : Int32) (m48_ : sM) => some (.inl x2_48, m48_)) fun e48_12 => f_X10_read_L12 p1 e230_12 e218_12 e146_12 e103_12 e48_12 5000 0 m2
set_option maxRecDepth 20000 in
set_option maxHeartbeats 4000000 in
theorem c_X10_read (nw : Nat) (hnw : 29 ≤ nw) (p1 : Int32) : s_Con s_i 110 nw yX10_read wsX10_read 18 275 0 (f_X10_read p1) (fun ad => [.ref (ad 110), .int p1]) := by
  refine s_con_of cX10_read 9 (some .int) RX10 (by decide) rfl rfl (fun _ => Nat.le_of_ble_eq_true rfl) (fun ad m res V C h => ?_)
  unfold f_X10_read at h
  have F_i10 : ∀ w ∈ wsX100, w ∈ wsX10_read := by decide +kernel
  have F_k176 : Cond.fieldLink RX10 176 "ShadowFileModel" "entries" "I" ∈ wsX10_read := by decide +kernel
  have F_k179 : Cond.fieldLink RX10 179 "ShadowFileModel" "largeKey" "I" ∈ wsX10_read := by decide +kernel
  have F_k170 : Cond.fieldLink RX10 170 "ShadowFileModel" "length" "I" ∈ wsX10_read := by decide +kernel
  show V 0 0 [(0, .ref (ad 110)), (1, .int p1)] [] m
  refine r_aload_n C dX10_read_0 rfl 0 rfl ?_
  refine r_iconst C (v := 0) dX10_read_1 (by decide) ?_
  refine r_puti C (ci := 10) (k9 := 31) dX10_read_2 rfl F_i10 (by decide) F_k176 (by omega) la_110 rfl tyX10 tyX10_ok nmX10 rfl (tyX10_ok 31 (by decide)) rfl rfl h (fun m1 _ h => ?_)
  refine r_aload_n C dX10_read_5 rfl 0 rfl ?_
  refine r_iconst C (v := -1) dX10_read_6 (by decide) ?_
  refine r_puti C (ci := 10) (k9 := 32) dX10_read_7 rfl F_i10 (by decide) F_k179 (by omega) la_110 rfl tyX10 tyX10_ok nmX10 rfl (tyX10_ok 32 (by decide)) rfl rfl h (fun m2 _ h => ?_)
  refine r_iconst C (v := 0) dX10_read_10 (by decide) ?_
  refine r_istore_n C dX10_read_11 rfl (by decide) (show _ = [(2, .int 0), (0, .ref (ad 110)), (1, .int p1)] from rfl) ?_
  refine s_join h (fun e230_12 => ∀ (x2_230 : Int32) (m230_ : sM), e230_12 x2_230 m230_ = some res → V 0 230 [(2, .int x2_230)] [] m230_) ?_ (fun e230_12 he230_12 h => ?_)
  · intro x2_230 m230_ h
    refine r_iload_n C dX10_read_230 rfl 0 rfl ?_
    exact r_iret C dX10_read_231 rfl h
  refine s_join h (fun e218_12 => ∀ (m218_ : sM), e218_12 m218_ = some res → V 0 218 [] [] m218_) ?_ (fun e218_12 he218_12 h => ?_)
  · intro m218_ h
    refine r_iconst C (v := -1) dX10_read_218 (by decide) ?_
    exact r_iret C dX10_read_219 rfl h
  refine s_join h (fun e146_12 => ∀ (x2_146 : Int32) (m146_ : sM), e146_12 x2_146 m146_ = some res → V 0 146 [(2, .int x2_146)] [] m146_) ?_ (fun e146_12 he146_12 h => ?_)
  · intro x2_146 m146_ h
    refine r_iload_n C dX10_read_146 rfl 0 rfl ?_
    exact r_iret C dX10_read_147 rfl h
  refine s_join h (fun e103_12 => ∀ (x2_103 : Int32) (m103_ : sM), e103_12 x2_103 m103_ = some res → V 0 103 [(2, .int x2_103)] [] m103_) ?_ (fun e103_12 he103_12 h => ?_)
  · intro x2_103 m103_ h
    refine r_iload_n C dX10_read_103 rfl 0 rfl ?_
    exact r_iret C dX10_read_104 rfl h
  refine s_join h (fun e48_12 => ∀ (x2_48 : Int32) (m48_ : sM), e48_12 x2_48 m48_ = some res → V 0 48 [(2, .int x2_48)] [] m48_) ?_ (fun e48_12 he48_12 h => ?_)
  · intro x2_48 m48_ h
    refine r_iload_n C dX10_read_48 rfl 0 rfl ?_
    exact r_iret C dX10_read_49 rfl h
  have L12 : ∀ (n : Nat) (x2_12 : Int32) (m12_ : sM), f_X10_read_L12 p1 e230_12 e218_12 e146_12 e103_12 e48_12 n x2_12 m12_ = some res → V 0 12 [(0, .ref (ad 110)), (1, .int p1), (2, .int x2_12)] [] m12_ := by
    intro n
    induction n with
    | zero => intro x2_12 m12_ h; rw [f_X10_read_L12] at h; cases h
    | succ n ih =>
      intro x2_12 m12_ h
      rw [f_X10_read_L12] at h
      refine r_aload_n C dX10_read_12 rfl 0 rfl ?_
      refine r_iload_n C dX10_read_13 rfl 2 rfl ?_
      refine r_bipush C (v := 45) dX10_read_14 (by decide) ?_
      refine r_callV C (c_X10_isSign nw hnw x2_12 45) (As := [.int x2_12, .int 45]) (nn := 2) (stk := [.int 45, .int x2_12, .ref (ad 110)]) (ci := 10) dX10_read_16 gX10_read_X10_isSign ⟨rfl, by decide, by decide, by decide +kernel⟩ (by omega) la_110 rfl rfl rfl (by decide) rfl rfl (Nat.le_of_ble_eq_true rfl) (by decide) h (fun r3 m4 h => ?_)
      show V 0 19 [(0, .ref (ad 110)), (1, .int p1), (2, .int x2_12)] [.int r3] m4
      refine r_istore_n C dX10_read_19 rfl (by decide) (show _ = [(3, .int r3), (0, .ref (ad 110)), (1, .int p1), (2, .int x2_12)] from rfl) ?_
      refine r_iload_n C dX10_read_20 rfl 3 rfl ?_
      refine r_iload_n C dX10_read_21 rfl 0 rfl ?_
      refine s_join h (fun k30 => ∀ (s0_30 : Int32), k30 s0_30 = some res → V 0 30 [(0, .ref (ad 110)), (1, .int p1), (3, .int r3)] [.int s0_30, .int x2_12] m4) ?_ (fun k30 hk30 h => ?_)
      · intro s0_30 h
        refine r_iadd C dX10_read_30 ?_
        refine r_istore_n C dX10_read_31 rfl (by decide) (show _ = [(2, .int (x2_12 + s0_30)), (0, .ref (ad 110)), (1, .int p1), (3, .int r3)] from rfl) ?_
        refine r_iload_n C dX10_read_32 rfl 0 rfl ?_
        refine r_istore C dX10_read_33 (by decide) (show _ = [(4, .int (x2_12 + s0_30)), (2, .int (x2_12 + s0_30)), (0, .ref (ad 110)), (1, .int p1), (3, .int r3)] from rfl) ?_
        refine r_aload_n C dX10_read_35 rfl 2 rfl ?_
        refine r_iload_n C dX10_read_36 rfl 1 rfl ?_
        refine r_iconst C (v := 2) dX10_read_37 (by decide) ?_
        refine r_callV C (c_X10_behindDigits nw hnw (x2_12 + s0_30) 2) (As := [.int (x2_12 + s0_30), .int 2]) (nn := 2) (stk := [.int 2, .int (x2_12 + s0_30), .ref (ad 110)]) (ci := 10) dX10_read_38 gX10_read_X10_behindDigits ⟨rfl, by decide, by decide, by decide +kernel⟩ (by omega) la_110 rfl rfl rfl (by decide) rfl rfl (Nat.le_of_ble_eq_true rfl) (by decide) h (fun r5 m6 h => ?_)
        show V 0 41 [(4, .int (x2_12 + s0_30)), (2, .int (x2_12 + s0_30)), (0, .ref (ad 110)), (1, .int p1), (3, .int r3)] [.int r5] m6
        refine r_istore_n C dX10_read_41 rfl (by decide) (show _ = [(2, .int r5), (4, .int (x2_12 + s0_30)), (0, .ref (ad 110)), (1, .int p1), (3, .int r3)] from rfl) ?_
        refine r_iload_n C dX10_read_42 rfl 0 rfl ?_
        refine r_iload C dX10_read_43 1 rfl ?_
        refine r_icmp_ne C (tgt := 50) dX10_read_45 (by decide) h (fun _ h => ?_) (fun _ h => ?_)
        · skip
          refine r_sub C [0] (show _ = [(2, .int r5)] from rfl) ?_
          exact he48_12 r5 m6 h
        · skip
          refine r_aload_n C dX10_read_50 rfl 2 rfl ?_
          refine r_iload C dX10_read_51 1 rfl ?_
          refine r_iload_n C dX10_read_53 rfl 0 rfl ?_
          refine r_callV C (c_X10_numberAt nw hnw (x2_12 + s0_30) r5) (As := [.int (x2_12 + s0_30), .int r5]) (nn := 2) (stk := [.int r5, .int (x2_12 + s0_30), .ref (ad 110)]) (ci := 10) dX10_read_54 gX10_read_X10_numberAt ⟨rfl, by decide, by decide, by decide +kernel⟩ (by omega) la_110 rfl rfl rfl (by decide) rfl rfl (Nat.le_of_ble_eq_true rfl) (by decide) h (fun r7 m8 h => ?_)
          show V 0 57 [(2, .int r5), (4, .int (x2_12 + s0_30)), (0, .ref (ad 110)), (1, .int p1), (3, .int r3)] [.int r7] m8
          refine r_istore C dX10_read_57 (by decide) (show _ = [(5, .int r7), (2, .int r5), (4, .int (x2_12 + s0_30)), (0, .ref (ad 110)), (1, .int p1), (3, .int r3)] from rfl) ?_
          refine r_aload_n C dX10_read_59 rfl 3 rfl ?_
          refine r_aload_n C dX10_read_60 rfl 3 rfl ?_
          refine r_geti C (ci := 10) (k9 := 32) dX10_read_61 rfl F_i10 (by decide) F_k179 (by omega) la_110 rfl ?_
          refine s_join h (fun k83 => ∀ (s0_83 : Int32), k83 s0_83 = some res → V 0 83 [(0, .ref (ad 110)), (1, .int p1), (2, .int r5), (3, .int r3), (5, .int r7)] [.int s0_83, .ref (ad 110)] m8) ?_ (fun k83 hk83 h => ?_)
          · intro s0_83 h
            refine r_puti C (ci := 10) (k9 := 32) dX10_read_83 rfl F_i10 (by decide) F_k179 (by omega) la_110 rfl tyX10 tyX10_ok nmX10 rfl (tyX10_ok 32 (by decide)) rfl rfl h (fun m9 _ h => ?_)
            refine r_iconst C (v := 0) dX10_read_86 (by decide) ?_
            refine r_istore C dX10_read_87 (by decide) (show _ = [(6, .int 0), (0, .ref (ad 110)), (1, .int p1), (2, .int r5), (3, .int r3), (5, .int r7)] from rfl) ?_
            refine r_iload_n C dX10_read_89 rfl 4 rfl ?_
            refine s_join h (fun k173 => ∀ (x2_173 : Int32) (x6_173 : Int32) (m173_ : sM), k173 x2_173 x6_173 m173_ = some res → V 0 173 [(0, .ref (ad 110)), (1, .int p1), (2, .int x2_173), (3, .int r3), (5, .int r7), (6, .int x6_173)] [] m173_) ?_ (fun k173 hk173 h => ?_)
            · intro x2_173 x6_173 m173_ h
              refine r_aload_n C dX10_read_173 rfl 0 rfl ?_
              refine r_dup C dX10_read_174 rfl ?_
              refine r_geti C (ci := 10) (k9 := 31) dX10_read_175 rfl F_i10 (by decide) F_k176 (by omega) la_110 rfl ?_
              refine r_iconst C (v := 1) dX10_read_178 (by decide) ?_
              refine r_iadd C dX10_read_179 ?_
              refine r_puti C (ci := 10) (k9 := 31) dX10_read_180 rfl F_i10 (by decide) F_k176 (by omega) la_110 rfl tyX10 tyX10_ok nmX10 rfl (tyX10_ok 31 (by decide)) rfl rfl h (fun m10 _ h => ?_)
              refine r_iload_n C dX10_read_183 rfl 1 rfl ?_
              refine s_join h (fun k210 => ∀ (m210_ : sM), k210 m210_ = some res → V 0 210 [(0, .ref (ad 110)), (1, .int p1), (2, .int x2_173)] [] m210_) ?_ (fun k210 hk210 h => ?_)
              · intro m210_ h
                refine r_iload_n C dX10_read_210 rfl 2 rfl ?_
                refine r_aload_n C dX10_read_211 rfl 0 rfl ?_
                refine r_geti C (ci := 10) (k9 := 21) dX10_read_212 rfl F_i10 (by decide) F_k170 (by omega) la_110 rfl ?_
                refine r_icmp_ne C (tgt := 220) dX10_read_215 (by decide) h (fun _ h => ?_) (fun _ h => ?_)
                · skip
                  refine r_sub C [] (show _ = [] from rfl) ?_
                  exact he218_12 m210_ h
                · skip
                  refine r_aload_n C dX10_read_220 rfl 0 rfl ?_
                  refine r_iload_n C dX10_read_221 rfl 2 rfl ?_
                  refine r_bipush C (v := 44) dX10_read_222 (by decide) ?_
                  refine r_callV C (c_X10_isSign nw hnw x2_173 44) (As := [.int x2_173, .int 44]) (nn := 2) (stk := [.int 44, .int x2_173, .ref (ad 110)]) (ci := 10) dX10_read_224 gX10_read_X10_isSign ⟨rfl, by decide, by decide, by decide +kernel⟩ (by omega) la_110 rfl rfl rfl (by decide) rfl rfl (Nat.le_of_ble_eq_true rfl) (by decide) h (fun r11 m12 h => ?_)
                  show V 0 227 [(0, .ref (ad 110)), (1, .int p1), (2, .int x2_173)] [.int r11] m12
                  refine r_if_ne C (tgt := 232) dX10_read_227 (by decide) h (fun _ h => ?_) (fun _ h => ?_)
                  · skip
                    refine r_sub C [2] (show _ = [(2, .int x2_173)] from rfl) ?_
                    exact he230_12 x2_173 m12 h
                  · skip
                    refine r_iinc C (v := x2_173 + 1) dX10_read_232 2 rfl rfl (by decide) (show _ = [(2, .int (x2_173 + 1)), (0, .ref (ad 110)), (1, .int p1)] from rfl) ?_
                    refine r_goto C (tgt := 12) dX10_read_235 (by decide) ?_
                    refine r_sub C [1, 2, 0] (show _ = [(0, .ref (ad 110)), (1, .int p1), (2, .int (x2_173 + 1))] from rfl) ?_
                    exact ih (x2_173 + 1) m12 h
              refine r_if_lt C (tgt := 210) dX10_read_184 (by decide) h (fun _ h => ?_) (fun _ h => ?_)
              · skip
                refine r_sub C [0, 1, 2] (show _ = [(0, .ref (ad 110)), (1, .int p1), (2, .int x2_173)] from rfl) ?_
                exact hk210 m10 h
              · skip
                refine r_iload_n C dX10_read_187 rfl 3 rfl ?_
                refine r_if_eq C (tgt := 201) dX10_read_188 (by decide) h (fun _ h => ?_) (fun _ h => ?_)
                · skip
                  refine r_aload_n C dX10_read_201 rfl 0 rfl ?_
                  refine r_iload_n C dX10_read_202 rfl 1 rfl ?_
                  refine r_iload C dX10_read_203 4 rfl ?_
                  refine r_iload C dX10_read_205 5 rfl ?_
                  refine r_callV C (c_X10_change nw hnw p1 r7 x6_173) (As := [.int p1, .int r7, .int x6_173]) (nn := 3) (stk := [.int x6_173, .int r7, .int p1, .ref (ad 110)]) (ci := 10) dX10_read_207 gX10_read_X10_change ⟨rfl, by decide, by decide, by decide +kernel⟩ (by omega) la_110 rfl rfl rfl (by decide) rfl rfl (Nat.le_of_ble_eq_true rfl) (by decide) h (fun r13 m14 h => ?_)
                  show V 0 210 [(0, .ref (ad 110)), (1, .int p1), (2, .int x2_173), (3, .int r3), (5, .int r7), (6, .int x6_173)] [] m14
                  refine r_sub C [0, 1, 2] (show _ = [(0, .ref (ad 110)), (1, .int p1), (2, .int x2_173)] from rfl) ?_
                  exact hk210 m14 h
                · skip
                  refine r_aload_n C dX10_read_191 rfl 0 rfl ?_
                  refine r_iload_n C dX10_read_192 rfl 1 rfl ?_
                  refine r_iload C dX10_read_193 4 rfl ?_
                  refine r_callV C (c_X10_drop nw hnw p1 r7) (As := [.int p1, .int r7]) (nn := 2) (stk := [.int r7, .int p1, .ref (ad 110)]) (ci := 10) dX10_read_195 gX10_read_X10_drop ⟨rfl, by decide, by decide, by decide +kernel⟩ (by omega) la_110 rfl rfl rfl (by decide) rfl rfl (Nat.le_of_ble_eq_true rfl) (by decide) h (fun r15 m16 h => ?_)
                  show V 0 198 [(0, .ref (ad 110)), (1, .int p1), (2, .int x2_173), (3, .int r3), (5, .int r7), (6, .int x6_173)] [] m16
                  refine r_goto C (tgt := 210) dX10_read_198 (by decide) ?_
                  refine r_sub C [0, 1, 2] (show _ = [(0, .ref (ad 110)), (1, .int p1), (2, .int x2_173)] from rfl) ?_
                  exact hk210 m16 h
            refine r_if_ne C (tgt := 173) dX10_read_90 (by decide) h (fun _ h => ?_) (fun _ h => ?_)
            · skip
              refine r_aload_n C dX10_read_93 rfl 1 rfl ?_
              refine r_iload_n C dX10_read_94 rfl 3 rfl ?_
              refine r_bipush C (v := 61) dX10_read_95 (by decide) ?_
              refine r_callV C (c_X10_isSign nw hnw r5 61) (As := [.int r5, .int 61]) (nn := 2) (stk := [.int 61, .int r5, .ref (ad 110)]) (ci := 10) dX10_read_97 gX10_read_X10_isSign ⟨rfl, by decide, by decide, by decide +kernel⟩ (by omega) la_110 rfl rfl rfl (by decide) rfl rfl (Nat.le_of_ble_eq_true rfl) (by decide) h (fun r17 m18 h => ?_)
              show V 0 100 [(6, .int 0), (0, .ref (ad 110)), (1, .int p1), (2, .int r5), (3, .int r3), (5, .int r7)] [.int r17] m18
              refine r_if_ne C (tgt := 105) dX10_read_100 (by decide) h (fun _ h => ?_) (fun _ h => ?_)
              · skip
                refine r_sub C [3] (show _ = [(2, .int r5)] from rfl) ?_
                exact he103_12 r5 m18 h
              · skip
                refine r_iinc C (v := r5 + 1) dX10_read_105 3 rfl rfl (by decide) (show _ = [(2, .int (r5 + 1)), (6, .int 0), (0, .ref (ad 110)), (1, .int p1), (3, .int r3), (5, .int r7)] from rfl) ?_
                refine r_aload_n C dX10_read_108 rfl 2 rfl ?_
                refine r_iload_n C dX10_read_109 rfl 0 rfl ?_
                refine r_bipush C (v := 45) dX10_read_110 (by decide) ?_
                refine r_callV C (c_X10_isSign nw hnw (r5 + 1) 45) (As := [.int (r5 + 1), .int 45]) (nn := 2) (stk := [.int 45, .int (r5 + 1), .ref (ad 110)]) (ci := 10) dX10_read_112 gX10_read_X10_isSign ⟨rfl, by decide, by decide, by decide +kernel⟩ (by omega) la_110 rfl rfl rfl (by decide) rfl rfl (Nat.le_of_ble_eq_true rfl) (by decide) h (fun r19 m20 h => ?_)
                show V 0 115 [(2, .int (r5 + 1)), (6, .int 0), (0, .ref (ad 110)), (1, .int p1), (3, .int r3), (5, .int r7)] [.int r19] m20
                refine r_istore C dX10_read_115 (by decide) (show _ = [(7, .int r19), (2, .int (r5 + 1)), (6, .int 0), (0, .ref (ad 110)), (1, .int p1), (3, .int r3), (5, .int r7)] from rfl) ?_
                refine r_iload_n C dX10_read_117 rfl 1 rfl ?_
                refine r_iload C dX10_read_118 0 rfl ?_
                refine s_join h (fun k128 => ∀ (s0_128 : Int32), k128 s0_128 = some res → V 0 128 [(0, .ref (ad 110)), (1, .int p1), (3, .int r3), (5, .int r7), (7, .int r19)] [.int s0_128, .int (r5 + 1)] m20) ?_ (fun k128 hk128 h => ?_)
                · intro s0_128 h
                  refine r_iadd C dX10_read_128 ?_
                  refine r_istore_n C dX10_read_129 rfl (by decide) (show _ = [(2, .int ((r5 + 1) + s0_128)), (0, .ref (ad 110)), (1, .int p1), (3, .int r3), (5, .int r7), (7, .int r19)] from rfl) ?_
                  refine r_iload_n C dX10_read_130 rfl 0 rfl ?_
                  refine r_istore C dX10_read_131 (by decide) (show _ = [(8, .int ((r5 + 1) + s0_128)), (2, .int ((r5 + 1) + s0_128)), (0, .ref (ad 110)), (1, .int p1), (3, .int r3), (5, .int r7), (7, .int r19)] from rfl) ?_
                  refine r_aload_n C dX10_read_133 rfl 2 rfl ?_
                  refine r_iload_n C dX10_read_134 rfl 1 rfl ?_
                  refine r_iconst C (v := 4) dX10_read_135 (by decide) ?_
                  refine r_callV C (c_X10_behindDigits nw hnw ((r5 + 1) + s0_128) 4) (As := [.int ((r5 + 1) + s0_128), .int 4]) (nn := 2) (stk := [.int 4, .int ((r5 + 1) + s0_128), .ref (ad 110)]) (ci := 10) dX10_read_136 gX10_read_X10_behindDigits ⟨rfl, by decide, by decide, by decide +kernel⟩ (by omega) la_110 rfl rfl rfl (by decide) rfl rfl (Nat.le_of_ble_eq_true rfl) (by decide) h (fun r21 m22 h => ?_)
                  show V 0 139 [(8, .int ((r5 + 1) + s0_128)), (2, .int ((r5 + 1) + s0_128)), (0, .ref (ad 110)), (1, .int p1), (3, .int r3), (5, .int r7), (7, .int r19)] [.int r21] m22
                  refine r_istore_n C dX10_read_139 rfl (by decide) (show _ = [(2, .int r21), (8, .int ((r5 + 1) + s0_128)), (0, .ref (ad 110)), (1, .int p1), (3, .int r3), (5, .int r7), (7, .int r19)] from rfl) ?_
                  refine r_iload_n C dX10_read_140 rfl 0 rfl ?_
                  refine r_iload C dX10_read_141 1 rfl ?_
                  refine r_icmp_ne C (tgt := 148) dX10_read_143 (by decide) h (fun _ h => ?_) (fun _ h => ?_)
                  · skip
                    refine r_sub C [0] (show _ = [(2, .int r21)] from rfl) ?_
                    exact he146_12 r21 m22 h
                  · skip
                    refine r_iload C dX10_read_148 6 rfl ?_
                    refine s_join h (fun k171 => ∀ (s0_171 : Int32) (m171_ : sM), k171 s0_171 m171_ = some res → V 0 171 [(0, .ref (ad 110)), (1, .int p1), (2, .int r21), (3, .int r3), (5, .int r7)] [.int s0_171] m171_) ?_ (fun k171 hk171 h => ?_)
                    · intro s0_171 m171_ h
                      refine r_istore C dX10_read_171 (by decide) (show _ = [(6, .int s0_171), (0, .ref (ad 110)), (1, .int p1), (2, .int r21), (3, .int r3), (5, .int r7)] from rfl) ?_
                      refine r_sub C [1, 2, 3, 4, 5, 0] (show _ = [(0, .ref (ad 110)), (1, .int p1), (2, .int r21), (3, .int r3), (5, .int r7), (6, .int s0_171)] from rfl) ?_
                      exact hk173 r21 s0_171 m171_ h
                    refine r_if_eq C (tgt := 164) dX10_read_150 (by decide) h (fun _ h => ?_) (fun _ h => ?_)
                    · skip
                      refine r_aload_n C dX10_read_164 rfl 2 rfl ?_
                      refine r_iload C dX10_read_165 1 rfl ?_
                      refine r_iload_n C dX10_read_167 rfl 0 rfl ?_
                      refine r_callV C (c_X10_numberAt nw hnw ((r5 + 1) + s0_128) r21) (As := [.int ((r5 + 1) + s0_128), .int r21]) (nn := 2) (stk := [.int r21, .int ((r5 + 1) + s0_128), .ref (ad 110)]) (ci := 10) dX10_read_168 gX10_read_X10_numberAt ⟨rfl, by decide, by decide, by decide +kernel⟩ (by omega) la_110 rfl rfl rfl (by decide) rfl rfl (Nat.le_of_ble_eq_true rfl) (by decide) h (fun r23 m24 h => ?_)
                      show V 0 171 [(2, .int r21), (8, .int ((r5 + 1) + s0_128)), (0, .ref (ad 110)), (1, .int p1), (3, .int r3), (5, .int r7), (7, .int r19)] [.int r23] m24
                      refine r_sub C [2, 3, 0, 4, 5] (show _ = [(0, .ref (ad 110)), (1, .int p1), (2, .int r21), (3, .int r3), (5, .int r7)] from rfl) ?_
                      exact hk171 r23 m24 h
                    · skip
                      refine r_aload_n C dX10_read_153 rfl 2 rfl ?_
                      refine r_iload C dX10_read_154 1 rfl ?_
                      refine r_iload_n C dX10_read_156 rfl 0 rfl ?_
                      refine r_callV C (c_X10_numberAt nw hnw ((r5 + 1) + s0_128) r21) (As := [.int ((r5 + 1) + s0_128), .int r21]) (nn := 2) (stk := [.int r21, .int ((r5 + 1) + s0_128), .ref (ad 110)]) (ci := 10) dX10_read_157 gX10_read_X10_numberAt ⟨rfl, by decide, by decide, by decide +kernel⟩ (by omega) la_110 rfl rfl rfl (by decide) rfl rfl (Nat.le_of_ble_eq_true rfl) (by decide) h (fun r25 m26 h => ?_)
                      show V 0 160 [(2, .int r21), (8, .int ((r5 + 1) + s0_128)), (0, .ref (ad 110)), (1, .int p1), (3, .int r3), (5, .int r7), (7, .int r19)] [.int r25] m26
                      refine r_ineg C dX10_read_160 ?_
                      refine r_goto C (tgt := 171) dX10_read_161 (by decide) ?_
                      refine r_sub C [2, 3, 0, 4, 5] (show _ = [(0, .ref (ad 110)), (1, .int p1), (2, .int r21), (3, .int r3), (5, .int r7)] from rfl) ?_
                      exact hk171 (-r25) m26 h
                refine r_if_eq C (tgt := 127) dX10_read_120 (by decide) h (fun _ h => ?_) (fun _ h => ?_)
                · skip
                  refine r_iconst C (v := 0) dX10_read_127 (by decide) ?_
                  refine r_sub C [3, 4, 5, 6, 0] (show _ = [(0, .ref (ad 110)), (1, .int p1), (3, .int r3), (5, .int r7), (7, .int r19)] from rfl) ?_
                  exact hk128 0 h
                · skip
                  refine r_iconst C (v := 1) dX10_read_123 (by decide) ?_
                  refine r_goto C (tgt := 128) dX10_read_124 (by decide) ?_
                  refine r_sub C [3, 4, 5, 6, 0] (show _ = [(0, .ref (ad 110)), (1, .int p1), (3, .int r3), (5, .int r7), (7, .int r19)] from rfl) ?_
                  exact hk128 1 h
            · skip
              refine r_sub C [1, 2, 3, 4, 5, 0] (show _ = [(0, .ref (ad 110)), (1, .int p1), (2, .int r5), (3, .int r3), (5, .int r7), (6, .int 0)] from rfl) ?_
              exact hk173 r5 0 m9 h
          refine s_join h (fun k79 => k79  = some res → V 0 79 [(0, .ref (ad 110)), (1, .int p1), (2, .int r5), (3, .int r3), (5, .int r7)] [.ref (ad 110)] m8) ?_ (fun k79 hk79 h => ?_)
          · intro  h
            refine r_aload_n C dX10_read_79 rfl 0 rfl ?_
            refine r_geti C (ci := 10) (k9 := 32) dX10_read_80 rfl F_i10 (by decide) F_k179 (by omega) la_110 rfl ?_
            exact hk83 (m8.1 110 32) h
          refine r_if_ge C (tgt := 79) dX10_read_64 (by decide) h (fun _ h => ?_) (fun _ h => ?_)
          · skip
            refine r_sub C [3, 4, 1, 5, 0] (show _ = [(0, .ref (ad 110)), (1, .int p1), (2, .int r5), (3, .int r3), (5, .int r7)] from rfl) ?_
            exact hk79 h
          · skip
            refine r_iload C dX10_read_67 0 rfl ?_
            refine r_bipush C (v := 64) dX10_read_69 (by decide) ?_
            refine r_icmp_lt C (tgt := 79) dX10_read_71 (by decide) h (fun _ h => ?_) (fun _ h => ?_)
            · skip
              refine r_sub C [3, 4, 1, 5, 0] (show _ = [(0, .ref (ad 110)), (1, .int p1), (2, .int r5), (3, .int r3), (5, .int r7)] from rfl) ?_
              exact hk79 h
            · skip
              refine r_iload C dX10_read_74 2 rfl ?_
              refine r_goto C (tgt := 83) dX10_read_76 (by decide) ?_
              refine r_sub C [3, 4, 1, 5, 0] (show _ = [(0, .ref (ad 110)), (1, .int p1), (2, .int r5), (3, .int r3), (5, .int r7)] from rfl) ?_
              exact hk83 (x2_12 + s0_30) h
      refine r_if_eq C (tgt := 29) dX10_read_22 (by decide) h (fun _ h => ?_) (fun _ h => ?_)
      · skip
        refine r_iconst C (v := 0) dX10_read_29 (by decide) ?_
        refine r_sub C [1, 2, 0] (show _ = [(0, .ref (ad 110)), (1, .int p1), (3, .int r3)] from rfl) ?_
        exact hk30 0 h
      · skip
        refine r_iconst C (v := 1) dX10_read_25 (by decide) ?_
        refine r_goto C (tgt := 30) dX10_read_26 (by decide) ?_
        refine r_sub C [1, 2, 0] (show _ = [(0, .ref (ad 110)), (1, .int p1), (3, .int r3)] from rfl) ?_
        exact hk30 1 h
  refine r_sub C [1, 2, 0] (show _ = [(0, .ref (ad 110)), (1, .int p1), (2, .int 0)] from rfl) ?_
  exact L12 5000 0 m2 h
noncomputable def f_X10_readChanges (p1 : Int32) (m : sM) : Option (sR Int32) :=
  s_bd (f_X10_isSlot p1 m) fun r1 m2 => s_jn (fun (s0_27 : Int32) => s_md (s_up m2 110 0 s0_27) fun m3 => s_jn (fun (x2_81 : Int32) (m81_ : sM) => s_md (s_up m81_ 110 21 0) fun m4 => some (.inl x2_81, m4)) fun k81 => if (m3.1 110 0) = 0 then (s_bd (f_X10_read (-1) m3) fun r5 m6 => s_jn (fun (s0_57 : Int32) => if 0 ≤ s0_57 then (k81 ((-100) - s0_57) m6) else (s_bd (f_X10_read p1 m6) fun r7 m8 => k81 (m8.1 110 31) m8)) fun k57 => if 0 ≤ r5 then (k57 r5) else (k57 (m6.1 110 32))) else (k81 0 m3)) fun k27 => if r1 = 0 then (k27 1) else (s_ix p1 3 fun j9 => if (m2.1 118 j9) = 1 then (k27 0) else (k27 2))
set_option maxRecDepth 20000 in
set_option maxHeartbeats 4000000 in
theorem c_X10_readChanges (nw : Nat) (hnw : 29 ≤ nw) (p1 : Int32) : s_Con s_i 110 nw yX10_readChanges wsX10_readChanges 20 320 0 (f_X10_readChanges p1) (fun ad => [.ref (ad 110), .int p1]) := by
  refine s_con_of cX10_readChanges 4 (some .int) RX10 (by decide) rfl rfl (fun _ => Nat.le_of_ble_eq_true rfl) (fun ad m res V C h => ?_)
  unfold f_X10_readChanges at h
  have F_i10 : ∀ w ∈ wsX100, w ∈ wsX10_readChanges := by decide +kernel
  have F_k100 : Cond.fieldLink RX10 100 "ShadowFileModel" "thrown" "I" ∈ wsX10_readChanges := by decide +kernel
  have F_k170 : Cond.fieldLink RX10 170 "ShadowFileModel" "length" "I" ∈ wsX10_readChanges := by decide +kernel
  have F_k176 : Cond.fieldLink RX10 176 "ShadowFileModel" "entries" "I" ∈ wsX10_readChanges := by decide +kernel
  have F_k179 : Cond.fieldLink RX10 179 "ShadowFileModel" "largeKey" "I" ∈ wsX10_readChanges := by decide +kernel
  have F_k32 : Cond.fieldLink RX10 32 "ShadowFileModel" "state" "[I" ∈ wsX10_readChanges := by decide +kernel
  show V 0 0 [(0, .ref (ad 110)), (1, .int p1)] [] m
  refine r_aload_n C dX10_readChanges_0 rfl 0 rfl ?_
  refine r_iload_n C dX10_readChanges_1 rfl 1 rfl ?_
  refine r_callS C (c_X10_isSlot nw hnw p1) (As := [.int p1]) (nn := 1) (stk := [.int p1, .ref (ad 110)]) dX10_readChanges_2 gX10_readChanges_X10_isSlot ⟨by decide, by decide, by decide +kernel⟩ rfl rfl (by decide) rfl rfl (Nat.le_of_ble_eq_true rfl) (by decide) h (fun r1 m2 h => ?_)
  show V 0 5 [(0, .ref (ad 110)), (1, .int p1)] [.int r1, .ref (ad 110)] m2
  refine s_join h (fun k27 => ∀ (s0_27 : Int32), k27 s0_27 = some res → V 0 27 [(0, .ref (ad 110)), (1, .int p1)] [.int s0_27, .ref (ad 110)] m2) ?_ (fun k27 hk27 h => ?_)
  · intro s0_27 h
    refine r_puti C (ci := 10) (k9 := 0) dX10_readChanges_27 rfl F_i10 (by decide) F_k100 (by omega) la_110 rfl tyX10 tyX10_ok nmX10 rfl (tyX10_ok 0 (by decide)) rfl rfl h (fun m3 _ h => ?_)
    refine r_iconst C (v := 0) dX10_readChanges_30 (by decide) ?_
    refine r_istore_n C dX10_readChanges_31 rfl (by decide) (show _ = [(2, .int 0), (0, .ref (ad 110)), (1, .int p1)] from rfl) ?_
    refine r_aload_n C dX10_readChanges_32 rfl 1 rfl ?_
    refine r_geti C (ci := 10) (k9 := 0) dX10_readChanges_33 rfl F_i10 (by decide) F_k100 (by omega) la_110 rfl ?_
    refine s_join h (fun k81 => ∀ (x2_81 : Int32) (m81_ : sM), k81 x2_81 m81_ = some res → V 0 81 [(0, .ref (ad 110)), (2, .int x2_81)] [] m81_) ?_ (fun k81 hk81 h => ?_)
    · intro x2_81 m81_ h
      refine r_aload_n C dX10_readChanges_81 rfl 0 rfl ?_
      refine r_iconst C (v := 0) dX10_readChanges_82 (by decide) ?_
      refine r_puti C (ci := 10) (k9 := 21) dX10_readChanges_83 rfl F_i10 (by decide) F_k170 (by omega) la_110 rfl tyX10 tyX10_ok nmX10 rfl (tyX10_ok 21 (by decide)) rfl rfl h (fun m4 _ h => ?_)
      refine r_iload_n C dX10_readChanges_86 rfl 1 rfl ?_
      exact r_iret C dX10_readChanges_87 rfl h
    refine r_if_ne C (tgt := 81) dX10_readChanges_36 (by decide) h (fun _ h => ?_) (fun _ h => ?_)
    · skip
      refine r_aload_n C dX10_readChanges_39 rfl 1 rfl ?_
      refine r_iconst C (v := -1) dX10_readChanges_40 (by decide) ?_
      refine r_callV C (c_X10_read nw hnw (-1)) (As := [.int (-1)]) (nn := 1) (stk := [.int (-1), .ref (ad 110)]) (ci := 10) dX10_readChanges_41 gX10_readChanges_X10_read ⟨rfl, by decide, by decide, by decide +kernel⟩ (by omega) la_110 rfl rfl rfl (by decide) rfl rfl (Nat.le_of_ble_eq_true rfl) (by decide) h (fun r5 m6 h => ?_)
      show V 0 44 [(2, .int 0), (0, .ref (ad 110)), (1, .int p1)] [.int r5] m6
      refine r_istore_n C dX10_readChanges_44 rfl (by decide) (show _ = [(3, .int r5), (2, .int 0), (0, .ref (ad 110)), (1, .int p1)] from rfl) ?_
      refine r_iload_n C dX10_readChanges_45 rfl 0 rfl ?_
      refine s_join h (fun k57 => ∀ (s0_57 : Int32), k57 s0_57 = some res → V 0 57 [(0, .ref (ad 110)), (1, .int p1)] [.int s0_57] m6) ?_ (fun k57 hk57 h => ?_)
      · intro s0_57 h
        refine r_istore_n C dX10_readChanges_57 rfl (by decide) (show _ = [(3, .int s0_57), (0, .ref (ad 110)), (1, .int p1)] from rfl) ?_
        refine r_iload_n C dX10_readChanges_58 rfl 0 rfl ?_
        refine r_if_ge C (tgt := 76) dX10_readChanges_59 (by decide) h (fun _ h => ?_) (fun _ h => ?_)
        · skip
          refine r_bipush C (v := -100) dX10_readChanges_76 (by decide) ?_
          refine r_iload_n C dX10_readChanges_78 rfl 0 rfl ?_
          refine r_isub C dX10_readChanges_79 ?_
          refine r_istore_n C dX10_readChanges_80 rfl (by decide) (show _ = [(2, .int ((-100) - s0_57)), (3, .int s0_57), (0, .ref (ad 110)), (1, .int p1)] from rfl) ?_
          refine r_sub C [2, 0] (show _ = [(0, .ref (ad 110)), (2, .int ((-100) - s0_57))] from rfl) ?_
          exact hk81 ((-100) - s0_57) m6 h
        · skip
          refine r_aload_n C dX10_readChanges_62 rfl 1 rfl ?_
          refine r_iload_n C dX10_readChanges_63 rfl 2 rfl ?_
          refine r_callV C (c_X10_read nw hnw p1) (As := [.int p1]) (nn := 1) (stk := [.int p1, .ref (ad 110)]) (ci := 10) dX10_readChanges_64 gX10_readChanges_X10_read ⟨rfl, by decide, by decide, by decide +kernel⟩ (by omega) la_110 rfl rfl rfl (by decide) rfl rfl (Nat.le_of_ble_eq_true rfl) (by decide) h (fun r7 m8 h => ?_)
          show V 0 67 [(3, .int s0_57), (0, .ref (ad 110)), (1, .int p1)] [.int r7] m8
          refine r_istore_n C dX10_readChanges_67 rfl (by decide) (show _ = [(3, .int r7), (0, .ref (ad 110)), (1, .int p1)] from rfl) ?_
          refine r_aload_n C dX10_readChanges_68 rfl 1 rfl ?_
          refine r_geti C (ci := 10) (k9 := 31) dX10_readChanges_69 rfl F_i10 (by decide) F_k176 (by omega) la_110 rfl ?_
          refine r_istore_n C dX10_readChanges_72 rfl (by decide) (show _ = [(2, .int (m8.1 110 31)), (3, .int r7), (0, .ref (ad 110)), (1, .int p1)] from rfl) ?_
          refine r_goto C (tgt := 81) dX10_readChanges_73 (by decide) ?_
          refine r_sub C [2, 0] (show _ = [(0, .ref (ad 110)), (2, .int (m8.1 110 31))] from rfl) ?_
          exact hk81 (m8.1 110 31) m8 h
      refine r_if_ge C (tgt := 56) dX10_readChanges_46 (by decide) h (fun _ h => ?_) (fun _ h => ?_)
      · skip
        refine r_iload_n C dX10_readChanges_56 rfl 0 rfl ?_
        refine r_sub C [2, 3] (show _ = [(0, .ref (ad 110)), (1, .int p1)] from rfl) ?_
        exact hk57 r5 h
      · skip
        refine r_aload_n C dX10_readChanges_49 rfl 2 rfl ?_
        refine r_geti C (ci := 10) (k9 := 32) dX10_readChanges_50 rfl F_i10 (by decide) F_k179 (by omega) la_110 rfl ?_
        refine r_goto C (tgt := 57) dX10_readChanges_53 (by decide) ?_
        refine r_sub C [2, 3] (show _ = [(0, .ref (ad 110)), (1, .int p1)] from rfl) ?_
        exact hk57 (m6.1 110 32) h
    · skip
      refine r_sub C [1, 0] (show _ = [(0, .ref (ad 110)), (2, .int 0)] from rfl) ?_
      exact hk81 0 m3 h
  refine r_if_ne C (tgt := 12) dX10_readChanges_5 (by decide) h (fun _ h => ?_) (fun _ h => ?_)
  · skip
    refine r_iconst C (v := 1) dX10_readChanges_8 (by decide) ?_
    refine r_goto C (tgt := 27) dX10_readChanges_9 (by decide) ?_
    exact hk27 1 h
  · skip
    refine r_aload_n C dX10_readChanges_12 rfl 0 rfl ?_
    refine r_getr C (ci := 10) (k9 := 10) dX10_readChanges_13 rfl F_i10 (by decide) F_k32 (by omega) la_110 rfl ?_
    refine r_iload_n C dX10_readChanges_16 rfl 1 rfl ?_
    refine r_iald C dX10_readChanges_17 (by omega) la_118 h (fun j9 hj9 h => ?_)
    refine r_iconst C (v := 1) dX10_readChanges_18 (by decide) ?_
    refine r_icmp_eq C (tgt := 26) dX10_readChanges_19 (by decide) h (fun _ h => ?_) (fun _ h => ?_)
    · skip
      refine r_iconst C (v := 0) dX10_readChanges_26 (by decide) ?_
      exact hk27 0 h
    · skip
      refine r_iconst C (v := 2) dX10_readChanges_22 (by decide) ?_
      refine r_goto C (tgt := 27) dX10_readChanges_23 (by decide) ?_
      exact hk27 2 h
noncomputable def f_X10_say (p1 : Int32) (m : sM) : Option (sR Unit) :=
  s_ix (m.1 110 23) 1024 fun j1 => s_md (s_up m 128 j1 (vp_nar .char p1)) fun m2 => s_md (s_up m2 110 23 ((m2.1 110 23) + 1)) fun m3 => some (.inl (), m3)
set_option maxRecDepth 20000 in
set_option maxHeartbeats 4000000 in
theorem c_X10_say (nw : Nat) (hnw : 29 ≤ nw) (p1 : Int32) : s_Con s_u 110 nw yX10_say wsX10_say 12 140 0 (f_X10_say p1) (fun ad => [.ref (ad 110), .int p1]) := by
  refine s_con_of cX10_say 2 none RX10 (by decide) rfl rfl (fun _ => Nat.le_of_ble_eq_true rfl) (fun ad m res V C h => ?_)
  unfold f_X10_say at h
  have F_i10 : ∀ w ∈ wsX100, w ∈ wsX10_say := by decide +kernel
  have F_k63 : Cond.fieldLink RX10 63 "ShadowFileModel" "output" "[C" ∈ wsX10_say := by decide +kernel
  have F_k195 : Cond.fieldLink RX10 195 "ShadowFileModel" "written" "I" ∈ wsX10_say := by decide +kernel
  show V 0 0 [(0, .ref (ad 110)), (1, .int p1)] [] m
  refine r_aload_n C dX10_say_0 rfl 0 rfl ?_
  refine r_getr C (ci := 10) (k9 := 22) dX10_say_1 rfl F_i10 (by decide) F_k63 (by omega) la_110 rfl ?_
  refine r_aload_n C dX10_say_4 rfl 0 rfl ?_
  refine r_geti C (ci := 10) (k9 := 23) dX10_say_5 rfl F_i10 (by decide) F_k195 (by omega) la_110 rfl ?_
  refine r_iload_n C dX10_say_8 rfl 1 rfl ?_
  refine r_cast C dX10_say_9 (by omega) la_128 h (fun j1 m2 hj1 _ h => ?_)
  refine r_aload_n C dX10_say_10 rfl 0 rfl ?_
  refine r_dup C dX10_say_11 rfl ?_
  refine r_geti C (ci := 10) (k9 := 23) dX10_say_12 rfl F_i10 (by decide) F_k195 (by omega) la_110 rfl ?_
  refine r_iconst C (v := 1) dX10_say_15 (by decide) ?_
  refine r_iadd C dX10_say_16 ?_
  refine r_puti C (ci := 10) (k9 := 23) dX10_say_17 rfl F_i10 (by decide) F_k195 (by omega) la_110 rfl tyX10 tyX10_ok nmX10 rfl (tyX10_ok 23 (by decide)) rfl rfl h (fun m3 _ h => ?_)
  exact r_vret C dX10_say_20 rfl h
noncomputable def f_X10_sd : Nat → Int32 → sM → Option (sR Unit)
  | 0, _, _ => none
  | n + 1, p1, m =>
    s_jn (fun (m14_ : sM) => s_bd (f_X10_say (s_i2c (48 - (p1 - p1 / 10 * 10))) m14_) fun r1 m2 => some (.inl (), m2)) fun k14 => if (-10) < p1 then (k14  m) else (s_bd (f_X10_sd n (p1 / 10) m) fun r3 m4 => k14  m4)
noncomputable def f_X10_sayDigits (p1 : Int32) (m : sM) : Option (sR Unit) := f_X10_sd 11 p1 m
set_option maxRecDepth 20000 in
set_option maxHeartbeats 4000000 in
theorem c_X10_sd (n : Nat) : ∀ (nw : Nat) (hnw : 29 ≤ nw) (p1 : Int32), s_Con s_u 110 nw yX10_sayDigits wsX10_sayDigits (12 + 2 * n) (140 + 45 * n) 0 (f_X10_sd n p1) (fun ad => [.ref (ad 110), .int p1]) := by
  induction n with
  | zero => intro nw hnw p1 l hst dC dI dA ad sz m res h; rw [f_X10_sd] at h; cases h
  | succ n ih =>
    intro nw hnw p1
    refine s_con_of cX10_sayDigits 2 none RX10 (by decide) rfl rfl (fun _ => Nat.le_of_ble_eq_true rfl) (fun ad m res V C h => ?_)
    rw [f_X10_sd] at h
    show V 0 0 [(0, .ref (ad 110)), (1, .int p1)] [] m
    refine r_iload_n C dX10_sayDigits_0 rfl 1 rfl ?_
    refine r_bipush C (v := -10) dX10_sayDigits_1 (by decide) ?_
    refine s_join h (fun k14 => ∀ (m14_ : sM), k14 m14_ = some res → V 0 14 [(0, .ref (ad 110)), (1, .int p1)] [] m14_) ?_ (fun k14 hk14 h => ?_)
    · intro m14_ h
      refine r_aload_n C dX10_sayDigits_14 rfl 0 rfl ?_
      refine r_bipush C (v := 48) dX10_sayDigits_15 (by decide) ?_
      refine r_iload_n C dX10_sayDigits_17 rfl 1 rfl ?_
      refine r_bipush C (v := 10) dX10_sayDigits_18 (by decide) ?_
      refine r_irem C dX10_sayDigits_20 (by decide) ?_
      refine r_isub C dX10_sayDigits_21 ?_
      refine r_i2c C dX10_sayDigits_22 ?_
      refine r_callV C (c_X10_say nw hnw (s_i2c (48 - (p1 - p1 / 10 * 10)))) (As := [.int (s_i2c (48 - (p1 - p1 / 10 * 10)))]) (nn := 1) (stk := [.int (s_i2c (48 - (p1 - p1 / 10 * 10))), .ref (ad 110)]) (ci := 10) dX10_sayDigits_23 gX10_sayDigits_X10_say ⟨rfl, by decide, by decide, by decide +kernel⟩ (by omega) la_110 rfl rfl rfl (by constructor <;> omega) rfl rfl (Nat.le_of_ble_eq_true rfl) (by decide) h (fun r1 m2 h => ?_)
      show V 0 26 [(0, .ref (ad 110)), (1, .int p1)] [] m2
      exact r_vret C dX10_sayDigits_26 rfl h
    refine r_icmp_gt C (tgt := 14) dX10_sayDigits_3 (by decide) h (fun _ h => ?_) (fun _ h => ?_)
    · skip
      exact hk14 m h
    · skip
      refine r_aload_n C dX10_sayDigits_6 rfl 0 rfl ?_
      refine r_iload_n C dX10_sayDigits_7 rfl 1 rfl ?_
      refine r_bipush C (v := 10) dX10_sayDigits_8 (by decide) ?_
      refine r_idiv C dX10_sayDigits_10 (by decide) ?_
      refine r_callV C (ih nw hnw (p1 / 10)) (As := [.int (p1 / 10)]) (nn := 1) (stk := [.int (p1 / 10), .ref (ad 110)]) (ci := 10) dX10_sayDigits_11 gX10_sayDigits_X10_sayDigits ⟨rfl, by decide, by decide, by decide +kernel⟩ (by omega) la_110 rfl rfl rfl (by constructor <;> omega) rfl rfl (Nat.le_of_ble_eq_true rfl) (by decide) h (fun r3 m4 h => ?_)
      show V 0 14 [(0, .ref (ad 110)), (1, .int p1)] [] m4
      exact hk14 m4 h
theorem c_X10_sayDigits (nw : Nat) (hnw : 29 ≤ nw) (p1 : Int32) : s_Con s_u 110 nw yX10_sayDigits wsX10_sayDigits 34 635 0 (f_X10_sayDigits p1) (fun ad => [.ref (ad 110), .int p1]) := c_X10_sd 11 nw hnw p1
noncomputable def f_X10_sayNumber (p1 : Int32) (m : sM) : Option (sR Unit) :=
  s_jn (fun (m10_ : sM) => s_jn (fun (s0_21 : Int32) => s_bd (f_X10_sayDigits s0_21 m10_) fun r1 m2 => some (.inl (), m2)) fun k21 => if 0 ≤ p1 then (k21 (-p1)) else (k21 p1)) fun k10 => if 0 ≤ p1 then (k10  m) else (s_bd (f_X10_say 45 m) fun r3 m4 => k10  m4)
set_option maxRecDepth 20000 in
set_option maxHeartbeats 4000000 in
theorem c_X10_sayNumber (nw : Nat) (hnw : 29 ≤ nw) (p1 : Int32) : s_Con s_u 110 nw yX10_sayNumber wsX10_sayNumber 36 680 0 (f_X10_sayNumber p1) (fun ad => [.ref (ad 110), .int p1]) := by
  refine s_con_of cX10_sayNumber 2 none RX10 (by decide) rfl rfl (fun _ => Nat.le_of_ble_eq_true rfl) (fun ad m res V C h => ?_)
  unfold f_X10_sayNumber at h
  show V 0 0 [(0, .ref (ad 110)), (1, .int p1)] [] m
  refine r_iload_n C dX10_sayNumber_0 rfl 1 rfl ?_
  refine s_join h (fun k10 => ∀ (m10_ : sM), k10 m10_ = some res → V 0 10 [(0, .ref (ad 110)), (1, .int p1)] [] m10_) ?_ (fun k10 hk10 h => ?_)
  · intro m10_ h
    refine r_aload_n C dX10_sayNumber_10 rfl 0 rfl ?_
    refine r_iload_n C dX10_sayNumber_11 rfl 1 rfl ?_
    refine s_join h (fun k21 => ∀ (s0_21 : Int32), k21 s0_21 = some res → V 0 21 [] [.int s0_21, .ref (ad 110)] m10_) ?_ (fun k21 hk21 h => ?_)
    · intro s0_21 h
      refine r_callV C (c_X10_sayDigits nw hnw s0_21) (As := [.int s0_21]) (nn := 1) (stk := [.int s0_21, .ref (ad 110)]) (ci := 10) dX10_sayNumber_21 gX10_sayNumber_X10_sayDigits ⟨rfl, by decide, by decide, by decide +kernel⟩ (by omega) la_110 rfl rfl rfl (by decide) rfl rfl (Nat.le_of_ble_eq_true rfl) (by decide) h (fun r1 m2 h => ?_)
      show V 0 24 [] [] m2
      exact r_vret C dX10_sayNumber_24 rfl h
    refine r_if_ge C (tgt := 19) dX10_sayNumber_12 (by decide) h (fun _ h => ?_) (fun _ h => ?_)
    · skip
      refine r_iload_n C dX10_sayNumber_19 rfl 1 rfl ?_
      refine r_ineg C dX10_sayNumber_20 ?_
      refine r_sub C [] (show _ = [] from rfl) ?_
      exact hk21 (-p1) h
    · skip
      refine r_iload_n C dX10_sayNumber_15 rfl 1 rfl ?_
      refine r_goto C (tgt := 21) dX10_sayNumber_16 (by decide) ?_
      refine r_sub C [] (show _ = [] from rfl) ?_
      exact hk21 p1 h
  refine r_if_ge C (tgt := 10) dX10_sayNumber_1 (by decide) h (fun _ h => ?_) (fun _ h => ?_)
  · skip
    exact hk10 m h
  · skip
    refine r_aload_n C dX10_sayNumber_4 rfl 0 rfl ?_
    refine r_bipush C (v := 45) dX10_sayNumber_5 (by decide) ?_
    refine r_callV C (c_X10_say nw hnw 45) (As := [.int 45]) (nn := 1) (stk := [.int 45, .ref (ad 110)]) (ci := 10) dX10_sayNumber_7 gX10_sayNumber_X10_say ⟨rfl, by decide, by decide, by decide +kernel⟩ (by omega) la_110 rfl rfl rfl (by decide) rfl rfl (Nat.le_of_ble_eq_true rfl) (by decide) h (fun r3 m4 h => ?_)
    show V 0 10 [(0, .ref (ad 110)), (1, .int p1)] [] m4
    exact hk10 m4 h
