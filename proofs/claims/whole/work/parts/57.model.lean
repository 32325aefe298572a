noncomputable def f_X10_wrongBlock_L18 (e47_18 : sM → Option (sR Int32)) (e39_18 : Int32 → sM → Option (sR Int32)) : Nat → Int32 → sM → Option (sR Int32)
  | 0, _, _ => none
  | n + 1, x1_18, m18_ =>
    if (m18_.1 110 0) = 0 then (if 32 ≤ x1_18 then (e47_18  m18_) else (s_bd (f_X10_isWrong x1_18 m18_) fun r2 m3 => if r2 = 0 then (f_X10_wrongBlock_L18 e47_18 e39_18 n (x1_18 + 1) m3) else (e39_18 x1_18 m3))) else (e47_18  m18_)
noncomputable def f_X10_wrongBlock (m : sM) : Option (sR Int32) :=
  s_jn (fun (s0_13 : Int32) => s_md (s_up m 110 0 s0_13) fun m1 => s_jn (fun (m47_ : sM) => s_jn (fun (s0_59 : Int32) => some (.inl s0_59, m47_)) fun k59 => if (m47_.1 110 0) ≤ 0 then (k59 (-1)) else (k59 0)) fun e47_18 => s_jn (fun (x1_39 : Int32) (m39_ : sM) => some (.inl x1_39, m39_)) fun e39_18 => f_X10_wrongBlock_L18 e47_18 e39_18 5000 0 m1) fun k13 => if (m.1 110 2) = 0 then (k13 1) else (k13 0)
set_option maxRecDepth 20000 in
set_option maxHeartbeats 4000000 in
theorem c_X10_wrongBlock (nw : Nat) (hnw : 29 ≤ nw) : s_Con s_i 110 nw yX10_wrongBlock wsX10_wrongBlock 20 320 0 (f_X10_wrongBlock) (fun ad => [.ref (ad 110)]) := by
  refine s_con_of cX10_wrongBlock 2 (some .int) RX10 (by decide) rfl rfl (fun _ => Nat.le_of_ble_eq_true rfl) (fun ad m res V C h => ?_)
  unfold f_X10_wrongBlock at h
  have F_i10 : ∀ w ∈ wsX100, w ∈ wsX10_wrongBlock := by decide +kernel
  have F_k116 : Cond.fieldLink RX10 116 "ShadowFileModel" "isOpen" "Z" ∈ wsX10_wrongBlock := by decide +kernel
  have F_k100 : Cond.fieldLink RX10 100 "ShadowFileModel" "thrown" "I" ∈ wsX10_wrongBlock := by decide +kernel
  show V 0 0 [(0, .ref (ad 110))] [] m
  refine r_aload_n C dX10_wrongBlock_0 rfl 0 rfl ?_
  refine r_aload_n C dX10_wrongBlock_1 rfl 0 rfl ?_
  refine r_geti C (ci := 10) (k9 := 2) dX10_wrongBlock_2 rfl F_i10 (by decide) F_k116 (by omega) la_110 rfl ?_
  refine s_join h (fun k13 => ∀ (s0_13 : Int32), k13 s0_13 = some res → V 0 13 [(0, .ref (ad 110))] [.int s0_13, .ref (ad 110)] m) ?_ (fun k13 hk13 h => ?_)
  · intro s0_13 h
    refine r_puti C (ci := 10) (k9 := 0) dX10_wrongBlock_13 rfl F_i10 (by decide) F_k100 (by omega) la_110 rfl tyX10 tyX10_ok nmX10 rfl (tyX10_ok 0 (by decide)) rfl rfl h (fun m1 _ h => ?_)
    refine r_iconst C (v := 0) dX10_wrongBlock_16 (by decide) ?_
    refine r_istore_n C dX10_wrongBlock_17 rfl (by decide) (show _ = [(1, .int 0), (0, .ref (ad 110))] from rfl) ?_
    refine s_join h (fun e47_18 => ∀ (m47_ : sM), e47_18 m47_ = some res → V 0 47 [(0, .ref (ad 110))] [] m47_) ?_ (fun e47_18 he47_18 h => ?_)
    · intro m47_ h
      refine r_aload_n C dX10_wrongBlock_47 rfl 0 rfl ?_
      refine r_geti C (ci := 10) (k9 := 0) dX10_wrongBlock_48 rfl F_i10 (by decide) F_k100 (by omega) la_110 rfl ?_
      refine s_join h (fun k59 => ∀ (s0_59 : Int32), k59 s0_59 = some res → V 0 59 [] [.int s0_59] m47_) ?_ (fun k59 hk59 h => ?_)
      · intro s0_59 h
        exact r_iret C dX10_wrongBlock_59 rfl h
      refine r_if_le C (tgt := 58) dX10_wrongBlock_51 (by decide) h (fun _ h => ?_) (fun _ h => ?_)
      · skip
        refine r_iconst C (v := -1) dX10_wrongBlock_58 (by decide) ?_
        refine r_sub C [] (show _ = [] from rfl) ?_
        exact hk59 (-1) h
      · skip
        refine r_iconst C (v := 0) dX10_wrongBlock_54 (by decide) ?_
        refine r_goto C (tgt := 59) dX10_wrongBlock_55 (by decide) ?_
        refine r_sub C [] (show _ = [] from rfl) ?_
        exact hk59 0 h
    refine s_join h (fun e39_18 => ∀ (x1_39 : Int32) (m39_ : sM), e39_18 x1_39 m39_ = some res → V 0 39 [(1, .int x1_39)] [] m39_) ?_ (fun e39_18 he39_18 h => ?_)
    · intro x1_39 m39_ h
      refine r_iload_n C dX10_wrongBlock_39 rfl 0 rfl ?_
      exact r_iret C dX10_wrongBlock_40 rfl h
    have L18 : ∀ (n : Nat) (x1_18 : Int32) (m18_ : sM), f_X10_wrongBlock_L18 e47_18 e39_18 n x1_18 m18_ = some res → V 0 18 [(0, .ref (ad 110)), (1, .int x1_18)] [] m18_ := by
      intro n
      induction n with
      | zero => intro x1_18 m18_ h; rw [f_X10_wrongBlock_L18] at h; cases h
      | succ n ih =>
        intro x1_18 m18_ h
        rw [f_X10_wrongBlock_L18] at h
        refine r_aload_n C dX10_wrongBlock_18 rfl 0 rfl ?_
        refine r_geti C (ci := 10) (k9 := 0) dX10_wrongBlock_19 rfl F_i10 (by decide) F_k100 (by omega) la_110 rfl ?_
        refine r_if_ne C (tgt := 47) dX10_wrongBlock_22 (by decide) h (fun _ h => ?_) (fun _ h => ?_)
        · skip
          refine r_iload_n C dX10_wrongBlock_25 rfl 1 rfl ?_
          refine r_bipush C (v := 32) dX10_wrongBlock_26 (by decide) ?_
          refine r_icmp_ge C (tgt := 47) dX10_wrongBlock_28 (by decide) h (fun _ h => ?_) (fun _ h => ?_)
          · skip
            refine r_sub C [0] (show _ = [(0, .ref (ad 110))] from rfl) ?_
            exact he47_18 m18_ h
          · skip
            refine r_aload_n C dX10_wrongBlock_31 rfl 0 rfl ?_
            refine r_iload_n C dX10_wrongBlock_32 rfl 1 rfl ?_
            refine r_callV C (c_X10_isWrong nw hnw x1_18) (As := [.int x1_18]) (nn := 1) (stk := [.int x1_18, .ref (ad 110)]) (ci := 10) dX10_wrongBlock_33 gX10_wrongBlock_X10_isWrong ⟨rfl, by decide, by decide, by decide +kernel⟩ (by omega) la_110 rfl rfl rfl (by decide) rfl rfl (Nat.le_of_ble_eq_true rfl) (by decide) h (fun r2 m3 h => ?_)
            show V 0 36 [(0, .ref (ad 110)), (1, .int x1_18)] [.int r2] m3
            refine r_if_eq C (tgt := 41) dX10_wrongBlock_36 (by decide) h (fun _ h => ?_) (fun _ h => ?_)
            · skip
              refine r_iinc C (v := x1_18 + 1) dX10_wrongBlock_41 1 rfl rfl (by decide) (show _ = [(1, .int (x1_18 + 1)), (0, .ref (ad 110))] from rfl) ?_
              refine r_goto C (tgt := 18) dX10_wrongBlock_44 (by decide) ?_
              refine r_sub C [1, 0] (show _ = [(0, .ref (ad 110)), (1, .int (x1_18 + 1))] from rfl) ?_
              exact ih (x1_18 + 1) m3 h
            · skip
              refine r_sub C [1] (show _ = [(1, .int x1_18)] from rfl) ?_
              exact he39_18 x1_18 m3 h
        · skip
          refine r_sub C [0] (show _ = [(0, .ref (ad 110))] from rfl) ?_
          exact he47_18 m18_ h
    refine r_sub C [1, 0] (show _ = [(0, .ref (ad 110)), (1, .int 0)] from rfl) ?_
    exact L18 5000 0 m1 h
  refine r_if_eq C (tgt := 12) dX10_wrongBlock_5 (by decide) h (fun _ h => ?_) (fun _ h => ?_)
  · skip
    refine r_iconst C (v := 1) dX10_wrongBlock_12 (by decide) ?_
    exact hk13 1 h
  · skip
    refine r_iconst C (v := 0) dX10_wrongBlock_8 (by decide) ?_
    refine r_goto C (tgt := 13) dX10_wrongBlock_9 (by decide) ?_
    exact hk13 0 h
noncomputable def f_X10_logSize (m : sM) : Option (sR Int32) :=
  s_md (s_up m 110 0 0) fun m1 => some (.inl (m1.1 110 25), m1)
set_option maxRecDepth 20000 in
set_option maxHeartbeats 4000000 in
theorem c_X10_logSize (nw : Nat) (hnw : 29 ≤ nw) : s_Con s_i 110 nw yX10_logSize wsX10_logSize 12 140 0 (f_X10_logSize) (fun ad => [.ref (ad 110)]) := by
  refine s_con_of cX10_logSize 1 (some .int) RX10 (by decide) rfl rfl (fun _ => Nat.le_of_ble_eq_true rfl) (fun ad m res V C h => ?_)
  unfold f_X10_logSize at h
  have F_i10 : ∀ w ∈ wsX100, w ∈ wsX10_logSize := by decide +kernel
  have F_k100 : Cond.fieldLink RX10 100 "ShadowFileModel" "thrown" "I" ∈ wsX10_logSize := by decide +kernel
  have F_k230 : Cond.fieldLink RX10 230 "ShadowFileModel" "logged" "I" ∈ wsX10_logSize := by decide +kernel
  show V 0 0 [(0, .ref (ad 110))] [] m
  refine r_aload_n C dX10_logSize_0 rfl 0 rfl ?_
  refine r_iconst C (v := 0) dX10_logSize_1 (by decide) ?_
  refine r_puti C (ci := 10) (k9 := 0) dX10_logSize_2 rfl F_i10 (by decide) F_k100 (by omega) la_110 rfl tyX10 tyX10_ok nmX10 rfl (tyX10_ok 0 (by decide)) rfl rfl h (fun m1 _ h => ?_)
  refine r_aload_n C dX10_logSize_5 rfl 0 rfl ?_
  refine r_geti C (ci := 10) (k9 := 25) dX10_logSize_6 rfl F_i10 (by decide) F_k230 (by omega) la_110 rfl ?_
  exact r_iret C dX10_logSize_9 rfl h
noncomputable def f_X10_logged (p1 : Int32) (p2 : Int32) (m : sM) : Option (sR Int32) :=
  s_bd (f_X10_in p1 0 ((m.1 110 25) - 1) m) fun r1 m2 => s_jn (fun (s0_33 : Int32) (m33_ : sM) => s_md (s_up m33_ 110 0 s0_33) fun m3 => s_jn (fun (s0_57 : Int32) => some (.inl s0_57, m3)) fun k57 => if (m3.1 110 0) ≤ 0 then (s_ix ((4 * p1) + p2) 32 fun j4 => k57 (m3.1 129 j4)) else (k57 0)) fun k33 => if r1 = 0 then (k33 1 m2) else (s_bd (f_X10_in p2 0 3 m2) fun r5 m6 => if r5 = 0 then (k33 2 m6) else (k33 0 m6))
set_option maxRecDepth 20000 in
set_option maxHeartbeats 4000000 in
theorem c_X10_logged (nw : Nat) (hnw : 29 ≤ nw) (p1 : Int32) (p2 : Int32) : s_Con s_i 110 nw yX10_logged wsX10_logged 14 185 0 (f_X10_logged p1 p2) (fun ad => [.ref (ad 110), .int p1, .int p2]) := by
  refine s_con_of cX10_logged 3 (some .int) RX10 (by decide) rfl rfl (fun _ => Nat.le_of_ble_eq_true rfl) (fun ad m res V C h => ?_)
  unfold f_X10_logged at h
  have F_i10 : ∀ w ∈ wsX100, w ∈ wsX10_logged := by decide +kernel
  have F_k230 : Cond.fieldLink RX10 230 "ShadowFileModel" "logged" "I" ∈ wsX10_logged := by decide +kernel
  have F_k100 : Cond.fieldLink RX10 100 "ShadowFileModel" "thrown" "I" ∈ wsX10_logged := by decide +kernel
  have F_k66 : Cond.fieldLink RX10 66 "ShadowFileModel" "log" "[I" ∈ wsX10_logged := by decide +kernel
  show V 0 0 [(0, .ref (ad 110)), (1, .int p1), (2, .int p2)] [] m
  refine r_aload_n C dX10_logged_0 rfl 0 rfl ?_
  refine r_iload_n C dX10_logged_1 rfl 1 rfl ?_
  refine r_iconst C (v := 0) dX10_logged_2 (by decide) ?_
  refine r_aload_n C dX10_logged_3 rfl 0 rfl ?_
  refine r_geti C (ci := 10) (k9 := 25) dX10_logged_4 rfl F_i10 (by decide) F_k230 (by omega) la_110 rfl ?_
  refine r_iconst C (v := 1) dX10_logged_7 (by decide) ?_
  refine r_isub C dX10_logged_8 ?_
  refine r_callS C (c_X10_in nw hnw p1 0 ((m.1 110 25) - 1)) (As := [.int p1, .int 0, .int ((m.1 110 25) - 1)]) (nn := 3) (stk := [.int ((m.1 110 25) - 1), .int 0, .int p1, .ref (ad 110)]) dX10_logged_9 gX10_logged_X10_in ⟨by decide, by decide, by decide +kernel⟩ rfl rfl (by decide) rfl rfl (Nat.le_of_ble_eq_true rfl) (by decide) h (fun r1 m2 h => ?_)
  show V 0 12 [(0, .ref (ad 110)), (1, .int p1), (2, .int p2)] [.int r1, .ref (ad 110)] m2
  refine s_join h (fun k33 => ∀ (s0_33 : Int32) (m33_ : sM), k33 s0_33 m33_ = some res → V 0 33 [(0, .ref (ad 110)), (1, .int p1), (2, .int p2)] [.int s0_33, .ref (ad 110)] m33_) ?_ (fun k33 hk33 h => ?_)
  · intro s0_33 m33_ h
    refine r_puti C (ci := 10) (k9 := 0) dX10_logged_33 rfl F_i10 (by decide) F_k100 (by omega) la_110 rfl tyX10 tyX10_ok nmX10 rfl (tyX10_ok 0 (by decide)) rfl rfl h (fun m3 _ h => ?_)
    refine r_aload_n C dX10_logged_36 rfl 0 rfl ?_
    refine r_geti C (ci := 10) (k9 := 0) dX10_logged_37 rfl F_i10 (by decide) F_k100 (by omega) la_110 rfl ?_
    refine s_join h (fun k57 => ∀ (s0_57 : Int32), k57 s0_57 = some res → V 0 57 [] [.int s0_57] m3) ?_ (fun k57 hk57 h => ?_)
    · intro s0_57 h
      exact r_iret C dX10_logged_57 rfl h
    refine r_if_le C (tgt := 47) dX10_logged_40 (by decide) h (fun _ h => ?_) (fun _ h => ?_)
    · skip
      refine r_aload_n C dX10_logged_47 rfl 0 rfl ?_
      refine r_getr C (ci := 10) (k9 := 24) dX10_logged_48 rfl F_i10 (by decide) F_k66 (by omega) la_110 rfl ?_
      refine r_iconst C (v := 4) dX10_logged_51 (by decide) ?_
      refine r_iload_n C dX10_logged_52 rfl 1 rfl ?_
      refine r_imul C dX10_logged_53 ?_
      refine r_iload_n C dX10_logged_54 rfl 2 rfl ?_
      refine r_iadd C dX10_logged_55 ?_
      refine r_iald C dX10_logged_56 (by omega) la_129 h (fun j4 hj4 h => ?_)
      refine r_sub C [] (show _ = [] from rfl) ?_
      exact hk57 (m3.1 129 j4) h
    · skip
      refine r_iconst C (v := 0) dX10_logged_43 (by decide) ?_
      refine r_goto C (tgt := 57) dX10_logged_44 (by decide) ?_
      refine r_sub C [] (show _ = [] from rfl) ?_
      exact hk57 0 h
  refine r_if_ne C (tgt := 19) dX10_logged_12 (by decide) h (fun _ h => ?_) (fun _ h => ?_)
  · skip
    refine r_iconst C (v := 1) dX10_logged_15 (by decide) ?_
    refine r_goto C (tgt := 33) dX10_logged_16 (by decide) ?_
    exact hk33 1 m2 h
  · skip
    refine r_iload_n C dX10_logged_19 rfl 2 rfl ?_
    refine r_iconst C (v := 0) dX10_logged_20 (by decide) ?_
    refine r_iconst C (v := 3) dX10_logged_21 (by decide) ?_
    refine r_callS C (c_X10_in nw hnw p2 0 3) (As := [.int p2, .int 0, .int 3]) (nn := 3) (stk := [.int 3, .int 0, .int p2, .ref (ad 110)]) dX10_logged_22 gX10_logged_X10_in ⟨by decide, by decide, by decide +kernel⟩ rfl rfl (by decide) rfl rfl (Nat.le_of_ble_eq_true rfl) (by decide) h (fun r5 m6 h => ?_)
    show V 0 25 [(0, .ref (ad 110)), (1, .int p1), (2, .int p2)] [.int r5, .ref (ad 110)] m6
    refine r_if_ne C (tgt := 32) dX10_logged_25 (by decide) h (fun _ h => ?_) (fun _ h => ?_)
    · skip
      refine r_iconst C (v := 2) dX10_logged_28 (by decide) ?_
      refine r_goto C (tgt := 33) dX10_logged_29 (by decide) ?_
      exact hk33 2 m6 h
    · skip
      refine r_iconst C (v := 0) dX10_logged_32 (by decide) ?_
      exact hk33 0 m6 h
noncomputable def f_X10_statistic (p1 : Int32) (m : sM) : Option (sR Int32) :=
  s_bd (f_X10_in p1 0 7 m) fun r1 m2 => s_jn (fun (s0_16 : Int32) => s_md (s_up m2 110 0 s0_16) fun m3 => s_jn (fun (s0_36 : Int32) => some (.inl s0_36, m3)) fun k36 => if (m3.1 110 0) ≤ 0 then (s_ix p1 8 fun j4 => k36 (m3.1 130 j4)) else (k36 0)) fun k16 => if r1 = 0 then (k16 1) else (k16 0)
set_option maxRecDepth 20000 in
set_option maxHeartbeats 4000000 in
theorem c_X10_statistic (nw : Nat) (hnw : 29 ≤ nw) (p1 : Int32) : s_Con s_i 110 nw yX10_statistic wsX10_statistic 14 185 0 (f_X10_statistic p1) (fun ad => [.ref (ad 110), .int p1]) := by
  refine s_con_of cX10_statistic 2 (some .int) RX10 (by decide) rfl rfl (fun _ => Nat.le_of_ble_eq_true rfl) (fun ad m res V C h => ?_)
  unfold f_X10_statistic at h
  have F_i10 : ∀ w ∈ wsX100, w ∈ wsX10_statistic := by decide +kernel
  have F_k100 : Cond.fieldLink RX10 100 "ShadowFileModel" "thrown" "I" ∈ wsX10_statistic := by decide +kernel
  have F_k69 : Cond.fieldLink RX10 69 "ShadowFileModel" "statistics" "[I" ∈ wsX10_statistic := by decide +kernel
  show V 0 0 [(0, .ref (ad 110)), (1, .int p1)] [] m
  refine r_aload_n C dX10_statistic_0 rfl 0 rfl ?_
  refine r_iload_n C dX10_statistic_1 rfl 1 rfl ?_
  refine r_iconst C (v := 0) dX10_statistic_2 (by decide) ?_
  refine r_bipush C (v := 7) dX10_statistic_3 (by decide) ?_
  refine r_callS C (c_X10_in nw hnw p1 0 7) (As := [.int p1, .int 0, .int 7]) (nn := 3) (stk := [.int 7, .int 0, .int p1, .ref (ad 110)]) dX10_statistic_5 gX10_statistic_X10_in ⟨by decide, by decide, by decide +kernel⟩ rfl rfl (by decide) rfl rfl (Nat.le_of_ble_eq_true rfl) (by decide) h (fun r1 m2 h => ?_)
  show V 0 8 [(0, .ref (ad 110)), (1, .int p1)] [.int r1, .ref (ad 110)] m2
  refine s_join h (fun k16 => ∀ (s0_16 : Int32), k16 s0_16 = some res → V 0 16 [(0, .ref (ad 110)), (1, .int p1)] [.int s0_16, .ref (ad 110)] m2) ?_ (fun k16 hk16 h => ?_)
  · intro s0_16 h
    refine r_puti C (ci := 10) (k9 := 0) dX10_statistic_16 rfl F_i10 (by decide) F_k100 (by omega) la_110 rfl tyX10 tyX10_ok nmX10 rfl (tyX10_ok 0 (by decide)) rfl rfl h (fun m3 _ h => ?_)
    refine r_aload_n C dX10_statistic_19 rfl 0 rfl ?_
    refine r_geti C (ci := 10) (k9 := 0) dX10_statistic_20 rfl F_i10 (by decide) F_k100 (by omega) la_110 rfl ?_
    refine s_join h (fun k36 => ∀ (s0_36 : Int32), k36 s0_36 = some res → V 0 36 [] [.int s0_36] m3) ?_ (fun k36 hk36 h => ?_)
    · intro s0_36 h
      exact r_iret C dX10_statistic_36 rfl h
    refine r_if_le C (tgt := 30) dX10_statistic_23 (by decide) h (fun _ h => ?_) (fun _ h => ?_)
    · skip
      refine r_aload_n C dX10_statistic_30 rfl 0 rfl ?_
      refine r_getr C (ci := 10) (k9 := 26) dX10_statistic_31 rfl F_i10 (by decide) F_k69 (by omega) la_110 rfl ?_
      refine r_iload_n C dX10_statistic_34 rfl 1 rfl ?_
      refine r_iald C dX10_statistic_35 (by omega) la_130 h (fun j4 hj4 h => ?_)
      refine r_sub C [] (show _ = [] from rfl) ?_
      exact hk36 (m3.1 130 j4) h
    · skip
      refine r_iconst C (v := 0) dX10_statistic_26 (by decide) ?_
      refine r_goto C (tgt := 36) dX10_statistic_27 (by decide) ?_
      refine r_sub C [] (show _ = [] from rfl) ?_
      exact hk36 0 h
  refine r_if_eq C (tgt := 15) dX10_statistic_8 (by decide) h (fun _ h => ?_) (fun _ h => ?_)
  · skip
    refine r_iconst C (v := 1) dX10_statistic_15 (by decide) ?_
    exact hk16 1 h
  · skip
    refine r_iconst C (v := 0) dX10_statistic_11 (by decide) ?_
    refine r_goto C (tgt := 16) dX10_statistic_12 (by decide) ?_
    exact hk16 0 h
noncomputable def f_X10_pin_L7 (m1 : sM) (e131_7 : Option (sR Int32)) (e28_7 : Int32 → Option (sR Int32)) : Nat → Int32 → Option (sR Int32)
  | 0, _ => none
  | n + 1, x1_7 =>
    if (m1.1 110 2) = 0 then (e131_7) else (if 2 ≤ x1_7 then (e131_7) else (s_ix x1_7 2 fun j15 => if (m1.1 117 j15) = 0 then (e28_7 x1_7) else (f_X10_pin_L7 m1 e131_7 e28_7 n (x1_7 + 1))))
noncomputable def f_X10_pin (m : sM) : Option (sR Int32) :=
  s_md (s_up m 110 0 0) fun m1 => s_jn (s_bd (f_X10_fails 1 m1) fun r2 m3 => some (.inl r2, m3)) fun e131_7 => s_jn (fun (x1_28 : Int32) => s_ix x1_28 2 fun j4 => s_md (s_up m1 117 j4 (vp_nar .boolean 1)) fun m5 => s_ix 0 3 fun j6 => s_ix (1 + x1_28) 3 fun j7 => s_md (s_up m5 112 j7 (m5.1 112 j6)) fun m8 => s_ix 0 3 fun j9 => s_ix (1 + x1_28) 3 fun j10 => s_md (s_up m8 113 j10 (m8.1 113 j9)) fun m11 => s_gd (¬ (0 : Int32) < 0 ∧ ¬ (8 * (1 + x1_28)) < 0 ∧ ¬ (8 : Int32) < 0 ∧ (0 : Int32).toNatClampNeg + (8 : Int32).toNatClampNeg ≤ 24 ∧ (8 * (1 + x1_28)).toNatClampNeg + (8 : Int32).toNatClampNeg ≤ 24 ∧ ∀ i, i < (8 : Int32).toNatClampNeg → fits .int (.int (m11.1 114 ((0 : Int32).toNatClampNeg + i))) = true) (s_md (s_cp m11 114 114 (0 : Int32).toNatClampNeg (8 * (1 + x1_28)).toNatClampNeg (8 : Int32).toNatClampNeg) fun m12 => s_gd (¬ (0 : Int32) < 0 ∧ ¬ (64 * (1 + x1_28)) < 0 ∧ ¬ (64 : Int32) < 0 ∧ (0 : Int32).toNatClampNeg + (64 : Int32).toNatClampNeg ≤ 192 ∧ (64 * (1 + x1_28)).toNatClampNeg + (64 : Int32).toNatClampNeg ≤ 192 ∧ ∀ i, i < (64 : Int32).toNatClampNeg → fits .boolean (.int (m12.1 115 ((0 : Int32).toNatClampNeg + i))) = true) (s_md (s_cp m12 115 115 (0 : Int32).toNatClampNeg (64 * (1 + x1_28)).toNatClampNeg (64 : Int32).toNatClampNeg) fun m13 => s_gd (¬ (0 : Int32) < 0 ∧ ¬ (64 * (1 + x1_28)) < 0 ∧ ¬ (64 : Int32) < 0 ∧ (0 : Int32).toNatClampNeg + (64 : Int32).toNatClampNeg ≤ 192 ∧ (64 * (1 + x1_28)).toNatClampNeg + (64 : Int32).toNatClampNeg ≤ 192 ∧ ∀ i, i < (64 : Int32).toNatClampNeg → fits .int (.int (m13.1 116 ((0 : Int32).toNatClampNeg + i))) = true) (s_md (s_cp m13 116 116 (0 : Int32).toNatClampNeg (64 * (1 + x1_28)).toNatClampNeg (64 : Int32).toNatClampNeg) fun m14 => some (.inl x1_28, m14))))) fun e28_7 => f_X10_pin_L7 m1 e131_7 e28_7 5000 0
set_option maxRecDepth 20000 in
set_option maxHeartbeats 4000000 in
theorem c_X10_pin (nw : Nat) (hnw : 29 ≤ nw) : s_Con s_i 110 nw yX10_pin wsX10_pin 14 185 0 (f_X10_pin) (fun ad => [.ref (ad 110)]) := by
  refine s_con_of cX10_pin 2 (some .int) RX10 (by decide) rfl rfl (fun _ => Nat.le_of_ble_eq_true rfl) (fun ad m res V C h => ?_)
  unfold f_X10_pin at h
  have F_i10 : ∀ w ∈ wsX100, w ∈ wsX10_pin := by decide +kernel
  have F_k100 : Cond.fieldLink RX10 100 "ShadowFileModel" "thrown" "I" ∈ wsX10_pin := by decide +kernel
  have F_k29 : Cond.fieldLink RX10 29 "ShadowFileModel" "isPinned" "[Z" ∈ wsX10_pin := by decide +kernel
  have F_k13 : Cond.fieldLink RX10 13 "ShadowFileModel" "number" "[I" ∈ wsX10_pin := by decide +kernel
  have F_k16 : Cond.fieldLink RX10 16 "ShadowFileModel" "tableOf" "[I" ∈ wsX10_pin := by decide +kernel
  have F_k19 : Cond.fieldLink RX10 19 "ShadowFileModel" "pageOf" "[I" ∈ wsX10_pin := by decide +kernel
  have F_c164 : Cond.methodLink RX10 164 arraycopyName ∈ wsX10_pin := by decide +kernel
  have F_cnat : Cond.native arraycopyName ∈ wsX10_pin := by decide +kernel
  have F_csta : Cond.static arraycopyName ∈ wsX10_pin := by decide +kernel
  have F_cini : Cond.initialized "java/lang/System" ∈ wsX10_pin := by decide +kernel
  have F_k22 : Cond.fieldLink RX10 22 "ShadowFileModel" "has" "[Z" ∈ wsX10_pin := by decide +kernel
  have F_k26 : Cond.fieldLink RX10 26 "ShadowFileModel" "values" "[I" ∈ wsX10_pin := by decide +kernel
  have F_k116 : Cond.fieldLink RX10 116 "ShadowFileModel" "isOpen" "Z" ∈ wsX10_pin := by decide +kernel
  show V 0 0 [(0, .ref (ad 110))] [] m
  refine r_aload_n C dX10_pin_0 rfl 0 rfl ?_
  refine r_iconst C (v := 0) dX10_pin_1 (by decide) ?_
  refine r_puti C (ci := 10) (k9 := 0) dX10_pin_2 rfl F_i10 (by decide) F_k100 (by omega) la_110 rfl tyX10 tyX10_ok nmX10 rfl (tyX10_ok 0 (by decide)) rfl rfl h (fun m1 _ h => ?_)
  refine r_iconst C (v := 0) dX10_pin_5 (by decide) ?_
  refine r_istore_n C dX10_pin_6 rfl (by decide) (show _ = [(1, .int 0), (0, .ref (ad 110))] from rfl) ?_
  refine s_join h (fun e131_7 => e131_7  = some res → V 0 131 [(0, .ref (ad 110))] [] m1) ?_ (fun e131_7 he131_7 h => ?_)
  · intro  h
    refine r_aload_n C dX10_pin_131 rfl 0 rfl ?_
    refine r_iconst C (v := 1) dX10_pin_132 (by decide) ?_
    refine r_callV C (c_X10_fails nw hnw 1) (As := [.int 1]) (nn := 1) (stk := [.int 1, .ref (ad 110)]) (ci := 10) dX10_pin_133 gX10_pin_X10_fails ⟨rfl, by decide, by decide, by decide +kernel⟩ (by omega) la_110 rfl rfl rfl (by decide) rfl rfl (Nat.le_of_ble_eq_true rfl) (by decide) h (fun r2 m3 h => ?_)
    show V 0 136 [(0, .ref (ad 110))] [.int r2] m3
    exact r_iret C dX10_pin_136 rfl h
  refine s_join h (fun e28_7 => ∀ (x1_28 : Int32), e28_7 x1_28 = some res → V 0 28 [(0, .ref (ad 110)), (1, .int x1_28)] [] m1) ?_ (fun e28_7 he28_7 h => ?_)
  · intro x1_28 h
    refine r_aload_n C dX10_pin_28 rfl 0 rfl ?_
    refine r_getr C (ci := 10) (k9 := 9) dX10_pin_29 rfl F_i10 (by decide) F_k29 (by omega) la_110 rfl ?_
    refine r_iload_n C dX10_pin_32 rfl 1 rfl ?_
    refine r_iconst C (v := 1) dX10_pin_33 (by decide) ?_
    refine r_zast C dX10_pin_34 (by omega) la_117 h (fun j4 m5 hj4 _ h => ?_)
    refine r_aload_n C dX10_pin_35 rfl 0 rfl ?_
    refine r_getr C (ci := 10) (k9 := 4) dX10_pin_36 rfl F_i10 (by decide) F_k13 (by omega) la_110 rfl ?_
    refine r_iconst C (v := 1) dX10_pin_39 (by decide) ?_
    refine r_iload_n C dX10_pin_40 rfl 1 rfl ?_
    refine r_iadd C dX10_pin_41 ?_
    refine r_aload_n C dX10_pin_42 rfl 0 rfl ?_
    refine r_getr C (ci := 10) (k9 := 4) dX10_pin_43 rfl F_i10 (by decide) F_k13 (by omega) la_110 rfl ?_
    refine r_iconst C (v := 0) dX10_pin_46 (by decide) ?_
    refine r_iald C dX10_pin_47 (by omega) la_112 h (fun j6 hj6 h => ?_)
    refine r_iast C dX10_pin_48 (by omega) la_112 h (fun j7 m8 hj7 _ h => ?_)
    refine r_aload_n C dX10_pin_49 rfl 0 rfl ?_
    refine r_getr C (ci := 10) (k9 := 5) dX10_pin_50 rfl F_i10 (by decide) F_k16 (by omega) la_110 rfl ?_
    refine r_iconst C (v := 1) dX10_pin_53 (by decide) ?_
    refine r_iload_n C dX10_pin_54 rfl 1 rfl ?_
    refine r_iadd C dX10_pin_55 ?_
    refine r_aload_n C dX10_pin_56 rfl 0 rfl ?_
    refine r_getr C (ci := 10) (k9 := 5) dX10_pin_57 rfl F_i10 (by decide) F_k16 (by omega) la_110 rfl ?_
    refine r_iconst C (v := 0) dX10_pin_60 (by decide) ?_
    refine r_iald C dX10_pin_61 (by omega) la_113 h (fun j9 hj9 h => ?_)
    refine r_iast C dX10_pin_62 (by omega) la_113 h (fun j10 m11 hj10 _ h => ?_)
    refine r_aload_n C dX10_pin_63 rfl 0 rfl ?_
    refine r_getr C (ci := 10) (k9 := 6) dX10_pin_64 rfl F_i10 (by decide) F_k19 (by omega) la_110 rfl ?_
    refine r_iconst C (v := 0) dX10_pin_67 (by decide) ?_
    refine r_aload_n C dX10_pin_68 rfl 0 rfl ?_
    refine r_getr C (ci := 10) (k9 := 6) dX10_pin_69 rfl F_i10 (by decide) F_k19 (by omega) la_110 rfl ?_
    refine r_bipush C (v := 8) dX10_pin_72 (by decide) ?_
    refine r_iconst C (v := 1) dX10_pin_74 (by decide) ?_
    refine r_iload_n C dX10_pin_75 rfl 1 rfl ?_
    refine r_iadd C dX10_pin_76 ?_
    refine r_imul C dX10_pin_77 ?_
    refine r_bipush C (v := 8) dX10_pin_78 (by decide) ?_
    refine r_copy C dX10_pin_80 F_c164 F_cnat F_csta F_cini (by omega) (by omega) la_114 la_114 (by decide) (fun _ => rfl) rfl (by decide) (Nat.le_of_ble_eq_true rfl) h (fun m12 _ h => ?_)
    refine r_aload_n C dX10_pin_83 rfl 0 rfl ?_
    refine r_getr C (ci := 10) (k9 := 7) dX10_pin_84 rfl F_i10 (by decide) F_k22 (by omega) la_110 rfl ?_
    refine r_iconst C (v := 0) dX10_pin_87 (by decide) ?_
    refine r_aload_n C dX10_pin_88 rfl 0 rfl ?_
    refine r_getr C (ci := 10) (k9 := 7) dX10_pin_89 rfl F_i10 (by decide) F_k22 (by omega) la_110 rfl ?_
    refine r_bipush C (v := 64) dX10_pin_92 (by decide) ?_
    refine r_iconst C (v := 1) dX10_pin_94 (by decide) ?_
    refine r_iload_n C dX10_pin_95 rfl 1 rfl ?_
    refine r_iadd C dX10_pin_96 ?_
    refine r_imul C dX10_pin_97 ?_
    refine r_bipush C (v := 64) dX10_pin_98 (by decide) ?_
    refine r_copy C dX10_pin_100 F_c164 F_cnat F_csta F_cini (by omega) (by omega) la_115 la_115 (by decide) (fun _ => rfl) rfl (by decide) (Nat.le_of_ble_eq_true rfl) h (fun m13 _ h => ?_)
    refine r_aload_n C dX10_pin_103 rfl 0 rfl ?_
    refine r_getr C (ci := 10) (k9 := 8) dX10_pin_104 rfl F_i10 (by decide) F_k26 (by omega) la_110 rfl ?_
    refine r_iconst C (v := 0) dX10_pin_107 (by decide) ?_
    refine r_aload_n C dX10_pin_108 rfl 0 rfl ?_
    refine r_getr C (ci := 10) (k9 := 8) dX10_pin_109 rfl F_i10 (by decide) F_k26 (by omega) la_110 rfl ?_
    refine r_bipush C (v := 64) dX10_pin_112 (by decide) ?_
    refine r_iconst C (v := 1) dX10_pin_114 (by decide) ?_
    refine r_iload_n C dX10_pin_115 rfl 1 rfl ?_
    refine r_iadd C dX10_pin_116 ?_
    refine r_imul C dX10_pin_117 ?_
    refine r_bipush C (v := 64) dX10_pin_118 (by decide) ?_
    refine r_copy C dX10_pin_120 F_c164 F_cnat F_csta F_cini (by omega) (by omega) la_116 la_116 (by decide) (fun _ => rfl) rfl (by decide) (Nat.le_of_ble_eq_true rfl) h (fun m14 _ h => ?_)
    refine r_iload_n C dX10_pin_123 rfl 1 rfl ?_
    exact r_iret C dX10_pin_124 rfl h
  have L7 : ∀ (n : Nat) (x1_7 : Int32), f_X10_pin_L7 m1 e131_7 e28_7 n x1_7 = some res → V 0 7 [(0, .ref (ad 110)), (1, .int x1_7)] [] m1 := by
    intro n
    induction n with
    | zero => intro x1_7 h; rw [f_X10_pin_L7] at h; cases h
    | succ n ih =>
      intro x1_7 h
      rw [f_X10_pin_L7] at h
      refine r_aload_n C dX10_pin_7 rfl 0 rfl ?_
      refine r_geti C (ci := 10) (k9 := 2) dX10_pin_8 rfl F_i10 (by decide) F_k116 (by omega) la_110 rfl ?_
      refine r_if_eq C (tgt := 131) dX10_pin_11 (by decide) h (fun _ h => ?_) (fun _ h => ?_)
      · skip
        refine r_sub C [0] (show _ = [(0, .ref (ad 110))] from rfl) ?_
        exact he131_7 h
      · skip
        refine r_iload_n C dX10_pin_14 rfl 1 rfl ?_
        refine r_iconst C (v := 2) dX10_pin_15 (by decide) ?_
        refine r_icmp_ge C (tgt := 131) dX10_pin_16 (by decide) h (fun _ h => ?_) (fun _ h => ?_)
        · skip
          refine r_sub C [0] (show _ = [(0, .ref (ad 110))] from rfl) ?_
          exact he131_7 h
        · skip
          refine r_aload_n C dX10_pin_19 rfl 0 rfl ?_
          refine r_getr C (ci := 10) (k9 := 9) dX10_pin_20 rfl F_i10 (by decide) F_k29 (by omega) la_110 rfl ?_
          refine r_iload_n C dX10_pin_23 rfl 1 rfl ?_
          refine r_zald C dX10_pin_24 (by omega) la_117 h (fun j15 hj15 h => ?_)
          refine r_if_ne C (tgt := 125) dX10_pin_25 (by decide) h (fun _ h => ?_) (fun _ h => ?_)
          · skip
            exact he28_7 x1_7 h
          · skip
            refine r_iinc C (v := x1_7 + 1) dX10_pin_125 1 rfl rfl (by decide) (show _ = [(1, .int (x1_7 + 1)), (0, .ref (ad 110))] from rfl) ?_
            refine r_goto C (tgt := 7) dX10_pin_128 (by decide) ?_
            refine r_sub C [1, 0] (show _ = [(0, .ref (ad 110)), (1, .int (x1_7 + 1))] from rfl) ?_
            exact ih (x1_7 + 1) h
  refine r_sub C [1, 0] (show _ = [(0, .ref (ad 110)), (1, .int 0)] from rfl) ?_
  exact L7 5000 0 h
noncomputable def f_X10_isPin (p0 : Int32) (m : sM) : Option (sR Int32) :=
  s_bd (f_X10_in p0 0 1 m) fun r1 m2 => s_gd (r1 = 0 ∨ r1 = 1) (some (.inl r1, m2))
set_option maxRecDepth 20000 in
set_option maxHeartbeats 4000000 in
theorem c_X10_isPin (nw : Nat) (hnw : 29 ≤ nw) (p0 : Int32) : s_Con s_i 110 nw yX10_isPin wsX10_isPin 14 185 0 (f_X10_isPin p0) (fun ad => [.int p0]) := by
  refine s_con_of cX10_isPin 1 (some .boolean) RX10 (by decide) rfl rfl (fun _ => Nat.le_of_ble_eq_true rfl) (fun ad m res V C h => ?_)
  unfold f_X10_isPin at h
  show V 0 0 [(0, .int p0)] [] m
  refine r_iload_n C dX10_isPin_0 rfl 0 rfl ?_
  refine r_iconst C (v := 0) dX10_isPin_1 (by decide) ?_
  refine r_iconst C (v := 1) dX10_isPin_2 (by decide) ?_
  refine r_callS C (c_X10_in nw hnw p0 0 1) (As := [.int p0, .int 0, .int 1]) (nn := 3) (stk := [.int 1, .int 0, .int p0]) dX10_isPin_3 gX10_isPin_X10_in ⟨by decide, by decide, by decide +kernel⟩ rfl rfl (by decide) rfl rfl (Nat.le_of_ble_eq_true rfl) (by decide) h (fun r1 m2 h => ?_)
  show V 0 6 [(0, .int p0)] [.int r1] m2
  obtain ⟨hg, h⟩ := s_gd_of h
  exact r_zret C dX10_isPin_6 rfl (s_z hg) h
noncomputable def f_X10_pinnedValue (p1 : Int32) (p2 : Int32) (m : sM) : Option (sR Int32) :=
  s_bd (f_X10_isPin p1 m) fun r1 m2 => s_jn (fun (s0_57 : Int32) (m57_ : sM) => s_md (s_up m57_ 110 0 s0_57) fun m3 => s_jn (fun (s0_84 : Int32) => some (.inl s0_84, m3)) fun k84 => if (m3.1 110 0) ≤ 0 then (s_ix ((64 * (1 + p1)) + p2) 192 fun j4 => k84 (m3.1 116 j4)) else (k84 0)) fun k57 => if r1 = 0 then (k57 1 m2) else (s_bd (f_X10_isKey p2 m2) fun r5 m6 => if r5 = 0 then (k57 2 m6) else (s_ix p1 2 fun j7 => if (m6.1 117 j7) = 0 then (k57 3 m6) else (s_ix ((64 * (1 + p1)) + p2) 192 fun j8 => if (m6.1 115 j8) = 0 then (k57 4 m6) else (k57 0 m6))))
set_option maxRecDepth 20000 in
set_option maxHeartbeats 4000000 in
theorem c_X10_pinnedValue (nw : Nat) (hnw : 29 ≤ nw) (p1 : Int32) (p2 : Int32) : s_Con s_i 110 nw yX10_pinnedValue wsX10_pinnedValue 16 230 0 (f_X10_pinnedValue p1 p2) (fun ad => [.ref (ad 110), .int p1, .int p2]) := by
  refine s_con_of cX10_pinnedValue 3 (some .int) RX10 (by decide) rfl rfl (fun _ => Nat.le_of_ble_eq_true rfl) (fun ad m res V C h => ?_)
  unfold f_X10_pinnedValue at h
  have F_i10 : ∀ w ∈ wsX100, w ∈ wsX10_pinnedValue := by decide +kernel
  have F_k100 : Cond.fieldLink RX10 100 "ShadowFileModel" "thrown" "I" ∈ wsX10_pinnedValue := by decide +kernel
  have F_k26 : Cond.fieldLink RX10 26 "ShadowFileModel" "values" "[I" ∈ wsX10_pinnedValue := by decide +kernel
  have F_k29 : Cond.fieldLink RX10 29 "ShadowFileModel" "isPinned" "[Z" ∈ wsX10_pinnedValue := by decide +kernel
  have F_k22 : Cond.fieldLink RX10 22 "ShadowFileModel" "has" "[Z" ∈ wsX10_pinnedValue := by decide +kernel
  show V 0 0 [(0, .ref (ad 110)), (1, .int p1), (2, .int p2)] [] m
  refine r_aload_n C dX10_pinnedValue_0 rfl 0 rfl ?_
  refine r_iload_n C dX10_pinnedValue_1 rfl 1 rfl ?_
  refine r_callS C (c_X10_isPin nw hnw p1) (As := [.int p1]) (nn := 1) (stk := [.int p1, .ref (ad 110)]) dX10_pinnedValue_2 gX10_pinnedValue_X10_isPin ⟨by decide, by decide, by decide +kernel⟩ rfl rfl (by decide) rfl rfl (Nat.le_of_ble_eq_true rfl) (by decide) h (fun r1 m2 h => ?_)
  show V 0 5 [(0, .ref (ad 110)), (1, .int p1), (2, .int p2)] [.int r1, .ref (ad 110)] m2
  refine s_join h (fun k57 => ∀ (s0_57 : Int32) (m57_ : sM), k57 s0_57 m57_ = some res → V 0 57 [(0, .ref (ad 110)), (1, .int p1), (2, .int p2)] [.int s0_57, .ref (ad 110)] m57_) ?_ (fun k57 hk57 h => ?_)
  · intro s0_57 m57_ h
    refine r_puti C (ci := 10) (k9 := 0) dX10_pinnedValue_57 rfl F_i10 (by decide) F_k100 (by omega) la_110 rfl tyX10 tyX10_ok nmX10 rfl (tyX10_ok 0 (by decide)) rfl rfl h (fun m3 _ h => ?_)
    refine r_aload_n C dX10_pinnedValue_60 rfl 0 rfl ?_
    refine r_geti C (ci := 10) (k9 := 0) dX10_pinnedValue_61 rfl F_i10 (by decide) F_k100 (by omega) la_110 rfl ?_
    refine s_join h (fun k84 => ∀ (s0_84 : Int32), k84 s0_84 = some res → V 0 84 [] [.int s0_84] m3) ?_ (fun k84 hk84 h => ?_)
    · intro s0_84 h
      exact r_iret C dX10_pinnedValue_84 rfl h
    refine r_if_le C (tgt := 71) dX10_pinnedValue_64 (by decide) h (fun _ h => ?_) (fun _ h => ?_)
    · skip
      refine r_aload_n C dX10_pinnedValue_71 rfl 0 rfl ?_
      refine r_getr C (ci := 10) (k9 := 8) dX10_pinnedValue_72 rfl F_i10 (by decide) F_k26 (by omega) la_110 rfl ?_
      refine r_bipush C (v := 64) dX10_pinnedValue_75 (by decide) ?_
      refine r_iconst C (v := 1) dX10_pinnedValue_77 (by decide) ?_
      refine r_iload_n C dX10_pinnedValue_78 rfl 1 rfl ?_
      refine r_iadd C dX10_pinnedValue_79 ?_
      refine r_imul C dX10_pinnedValue_80 ?_
      refine r_iload_n C dX10_pinnedValue_81 rfl 2 rfl ?_
      refine r_iadd C dX10_pinnedValue_82 ?_
      refine r_iald C dX10_pinnedValue_83 (by omega) la_116 h (fun j4 hj4 h => ?_)
      refine r_sub C [] (show _ = [] from rfl) ?_
      exact hk84 (m3.1 116 j4) h
    · skip
      refine r_iconst C (v := 0) dX10_pinnedValue_67 (by decide) ?_
      refine r_goto C (tgt := 84) dX10_pinnedValue_68 (by decide) ?_
      refine r_sub C [] (show _ = [] from rfl) ?_
      exact hk84 0 h
  refine r_if_ne C (tgt := 12) dX10_pinnedValue_5 (by decide) h (fun _ h => ?_) (fun _ h => ?_)
  · skip
    refine r_iconst C (v := 1) dX10_pinnedValue_8 (by decide) ?_
    refine r_goto C (tgt := 57) dX10_pinnedValue_9 (by decide) ?_
    exact hk57 1 m2 h
  · skip
    refine r_iload_n C dX10_pinnedValue_12 rfl 2 rfl ?_
    refine r_callS C (c_X10_isKey nw hnw p2) (As := [.int p2]) (nn := 1) (stk := [.int p2, .ref (ad 110)]) dX10_pinnedValue_13 gX10_pinnedValue_X10_isKey ⟨by decide, by decide, by decide +kernel⟩ rfl rfl (by decide) rfl rfl (Nat.le_of_ble_eq_true rfl) (by decide) h (fun r5 m6 h => ?_)
    show V 0 16 [(0, .ref (ad 110)), (1, .int p1), (2, .int p2)] [.int r5, .ref (ad 110)] m6
    refine r_if_ne C (tgt := 23) dX10_pinnedValue_16 (by decide) h (fun _ h => ?_) (fun _ h => ?_)
    · skip
      refine r_iconst C (v := 2) dX10_pinnedValue_19 (by decide) ?_
      refine r_goto C (tgt := 57) dX10_pinnedValue_20 (by decide) ?_
      exact hk57 2 m6 h
    · skip
      refine r_aload_n C dX10_pinnedValue_23 rfl 0 rfl ?_
      refine r_getr C (ci := 10) (k9 := 9) dX10_pinnedValue_24 rfl F_i10 (by decide) F_k29 (by omega) la_110 rfl ?_
      refine r_iload_n C dX10_pinnedValue_27 rfl 1 rfl ?_
      refine r_zald C dX10_pinnedValue_28 (by omega) la_117 h (fun j7 hj7 h => ?_)
      refine r_if_ne C (tgt := 36) dX10_pinnedValue_29 (by decide) h (fun _ h => ?_) (fun _ h => ?_)
      · skip
        refine r_iconst C (v := 3) dX10_pinnedValue_32 (by decide) ?_
        refine r_goto C (tgt := 57) dX10_pinnedValue_33 (by decide) ?_
        exact hk57 3 m6 h
      · skip
        refine r_aload_n C dX10_pinnedValue_36 rfl 0 rfl ?_
        refine r_getr C (ci := 10) (k9 := 7) dX10_pinnedValue_37 rfl F_i10 (by decide) F_k22 (by omega) la_110 rfl ?_
        refine r_bipush C (v := 64) dX10_pinnedValue_40 (by decide) ?_
        refine r_iconst C (v := 1) dX10_pinnedValue_42 (by decide) ?_
        refine r_iload_n C dX10_pinnedValue_43 rfl 1 rfl ?_
        refine r_iadd C dX10_pinnedValue_44 ?_
        refine r_imul C dX10_pinnedValue_45 ?_
        refine r_iload_n C dX10_pinnedValue_46 rfl 2 rfl ?_
        refine r_iadd C dX10_pinnedValue_47 ?_
        refine r_zald C dX10_pinnedValue_48 (by omega) la_115 h (fun j8 hj8 h => ?_)
        refine r_if_ne C (tgt := 56) dX10_pinnedValue_49 (by decide) h (fun _ h => ?_) (fun _ h => ?_)
        · skip
          refine r_iconst C (v := 4) dX10_pinnedValue_52 (by decide) ?_
          refine r_goto C (tgt := 57) dX10_pinnedValue_53 (by decide) ?_
          exact hk57 4 m6 h
        · skip
          refine r_iconst C (v := 0) dX10_pinnedValue_56 (by decide) ?_
          exact hk57 0 m6 h
noncomputable def f_X10_pinnedCommit (p1 : Int32) (m : sM) : Option (sR Int32) :=
  s_bd (f_X10_isPin p1 m) fun r1 m2 => s_jn (fun (s0_26 : Int32) => s_md (s_up m2 110 0 s0_26) fun m3 => s_jn (fun (s0_48 : Int32) => some (.inl s0_48, m3)) fun k48 => if (m3.1 110 0) ≤ 0 then (s_ix (1 + p1) 3 fun j4 => k48 (m3.1 112 j4)) else (k48 0)) fun k26 => if r1 = 0 then (k26 1) else (s_ix p1 2 fun j5 => if (m2.1 117 j5) = 0 then (k26 2) else (k26 0))
set_option maxRecDepth 20000 in
set_option maxHeartbeats 4000000 in
theorem c_X10_pinnedCommit (nw : Nat) (hnw : 29 ≤ nw) (p1 : Int32) : s_Con s_i 110 nw yX10_pinnedCommit wsX10_pinnedCommit 16 230 0 (f_X10_pinnedCommit p1) (fun ad => [.ref (ad 110), .int p1]) := by
  refine s_con_of cX10_pinnedCommit 2 (some .int) RX10 (by decide) rfl rfl (fun _ => Nat.le_of_ble_eq_true rfl) (fun ad m res V C h => ?_)
  unfold f_X10_pinnedCommit at h
  have F_i10 : ∀ w ∈ wsX100, w ∈ wsX10_pinnedCommit := by decide +kernel
  have F_k100 : Cond.fieldLink RX10 100 "ShadowFileModel" "thrown" "I" ∈ wsX10_pinnedCommit := by decide +kernel
  have F_k13 : Cond.fieldLink RX10 13 "ShadowFileModel" "number" "[I" ∈ wsX10_pinnedCommit := by decide +kernel
  have F_k29 : Cond.fieldLink RX10 29 "ShadowFileModel" "isPinned" "[Z" ∈ wsX10_pinnedCommit := by decide +kernel
  show V 0 0 [(0, .ref (ad 110)), (1, .int p1)] [] m
  refine r_aload_n C dX10_pinnedCommit_0 rfl 0 rfl ?_
  refine r_iload_n C dX10_pinnedCommit_1 rfl 1 rfl ?_
  refine r_callS C (c_X10_isPin nw hnw p1) (As := [.int p1]) (nn := 1) (stk := [.int p1, .ref (ad 110)]) dX10_pinnedCommit_2 gX10_pinnedCommit_X10_isPin ⟨by decide, by decide, by decide +kernel⟩ rfl rfl (by decide) rfl rfl (Nat.le_of_ble_eq_true rfl) (by decide) h (fun r1 m2 h => ?_)
  show V 0 5 [(0, .ref (ad 110)), (1, .int p1)] [.int r1, .ref (ad 110)] m2
  refine s_join h (fun k26 => ∀ (s0_26 : Int32), k26 s0_26 = some res → V 0 26 [(0, .ref (ad 110)), (1, .int p1)] [.int s0_26, .ref (ad 110)] m2) ?_ (fun k26 hk26 h => ?_)
  · intro s0_26 h
    refine r_puti C (ci := 10) (k9 := 0) dX10_pinnedCommit_26 rfl F_i10 (by decide) F_k100 (by omega) la_110 rfl tyX10 tyX10_ok nmX10 rfl (tyX10_ok 0 (by decide)) rfl rfl h (fun m3 _ h => ?_)
    refine r_aload_n C dX10_pinnedCommit_29 rfl 0 rfl ?_
    refine r_geti C (ci := 10) (k9 := 0) dX10_pinnedCommit_30 rfl F_i10 (by decide) F_k100 (by omega) la_110 rfl ?_
    refine s_join h (fun k48 => ∀ (s0_48 : Int32), k48 s0_48 = some res → V 0 48 [] [.int s0_48] m3) ?_ (fun k48 hk48 h => ?_)
    · intro s0_48 h
      exact r_iret C dX10_pinnedCommit_48 rfl h
    refine r_if_le C (tgt := 40) dX10_pinnedCommit_33 (by decide) h (fun _ h => ?_) (fun _ h => ?_)
    · skip
      refine r_aload_n C dX10_pinnedCommit_40 rfl 0 rfl ?_
      refine r_getr C (ci := 10) (k9 := 4) dX10_pinnedCommit_41 rfl F_i10 (by decide) F_k13 (by omega) la_110 rfl ?_
      refine r_iconst C (v := 1) dX10_pinnedCommit_44 (by decide) ?_
      refine r_iload_n C dX10_pinnedCommit_45 rfl 1 rfl ?_
      refine r_iadd C dX10_pinnedCommit_46 ?_
      refine r_iald C dX10_pinnedCommit_47 (by omega) la_112 h (fun j4 hj4 h => ?_)
      refine r_sub C [] (show _ = [] from rfl) ?_
      exact hk48 (m3.1 112 j4) h
    · skip
      refine r_iconst C (v := 0) dX10_pinnedCommit_36 (by decide) ?_
      refine r_goto C (tgt := 48) dX10_pinnedCommit_37 (by decide) ?_
      refine r_sub C [] (show _ = [] from rfl) ?_
      exact hk48 0 h
  refine r_if_ne C (tgt := 12) dX10_pinnedCommit_5 (by decide) h (fun _ h => ?_) (fun _ h => ?_)
  · skip
    refine r_iconst C (v := 1) dX10_pinnedCommit_8 (by decide) ?_
    refine r_goto C (tgt := 26) dX10_pinnedCommit_9 (by decide) ?_
    exact hk26 1 h
  · skip
    refine r_aload_n C dX10_pinnedCommit_12 rfl 0 rfl ?_
    refine r_getr C (ci := 10) (k9 := 9) dX10_pinnedCommit_13 rfl F_i10 (by decide) F_k29 (by omega) la_110 rfl ?_
    refine r_iload_n C dX10_pinnedCommit_16 rfl 1 rfl ?_
    refine r_zald C dX10_pinnedCommit_17 (by omega) la_117 h (fun j5 hj5 h => ?_)
    refine r_if_ne C (tgt := 25) dX10_pinnedCommit_18 (by decide) h (fun _ h => ?_) (fun _ h => ?_)
    · skip
      refine r_iconst C (v := 2) dX10_pinnedCommit_21 (by decide) ?_
      refine r_goto C (tgt := 26) dX10_pinnedCommit_22 (by decide) ?_
      exact hk26 2 h
    · skip
      refine r_iconst C (v := 0) dX10_pinnedCommit_25 (by decide) ?_
      exact hk26 0 h
noncomputable def f_X10_unpin (p1 : Int32) (m : sM) : Option (sR Int32) :=
  s_bd (f_X10_isPin p1 m) fun r1 m2 => s_jn (fun (s0_26 : Int32) => s_md (s_up m2 110 0 s0_26) fun m3 => if (m3.1 110 0) ≤ 0 then (s_bd (f_X10_freeBlocks m3) fun r4 m5 => s_ix p1 2 fun j6 => s_md (s_up m5 117 j6 (vp_nar .boolean 0)) fun m7 => s_bd (f_X10_freeBlocks m7) fun r8 m9 => some (.inl (r8 - r4), m9)) else (some (.inl 0, m3))) fun k26 => if r1 = 0 then (k26 1) else (s_ix p1 2 fun j10 => if (m2.1 117 j10) = 0 then (k26 2) else (k26 0))
set_option maxRecDepth 20000 in
set_option maxHeartbeats 4000000 in
theorem c_X10_unpin (nw : Nat) (hnw : 29 ≤ nw) (p1 : Int32) : s_Con s_i 110 nw yX10_unpin wsX10_unpin 18 275 0 (f_X10_unpin p1) (fun ad => [.ref (ad 110), .int p1]) := by
  refine s_con_of cX10_unpin 3 (some .int) RX10 (by decide) rfl rfl (fun _ => Nat.le_of_ble_eq_true rfl) (fun ad m res V C h => ?_)
  unfold f_X10_unpin at h
  have F_i10 : ∀ w ∈ wsX100, w ∈ wsX10_unpin := by decide +kernel
  have F_k100 : Cond.fieldLink RX10 100 "ShadowFileModel" "thrown" "I" ∈ wsX10_unpin := by decide +kernel
  have F_k29 : Cond.fieldLink RX10 29 "ShadowFileModel" "isPinned" "[Z" ∈ wsX10_unpin := by decide +kernel
  show V 0 0 [(0, .ref (ad 110)), (1, .int p1)] [] m
  refine r_aload_n C dX10_unpin_0 rfl 0 rfl ?_
  refine r_iload_n C dX10_unpin_1 rfl 1 rfl ?_
  refine r_callS C (c_X10_isPin nw hnw p1) (As := [.int p1]) (nn := 1) (stk := [.int p1, .ref (ad 110)]) dX10_unpin_2 gX10_unpin_X10_isPin ⟨by decide, by decide, by decide +kernel⟩ rfl rfl (by decide) rfl rfl (Nat.le_of_ble_eq_true rfl) (by decide) h (fun r1 m2 h => ?_)
  show V 0 5 [(0, .ref (ad 110)), (1, .int p1)] [.int r1, .ref (ad 110)] m2
  refine s_join h (fun k26 => ∀ (s0_26 : Int32), k26 s0_26 = some res → V 0 26 [(0, .ref (ad 110)), (1, .int p1)] [.int s0_26, .ref (ad 110)] m2) ?_ (fun k26 hk26 h => ?_)
  · intro s0_26 h
    refine r_puti C (ci := 10) (k9 := 0) dX10_unpin_26 rfl F_i10 (by decide) F_k100 (by omega) la_110 rfl tyX10 tyX10_ok nmX10 rfl (tyX10_ok 0 (by decide)) rfl rfl h (fun m3 _ h => ?_)
    refine r_aload_n C dX10_unpin_29 rfl 0 rfl ?_
    refine r_geti C (ci := 10) (k9 := 0) dX10_unpin_30 rfl F_i10 (by decide) F_k100 (by omega) la_110 rfl ?_
    refine r_if_le C (tgt := 38) dX10_unpin_33 (by decide) h (fun _ h => ?_) (fun _ h => ?_)
    · skip
      refine r_aload_n C dX10_unpin_38 rfl 0 rfl ?_
      refine r_callV C (c_X10_freeBlocks nw hnw) (As := []) (nn := 0) (stk := [.ref (ad 110)]) (ci := 10) dX10_unpin_39 gX10_unpin_X10_freeBlocks ⟨rfl, by decide, by decide, by decide +kernel⟩ (by omega) la_110 rfl rfl rfl (by decide) rfl rfl (Nat.le_of_ble_eq_true rfl) (by decide) h (fun r4 m5 h => ?_)
      show V 0 42 [(0, .ref (ad 110)), (1, .int p1)] [.int r4] m5
      refine r_istore_n C dX10_unpin_42 rfl (by decide) (show _ = [(2, .int r4), (0, .ref (ad 110)), (1, .int p1)] from rfl) ?_
      refine r_aload_n C dX10_unpin_43 rfl 1 rfl ?_
      refine r_getr C (ci := 10) (k9 := 9) dX10_unpin_44 rfl F_i10 (by decide) F_k29 (by omega) la_110 rfl ?_
      refine r_iload_n C dX10_unpin_47 rfl 2 rfl ?_
      refine r_iconst C (v := 0) dX10_unpin_48 (by decide) ?_
      refine r_zast C dX10_unpin_49 (by omega) la_117 h (fun j6 m7 hj6 _ h => ?_)
      refine r_aload_n C dX10_unpin_50 rfl 1 rfl ?_
      refine r_callV C (c_X10_freeBlocks nw hnw) (As := []) (nn := 0) (stk := [.ref (ad 110)]) (ci := 10) dX10_unpin_51 gX10_unpin_X10_freeBlocks ⟨rfl, by decide, by decide, by decide +kernel⟩ (by omega) la_110 rfl rfl rfl (by decide) rfl rfl (Nat.le_of_ble_eq_true rfl) (by decide) h (fun r8 m9 h => ?_)
      show V 0 54 [(2, .int r4), (0, .ref (ad 110)), (1, .int p1)] [.int r8] m9
      refine r_iload_n C dX10_unpin_54 rfl 0 rfl ?_
      refine r_isub C dX10_unpin_55 ?_
      exact r_iret C dX10_unpin_56 rfl h
    · skip
      refine r_iconst C (v := 0) dX10_unpin_36 (by decide) ?_
      exact r_iret C dX10_unpin_37 rfl h
  refine r_if_ne C (tgt := 12) dX10_unpin_5 (by decide) h (fun _ h => ?_) (fun _ h => ?_)
  · skip
    refine r_iconst C (v := 1) dX10_unpin_8 (by decide) ?_
    refine r_goto C (tgt := 26) dX10_unpin_9 (by decide) ?_
    exact hk26 1 h
  · skip
    refine r_aload_n C dX10_unpin_12 rfl 0 rfl ?_
    refine r_getr C (ci := 10) (k9 := 9) dX10_unpin_13 rfl F_i10 (by decide) F_k29 (by omega) la_110 rfl ?_
    refine r_iload_n C dX10_unpin_16 rfl 1 rfl ?_
    refine r_zald C dX10_unpin_17 (by omega) la_117 h (fun j10 hj10 h => ?_)
    refine r_if_ne C (tgt := 25) dX10_unpin_18 (by decide) h (fun _ h => ?_) (fun _ h => ?_)
    · skip
      refine r_iconst C (v := 2) dX10_unpin_21 (by decide) ?_
      refine r_goto C (tgt := 26) dX10_unpin_22 (by decide) ?_
      exact hk26 2 h
    · skip
      refine r_iconst C (v := 0) dX10_unpin_25 (by decide) ?_
      exact hk26 0 h
noncomputable def f_X10_isDifferent (p1 : Int32) (p2 : Int32) (m : sM) : Option (sR Int32) :=
  s_ix ((64 * (1 + p1)) + p2) 192 fun j1 => s_ix p2 192 fun j2 => s_jn (fun (s0_53 : Int32) => s_gd (s0_53 = 0 ∨ s0_53 = 1) (some (.inl s0_53, m))) fun k53 => s_jn (k53 1) fun k48 => if (m.1 115 j1) = (m.1 115 j2) then (s_ix p2 192 fun j3 => s_jn (k53 0) fun k52 => if (m.1 115 j3) = 0 then (k52) else (s_ix ((64 * (1 + p1)) + p2) 192 fun j4 => s_ix p2 192 fun j5 => if (m.1 116 j4) = (m.1 116 j5) then (k52) else (k48))) else (k48)
set_option maxRecDepth 20000 in
set_option maxHeartbeats 4000000 in
theorem c_X10_isDifferent (nw : Nat) (hnw : 29 ≤ nw) (p1 : Int32) (p2 : Int32) : s_Con s_i 110 nw yX10_isDifferent wsX10_isDifferent 12 140 0 (f_X10_isDifferent p1 p2) (fun ad => [.ref (ad 110), .int p1, .int p2]) := by
  refine s_con_of cX10_isDifferent 4 (some .boolean) RX10 (by decide) rfl rfl (fun _ => Nat.le_of_ble_eq_true rfl) (fun ad m res V C h => ?_)
  unfold f_X10_isDifferent at h
  have F_i10 : ∀ w ∈ wsX100, w ∈ wsX10_isDifferent := by decide +kernel
  have F_k22 : Cond.fieldLink RX10 22 "ShadowFileModel" "has" "[Z" ∈ wsX10_isDifferent := by decide +kernel
  have F_k26 : Cond.fieldLink RX10 26 "ShadowFileModel" "values" "[I" ∈ wsX10_isDifferent := by decide +kernel
  show V 0 0 [(0, .ref (ad 110)), (1, .int p1), (2, .int p2)] [] m
  refine r_bipush C (v := 64) dX10_isDifferent_0 (by decide) ?_
  refine r_iconst C (v := 1) dX10_isDifferent_2 (by decide) ?_
  refine r_iload_n C dX10_isDifferent_3 rfl 1 rfl ?_
  refine r_iadd C dX10_isDifferent_4 ?_
  refine r_imul C dX10_isDifferent_5 ?_
  refine r_iload_n C dX10_isDifferent_6 rfl 2 rfl ?_
  refine r_iadd C dX10_isDifferent_7 ?_
  refine r_istore_n C dX10_isDifferent_8 rfl (by decide) (show _ = [(3, .int ((64 * (1 + p1)) + p2)), (0, .ref (ad 110)), (1, .int p1), (2, .int p2)] from rfl) ?_
  refine r_aload_n C dX10_isDifferent_9 rfl 1 rfl ?_
  refine r_getr C (ci := 10) (k9 := 7) dX10_isDifferent_10 rfl F_i10 (by decide) F_k22 (by omega) la_110 rfl ?_
  refine r_iload_n C dX10_isDifferent_13 rfl 0 rfl ?_
  refine r_zald C dX10_isDifferent_14 (by omega) la_115 h (fun j1 hj1 h => ?_)
  refine r_aload_n C dX10_isDifferent_15 rfl 1 rfl ?_
  refine r_getr C (ci := 10) (k9 := 7) dX10_isDifferent_16 rfl F_i10 (by decide) F_k22 (by omega) la_110 rfl ?_
  refine r_iload_n C dX10_isDifferent_19 rfl 3 rfl ?_
  refine r_zald C dX10_isDifferent_20 (by omega) la_115 h (fun j2 hj2 h => ?_)
  refine s_join h (fun k53 => ∀ (s0_53 : Int32), k53 s0_53 = some res → V 0 53 [] [.int s0_53] m) ?_ (fun k53 hk53 h => ?_)
  · intro s0_53 h
    obtain ⟨hg, h⟩ := s_gd_of h
    exact r_zret C dX10_isDifferent_53 rfl (s_z hg) h
  refine s_join h (fun k48 => k48  = some res → V 0 48 [] [] m) ?_ (fun k48 hk48 h => ?_)
  · intro  h
    refine r_iconst C (v := 1) dX10_isDifferent_48 (by decide) ?_
    refine r_goto C (tgt := 53) dX10_isDifferent_49 (by decide) ?_
    exact hk53 1 h
  refine r_icmp_ne C (tgt := 48) dX10_isDifferent_21 (by decide) h (fun _ h => ?_) (fun _ h => ?_)
  · skip
    refine r_aload_n C dX10_isDifferent_24 rfl 1 rfl ?_
    refine r_getr C (ci := 10) (k9 := 7) dX10_isDifferent_25 rfl F_i10 (by decide) F_k22 (by omega) la_110 rfl ?_
    refine r_iload_n C dX10_isDifferent_28 rfl 3 rfl ?_
    refine r_zald C dX10_isDifferent_29 (by omega) la_115 h (fun j3 hj3 h => ?_)
    refine s_join h (fun k52 => k52  = some res → V 0 52 [] [] m) ?_ (fun k52 hk52 h => ?_)
    · intro  h
      refine r_iconst C (v := 0) dX10_isDifferent_52 (by decide) ?_
      exact hk53 0 h
    refine r_if_eq C (tgt := 52) dX10_isDifferent_30 (by decide) h (fun _ h => ?_) (fun _ h => ?_)
    · skip
      refine r_sub C [] (show _ = [] from rfl) ?_
      exact hk52 h
    · skip
      refine r_aload_n C dX10_isDifferent_33 rfl 1 rfl ?_
      refine r_getr C (ci := 10) (k9 := 8) dX10_isDifferent_34 rfl F_i10 (by decide) F_k26 (by omega) la_110 rfl ?_
      refine r_iload_n C dX10_isDifferent_37 rfl 0 rfl ?_
      refine r_iald C dX10_isDifferent_38 (by omega) la_116 h (fun j4 hj4 h => ?_)
      refine r_aload_n C dX10_isDifferent_39 rfl 1 rfl ?_
      refine r_getr C (ci := 10) (k9 := 8) dX10_isDifferent_40 rfl F_i10 (by decide) F_k26 (by omega) la_110 rfl ?_
      refine r_iload_n C dX10_isDifferent_43 rfl 3 rfl ?_
      refine r_iald C dX10_isDifferent_44 (by omega) la_116 h (fun j5 hj5 h => ?_)
      refine r_icmp_eq C (tgt := 52) dX10_isDifferent_45 (by decide) h (fun _ h => ?_) (fun _ h => ?_)
      · skip
        refine r_sub C [] (show _ = [] from rfl) ?_
        exact hk52 h
      · skip
        refine r_sub C [] (show _ = [] from rfl) ?_
        exact hk48 h
  · skip
    refine r_sub C [] (show _ = [] from rfl) ?_
    exact hk48 h
noncomputable def f_X10_differences_L33 (y1_33 : Int32) (e69_33 : Int32 → sM → Option (sR Int32)) : Nat → Int32 → Int32 → sM → Option (sR Int32)
  | 0, _, _, _ => none
  | n + 1, x2_33, x3_33, m33_ =>
    if (m33_.1 110 0) = 0 then (if 64 ≤ x3_33 then (e69_33 x2_33 m33_) else (s_bd (f_X10_isDifferent y1_33 x3_33 m33_) fun r4 m5 => s_jn (fun (s0_61 : Int32) => f_X10_differences_L33 y1_33 e69_33 n (x2_33 + s0_61) (x3_33 + 1) m5) fun k61 => if r4 = 0 then (k61 0) else (k61 1))) else (e69_33 x2_33 m33_)
noncomputable def f_X10_differences (p1 : Int32) (m : sM) : Option (sR Int32) :=
  s_bd (f_X10_isPin p1 m) fun r1 m2 => s_jn (fun (s0_26 : Int32) => s_md (s_up m2 110 0 s0_26) fun m3 => s_jn (fun (x2_69 : Int32) (m69_ : sM) => some (.inl x2_69, m69_)) fun e69_33 => f_X10_differences_L33 p1 e69_33 5000 0 0 m3) fun k26 => if r1 = 0 then (k26 1) else (s_ix p1 2 fun j6 => if (m2.1 117 j6) = 0 then (k26 2) else (k26 0))
set_option maxRecDepth 20000 in
set_option maxHeartbeats 4000000 in
theorem c_X10_differences (nw : Nat) (hnw : 29 ≤ nw) (p1 : Int32) : s_Con s_i 110 nw yX10_differences wsX10_differences 16 230 0 (f_X10_differences p1) (fun ad => [.ref (ad 110), .int p1]) := by
  refine s_con_of cX10_differences 4 (some .int) RX10 (by decide) rfl rfl (fun _ => Nat.le_of_ble_eq_true rfl) (fun ad m res V C h => ?_)
  unfold f_X10_differences at h
  have F_i10 : ∀ w ∈ wsX100, w ∈ wsX10_differences := by decide +kernel
  have F_k100 : Cond.fieldLink RX10 100 "ShadowFileModel" "thrown" "I" ∈ wsX10_differences := by decide +kernel
  have F_k29 : Cond.fieldLink RX10 29 "ShadowFileModel" "isPinned" "[Z" ∈ wsX10_differences := by decide +kernel
  show V 0 0 [(0, .ref (ad 110)), (1, .int p1)] [] m
  refine r_aload_n C dX10_differences_0 rfl 0 rfl ?_
  refine r_iload_n C dX10_differences_1 rfl 1 rfl ?_
  refine r_callS C (c_X10_isPin nw hnw p1) (As := [.int p1]) (nn := 1) (stk := [.int p1, .ref (ad 110)]) dX10_differences_2 gX10_differences_X10_isPin ⟨by decide, by decide, by decide +kernel⟩ rfl rfl (by decide) rfl rfl (Nat.le_of_ble_eq_true rfl) (by decide) h (fun r1 m2 h => ?_)
  show V 0 5 [(0, .ref (ad 110)), (1, .int p1)] [.int r1, .ref (ad 110)] m2
  refine s_join h (fun k26 => ∀ (s0_26 : Int32), k26 s0_26 = some res → V 0 26 [(0, .ref (ad 110)), (1, .int p1)] [.int s0_26, .ref (ad 110)] m2) ?_ (fun k26 hk26 h => ?_)
  · intro s0_26 h
    refine r_puti C (ci := 10) (k9 := 0) dX10_differences_26 rfl F_i10 (by decide) F_k100 (by omega) la_110 rfl tyX10 tyX10_ok nmX10 rfl (tyX10_ok 0 (by decide)) rfl rfl h (fun m3 _ h => ?_)
    refine r_iconst C (v := 0) dX10_differences_29 (by decide) ?_
    refine r_istore_n C dX10_differences_30 rfl (by decide) (show _ = [(2, .int 0), (0, .ref (ad 110)), (1, .int p1)] from rfl) ?_
    refine r_iconst C (v := 0) dX10_differences_31 (by decide) ?_
    refine r_istore_n C dX10_differences_32 rfl (by decide) (show _ = [(3, .int 0), (2, .int 0), (0, .ref (ad 110)), (1, .int p1)] from rfl) ?_
    refine s_join h (fun e69_33 => ∀ (x2_69 : Int32) (m69_ : sM), e69_33 x2_69 m69_ = some res → V 0 69 [(2, .int x2_69)] [] m69_) ?_ (fun e69_33 he69_33 h => ?_)
    · intro x2_69 m69_ h
      refine r_iload_n C dX10_differences_69 rfl 0 rfl ?_
      exact r_iret C dX10_differences_70 rfl h
    have L33 : ∀ (n : Nat) (x2_33 : Int32) (x3_33 : Int32) (m33_ : sM), f_X10_differences_L33 p1 e69_33 n x2_33 x3_33 m33_ = some res → V 0 33 [(0, .ref (ad 110)), (1, .int p1), (2, .int x2_33), (3, .int x3_33)] [] m33_ := by
      intro n
      induction n with
      | zero => intro x2_33 x3_33 m33_ h; rw [f_X10_differences_L33] at h; cases h
      | succ n ih =>
        intro x2_33 x3_33 m33_ h
        rw [f_X10_differences_L33] at h
        refine r_aload_n C dX10_differences_33 rfl 0 rfl ?_
        refine r_geti C (ci := 10) (k9 := 0) dX10_differences_34 rfl F_i10 (by decide) F_k100 (by omega) la_110 rfl ?_
        refine r_if_ne C (tgt := 69) dX10_differences_37 (by decide) h (fun _ h => ?_) (fun _ h => ?_)
        · skip
          refine r_iload_n C dX10_differences_40 rfl 3 rfl ?_
          refine r_bipush C (v := 64) dX10_differences_41 (by decide) ?_
          refine r_icmp_ge C (tgt := 69) dX10_differences_43 (by decide) h (fun _ h => ?_) (fun _ h => ?_)
          · skip
            refine r_sub C [2] (show _ = [(2, .int x2_33)] from rfl) ?_
            exact he69_33 x2_33 m33_ h
          · skip
            refine r_iload_n C dX10_differences_46 rfl 2 rfl ?_
            refine r_aload_n C dX10_differences_47 rfl 0 rfl ?_
            refine r_iload_n C dX10_differences_48 rfl 1 rfl ?_
            refine r_iload_n C dX10_differences_49 rfl 3 rfl ?_
            refine r_callV C (c_X10_isDifferent nw hnw p1 x3_33) (As := [.int p1, .int x3_33]) (nn := 2) (stk := [.int x3_33, .int p1, .ref (ad 110), .int x2_33]) (ci := 10) dX10_differences_50 gX10_differences_X10_isDifferent ⟨rfl, by decide, by decide, by decide +kernel⟩ (by omega) la_110 rfl rfl rfl (by decide) rfl rfl (Nat.le_of_ble_eq_true rfl) (by decide) h (fun r4 m5 h => ?_)
            show V 0 53 [(0, .ref (ad 110)), (1, .int p1), (2, .int x2_33), (3, .int x3_33)] [.int r4, .int x2_33] m5
            refine s_join h (fun k61 => ∀ (s0_61 : Int32), k61 s0_61 = some res → V 0 61 [(0, .ref (ad 110)), (1, .int p1), (3, .int x3_33)] [.int s0_61, .int x2_33] m5) ?_ (fun k61 hk61 h => ?_)
            · intro s0_61 h
              refine r_iadd C dX10_differences_61 ?_
              refine r_istore_n C dX10_differences_62 rfl (by decide) (show _ = [(2, .int (x2_33 + s0_61)), (0, .ref (ad 110)), (1, .int p1), (3, .int x3_33)] from rfl) ?_
              refine r_iinc C (v := x3_33 + 1) dX10_differences_63 3 rfl rfl (by decide) (show _ = [(3, .int (x3_33 + 1)), (2, .int (x2_33 + s0_61)), (0, .ref (ad 110)), (1, .int p1)] from rfl) ?_
              refine r_goto C (tgt := 33) dX10_differences_66 (by decide) ?_
              refine r_sub C [2, 3, 1, 0] (show _ = [(0, .ref (ad 110)), (1, .int p1), (2, .int (x2_33 + s0_61)), (3, .int (x3_33 + 1))] from rfl) ?_
              exact ih (x2_33 + s0_61) (x3_33 + 1) m5 h
            refine r_if_eq C (tgt := 60) dX10_differences_53 (by decide) h (fun _ h => ?_) (fun _ h => ?_)
            · skip
              refine r_iconst C (v := 0) dX10_differences_60 (by decide) ?_
              refine r_sub C [0, 1, 3] (show _ = [(0, .ref (ad 110)), (1, .int p1), (3, .int x3_33)] from rfl) ?_
              exact hk61 0 h
            · skip
              refine r_iconst C (v := 1) dX10_differences_56 (by decide) ?_
              refine r_goto C (tgt := 61) dX10_differences_57 (by decide) ?_
              refine r_sub C [0, 1, 3] (show _ = [(0, .ref (ad 110)), (1, .int p1), (3, .int x3_33)] from rfl) ?_
              exact hk61 1 h
        · skip
          refine r_sub C [2] (show _ = [(2, .int x2_33)] from rfl) ?_
          exact he69_33 x2_33 m33_ h
    refine r_sub C [2, 3, 1, 0] (show _ = [(0, .ref (ad 110)), (1, .int p1), (2, .int 0), (3, .int 0)] from rfl) ?_
    exact L33 5000 0 0 m3 h
  refine r_if_ne C (tgt := 12) dX10_differences_5 (by decide) h (fun _ h => ?_) (fun _ h => ?_)
  · skip
    refine r_iconst C (v := 1) dX10_differences_8 (by decide) ?_
    refine r_goto C (tgt := 26) dX10_differences_9 (by decide) ?_
    exact hk26 1 h
  · skip
    refine r_aload_n C dX10_differences_12 rfl 0 rfl ?_
    refine r_getr C (ci := 10) (k9 := 9) dX10_differences_13 rfl F_i10 (by decide) F_k29 (by omega) la_110 rfl ?_
    refine r_iload_n C dX10_differences_16 rfl 1 rfl ?_
    refine r_zald C dX10_differences_17 (by omega) la_117 h (fun j6 hj6 h => ?_)
    refine r_if_ne C (tgt := 25) dX10_differences_18 (by decide) h (fun _ h => ?_) (fun _ h => ?_)
    · skip
      refine r_iconst C (v := 2) dX10_differences_21 (by decide) ?_
      refine r_goto C (tgt := 26) dX10_differences_22 (by decide) ?_
      exact hk26 2 h
    · skip
      refine r_iconst C (v := 0) dX10_differences_25 (by decide) ?_
      exact hk26 0 h
noncomputable def f_X10_differentKey_L43 (y1_43 : Int32) (e80_43 : sM → Option (sR Int32)) (e68_43 : Int32 → sM → Option (sR Int32)) : Nat → Int32 → Int32 → sM → Option (sR Int32)
  | 0, _, _, _ => none
  | n + 1, x3_43, x4_43, m43_ =>
    if 64 ≤ x4_43 then (e80_43  m43_) else (if x3_43 < 0 then (e80_43  m43_) else (s_bd (f_X10_isDifferent y1_43 x4_43 m43_) fun r6 m7 => s_jn (fun (x3_74 : Int32) => f_X10_differentKey_L43 y1_43 e80_43 e68_43 n x3_74 (x4_43 + 1) m7) fun k74 => if r6 = 0 then (k74 x3_43) else (if x3_43 = 0 then (e68_43 x4_43 m7) else (k74 (x3_43 + (-1))))))
noncomputable def f_X10_differentKey (p1 : Int32) (p2 : Int32) (m : sM) : Option (sR Int32) :=
  s_bd (f_X10_isPin p1 m) fun r1 m2 => s_jn (fun (s0_26 : Int32) => s_md (s_up m2 110 0 s0_26) fun m3 => if (m3.1 110 0) ≤ 0 then (s_jn (fun (m80_ : sM) => s_bd (f_X10_fails 3 m80_) fun r4 m5 => some (.inl r4, m5)) fun e80_43 => s_jn (fun (x4_68 : Int32) (m68_ : sM) => some (.inl x4_68, m68_)) fun e68_43 => f_X10_differentKey_L43 p1 e80_43 e68_43 5000 p2 0 m3) else (some (.inl 0, m3))) fun k26 => if r1 = 0 then (k26 1) else (s_ix p1 2 fun j8 => if (m2.1 117 j8) = 0 then (k26 2) else (k26 0))
set_option maxRecDepth 20000 in
set_option maxHeartbeats 4000000 in
theorem c_X10_differentKey (nw : Nat) (hnw : 29 ≤ nw) (p1 : Int32) (p2 : Int32) : s_Con s_i 110 nw yX10_differentKey wsX10_differentKey 16 230 0 (f_X10_differentKey p1 p2) (fun ad => [.ref (ad 110), .int p1, .int p2]) := by
  refine s_con_of cX10_differentKey 5 (some .int) RX10 (by decide) rfl rfl (fun _ => Nat.le_of_ble_eq_true rfl) (fun ad m res V C h => ?_)
  unfold f_X10_differentKey at h
  have F_i10 : ∀ w ∈ wsX100, w ∈ wsX10_differentKey := by decide +kernel
  have F_k100 : Cond.fieldLink RX10 100 "ShadowFileModel" "thrown" "I" ∈ wsX10_differentKey := by decide +kernel
  have F_k29 : Cond.fieldLink RX10 29 "ShadowFileModel" "isPinned" "[Z" ∈ wsX10_differentKey := by decide +kernel
  show V 0 0 [(0, .ref (ad 110)), (1, .int p1), (2, .int p2)] [] m
  refine r_aload_n C dX10_differentKey_0 rfl 0 rfl ?_
  refine r_iload_n C dX10_differentKey_1 rfl 1 rfl ?_
  refine r_callS C (c_X10_isPin nw hnw p1) (As := [.int p1]) (nn := 1) (stk := [.int p1, .ref (ad 110)]) dX10_differentKey_2 gX10_differentKey_X10_isPin ⟨by decide, by decide, by decide +kernel⟩ rfl rfl (by decide) rfl rfl (Nat.le_of_ble_eq_true rfl) (by decide) h (fun r1 m2 h => ?_)
  show V 0 5 [(0, .ref (ad 110)), (1, .int p1), (2, .int p2)] [.int r1, .ref (ad 110)] m2
  refine s_join h (fun k26 => ∀ (s0_26 : Int32), k26 s0_26 = some res → V 0 26 [(0, .ref (ad 110)), (1, .int p1), (2, .int p2)] [.int s0_26, .ref (ad 110)] m2) ?_ (fun k26 hk26 h => ?_)
  · intro s0_26 h
    refine r_puti C (ci := 10) (k9 := 0) dX10_differentKey_26 rfl F_i10 (by decide) F_k100 (by omega) la_110 rfl tyX10 tyX10_ok nmX10 rfl (tyX10_ok 0 (by decide)) rfl rfl h (fun m3 _ h => ?_)
    refine r_aload_n C dX10_differentKey_29 rfl 0 rfl ?_
    refine r_geti C (ci := 10) (k9 := 0) dX10_differentKey_30 rfl F_i10 (by decide) F_k100 (by omega) la_110 rfl ?_
    refine r_if_le C (tgt := 38) dX10_differentKey_33 (by decide) h (fun _ h => ?_) (fun _ h => ?_)
    · skip
      refine r_iload_n C dX10_differentKey_38 rfl 2 rfl ?_
      refine r_istore_n C dX10_differentKey_39 rfl (by decide) (show _ = [(3, .int p2), (0, .ref (ad 110)), (1, .int p1), (2, .int p2)] from rfl) ?_
      refine r_iconst C (v := 0) dX10_differentKey_40 (by decide) ?_
      refine r_istore C dX10_differentKey_41 (by decide) (show _ = [(4, .int 0), (3, .int p2), (0, .ref (ad 110)), (1, .int p1), (2, .int p2)] from rfl) ?_
      refine s_join h (fun e80_43 => ∀ (m80_ : sM), e80_43 m80_ = some res → V 0 80 [(0, .ref (ad 110))] [] m80_) ?_ (fun e80_43 he80_43 h => ?_)
      · intro m80_ h
        refine r_aload_n C dX10_differentKey_80 rfl 0 rfl ?_
        refine r_iconst C (v := 3) dX10_differentKey_81 (by decide) ?_
        refine r_callV C (c_X10_fails nw hnw 3) (As := [.int 3]) (nn := 1) (stk := [.int 3, .ref (ad 110)]) (ci := 10) dX10_differentKey_82 gX10_differentKey_X10_fails ⟨rfl, by decide, by decide, by decide +kernel⟩ (by omega) la_110 rfl rfl rfl (by decide) rfl rfl (Nat.le_of_ble_eq_true rfl) (by decide) h (fun r4 m5 h => ?_)
        show V 0 85 [(0, .ref (ad 110))] [.int r4] m5
        exact r_iret C dX10_differentKey_85 rfl h
      refine s_join h (fun e68_43 => ∀ (x4_68 : Int32) (m68_ : sM), e68_43 x4_68 m68_ = some res → V 0 68 [(4, .int x4_68)] [] m68_) ?_ (fun e68_43 he68_43 h => ?_)
      · intro x4_68 m68_ h
        refine r_iload C dX10_differentKey_68 0 rfl ?_
        exact r_iret C dX10_differentKey_70 rfl h
      have L43 : ∀ (n : Nat) (x3_43 : Int32) (x4_43 : Int32) (m43_ : sM), f_X10_differentKey_L43 p1 e80_43 e68_43 n x3_43 x4_43 m43_ = some res → V 0 43 [(0, .ref (ad 110)), (1, .int p1), (3, .int x3_43), (4, .int x4_43)] [] m43_ := by
        intro n
        induction n with
        | zero => intro x3_43 x4_43 m43_ h; rw [f_X10_differentKey_L43] at h; cases h
        | succ n ih =>
          intro x3_43 x4_43 m43_ h
          rw [f_X10_differentKey_L43] at h
          refine r_iload C dX10_differentKey_43 3 rfl ?_
          refine r_bipush C (v := 64) dX10_differentKey_45 (by decide) ?_
          refine r_icmp_ge C (tgt := 80) dX10_differentKey_47 (by decide) h (fun _ h => ?_) (fun _ h => ?_)
          · skip
            refine r_sub C [0] (show _ = [(0, .ref (ad 110))] from rfl) ?_
            exact he80_43 m43_ h
          · skip
            refine r_iload_n C dX10_differentKey_50 rfl 2 rfl ?_
            refine r_if_lt C (tgt := 80) dX10_differentKey_51 (by decide) h (fun _ h => ?_) (fun _ h => ?_)
            · skip
              refine r_sub C [0] (show _ = [(0, .ref (ad 110))] from rfl) ?_
              exact he80_43 m43_ h
            · skip
              refine r_aload_n C dX10_differentKey_54 rfl 0 rfl ?_
              refine r_iload_n C dX10_differentKey_55 rfl 1 rfl ?_
              refine r_iload C dX10_differentKey_56 3 rfl ?_
              refine r_callV C (c_X10_isDifferent nw hnw p1 x4_43) (As := [.int p1, .int x4_43]) (nn := 2) (stk := [.int x4_43, .int p1, .ref (ad 110)]) (ci := 10) dX10_differentKey_58 gX10_differentKey_X10_isDifferent ⟨rfl, by decide, by decide, by decide +kernel⟩ (by omega) la_110 rfl rfl rfl (by decide) rfl rfl (Nat.le_of_ble_eq_true rfl) (by decide) h (fun r6 m7 h => ?_)
              show V 0 61 [(0, .ref (ad 110)), (1, .int p1), (3, .int x3_43), (4, .int x4_43)] [.int r6] m7
              refine s_join h (fun k74 => ∀ (x3_74 : Int32), k74 x3_74 = some res → V 0 74 [(0, .ref (ad 110)), (1, .int p1), (3, .int x3_74), (4, .int x4_43)] [] m7) ?_ (fun k74 hk74 h => ?_)
              · intro x3_74 h
                refine r_iinc C (v := x4_43 + 1) dX10_differentKey_74 3 rfl rfl (by decide) (show _ = [(4, .int (x4_43 + 1)), (0, .ref (ad 110)), (1, .int p1), (3, .int x3_74)] from rfl) ?_
                refine r_goto C (tgt := 43) dX10_differentKey_77 (by decide) ?_
                refine r_sub C [1, 2, 3, 0] (show _ = [(0, .ref (ad 110)), (1, .int p1), (3, .int x3_74), (4, .int (x4_43 + 1))] from rfl) ?_
                exact ih x3_74 (x4_43 + 1) m7 h
              refine r_if_eq C (tgt := 74) dX10_differentKey_61 (by decide) h (fun _ h => ?_) (fun _ h => ?_)
              · skip
                exact hk74 x3_43 h
              · skip
                refine r_iload_n C dX10_differentKey_64 rfl 2 rfl ?_
                refine r_if_ne C (tgt := 71) dX10_differentKey_65 (by decide) h (fun _ h => ?_) (fun _ h => ?_)
                · skip
                  refine r_sub C [3] (show _ = [(4, .int x4_43)] from rfl) ?_
                  exact he68_43 x4_43 m7 h
                · skip
                  refine r_iinc C (v := x3_43 + (-1)) dX10_differentKey_71 2 rfl rfl (by decide) (show _ = [(3, .int (x3_43 + (-1))), (0, .ref (ad 110)), (1, .int p1), (4, .int x4_43)] from rfl) ?_
                  refine r_sub C [1, 2, 0, 3] (show _ = [(0, .ref (ad 110)), (1, .int p1), (3, .int (x3_43 + (-1))), (4, .int x4_43)] from rfl) ?_
                  exact hk74 (x3_43 + (-1)) h
      refine r_sub C [2, 3, 1, 0] (show _ = [(0, .ref (ad 110)), (1, .int p1), (3, .int p2), (4, .int 0)] from rfl) ?_
      exact L43 5000 p2 0 m3 h
    · skip
      refine r_iconst C (v := 0) dX10_differentKey_36 (by decide) ?_
      exact r_iret C dX10_differentKey_37 rfl h
  refine r_if_ne C (tgt := 12) dX10_differentKey_5 (by decide) h (fun _ h => ?_) (fun _ h => ?_)
  · skip
    refine r_iconst C (v := 1) dX10_differentKey_8 (by decide) ?_
    refine r_goto C (tgt := 26) dX10_differentKey_9 (by decide) ?_
    exact hk26 1 h
  · skip
    refine r_aload_n C dX10_differentKey_12 rfl 0 rfl ?_
    refine r_getr C (ci := 10) (k9 := 9) dX10_differentKey_13 rfl F_i10 (by decide) F_k29 (by omega) la_110 rfl ?_
    refine r_iload_n C dX10_differentKey_16 rfl 1 rfl ?_
    refine r_zald C dX10_differentKey_17 (by omega) la_117 h (fun j8 hj8 h => ?_)
    refine r_if_ne C (tgt := 25) dX10_differentKey_18 (by decide) h (fun _ h => ?_) (fun _ h => ?_)
    · skip
      refine r_iconst C (v := 2) dX10_differentKey_21 (by decide) ?_
      refine r_goto C (tgt := 26) dX10_differentKey_22 (by decide) ?_
      exact hk26 2 h
    · skip
      refine r_iconst C (v := 0) dX10_differentKey_25 (by decide) ?_
      exact hk26 0 h
