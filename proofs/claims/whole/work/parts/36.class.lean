noncomputable def f_X9_endReadySlots_L2 (e31_2 : sM → Option (sR Unit)) : Nat → Int32 → sM → Option (sR Unit)
  | 0, _, _ => none
  | n + 1, x1_2, m2_ =>
    if (m2_.1 0 7) ≤ x1_2 then (e31_2  m2_) else (s_ix x1_2 3 fun j2 => s_ix (m2_.1 84 j2) 3 fun j3 => s_bd (f_X7_reset (54 + 10 * j3) 0 m2_) fun r4 m5 => f_X9_endReadySlots_L2 e31_2 n (x1_2 + 1) m5)
noncomputable def f_X9_endReadySlots (m : sM) : Option (sR Unit) :=
  s_jn (fun (m31_ : sM) => s_md (s_up m31_ 0 7 0) fun m1 => some (.inl (), m1)) fun e31_2 => f_X9_endReadySlots_L2 e31_2 5000 0 m
set_option maxRecDepth 20000 in
set_option maxHeartbeats 4000000 in
theorem c_X9_endReadySlots (nw : Nat) (hnw : 109 ≤ nw) : s_Con s_u 0 nw yX9_endReadySlots wsX9_endReadySlots 16 230 0 (f_X9_endReadySlots) (fun ad => [.ref (ad 0)]) := by
  refine s_con_of cX9_endReadySlots 2 none RX9 (by decide) rfl rfl (fun _ => Nat.le_of_ble_eq_true rfl) (fun ad m res V C h => ?_)
  unfold f_X9_endReadySlots at h
  have F_i9 : ∀ w ∈ wsX90, w ∈ wsX9_endReadySlots := by decide +kernel
  have F_k50 : Cond.fieldLink RX9 50 "ShadowFile" "readyCount" "I" ∈ wsX9_endReadySlots := by decide +kernel
  have F_k42 : Cond.fieldLink RX9 42 "ShadowFile" "slots" "[LShadowFile$Slot;" ∈ wsX9_endReadySlots := by decide +kernel
  have F_k46 : Cond.fieldLink RX9 46 "ShadowFile" "readyOrder" "[I" ∈ wsX9_endReadySlots := by decide +kernel
  show V 0 0 [(0, .ref (ad 0))] [] m
  refine r_iconst C (v := 0) dX9_endReadySlots_0 (by decide) ?_
  refine r_istore_n C dX9_endReadySlots_1 rfl (by decide) (show _ = [(1, .int 0), (0, .ref (ad 0))] from rfl) ?_
  refine s_join h (fun e31_2 => ∀ (m31_ : sM), e31_2 m31_ = some res → V 0 31 [(0, .ref (ad 0))] [] m31_) ?_ (fun e31_2 he31_2 h => ?_)
  · intro m31_ h
    refine r_aload_n C dX9_endReadySlots_31 rfl 0 rfl ?_
    refine r_iconst C (v := 0) dX9_endReadySlots_32 (by decide) ?_
    refine r_puti C (ci := 9) (k9 := 7) dX9_endReadySlots_33 rfl F_i9 (by decide) F_k50 (by omega) la_0 rfl tyX9 tyX9_ok nmX9 rfl (tyX9_ok 7 (by decide)) rfl rfl h (fun m1 _ h => ?_)
    exact r_vret C dX9_endReadySlots_36 rfl h
  have L2 : ∀ (n : Nat) (x1_2 : Int32) (m2_ : sM), f_X9_endReadySlots_L2 e31_2 n x1_2 m2_ = some res → V 0 2 [(0, .ref (ad 0)), (1, .int x1_2)] [] m2_ := by
    intro n
    induction n with
    | zero => intro x1_2 m2_ h; rw [f_X9_endReadySlots_L2] at h; cases h
    | succ n ih =>
      intro x1_2 m2_ h
      rw [f_X9_endReadySlots_L2] at h
      refine r_iload_n C dX9_endReadySlots_2 rfl 1 rfl ?_
      refine r_aload_n C dX9_endReadySlots_3 rfl 0 rfl ?_
      refine r_geti C (ci := 9) (k9 := 7) dX9_endReadySlots_4 rfl F_i9 (by decide) F_k50 (by omega) la_0 rfl ?_
      refine r_icmp_ge C (tgt := 31) dX9_endReadySlots_7 (by decide) h (fun _ h => ?_) (fun _ h => ?_)
      · skip
        refine r_sub C [0] (show _ = [(0, .ref (ad 0))] from rfl) ?_
        exact he31_2 m2_ h
      · skip
        refine r_aload_n C dX9_endReadySlots_10 rfl 0 rfl ?_
        refine r_getr C (ci := 9) (k9 := 5) dX9_endReadySlots_11 rfl F_i9 (by decide) F_k42 (by omega) la_0 rfl ?_
        refine r_aload_n C dX9_endReadySlots_14 rfl 0 rfl ?_
        refine r_getr C (ci := 9) (k9 := 6) dX9_endReadySlots_15 rfl F_i9 (by decide) F_k46 (by omega) la_0 rfl ?_
        refine r_iload_n C dX9_endReadySlots_18 rfl 1 rfl ?_
        refine r_iald C dX9_endReadySlots_19 (by omega) la_84 h (fun j2 hj2 h => ?_)
        refine r_aald C (b0 := 54) (d0 := 10) dX9_endReadySlots_20 (by omega) la_53 (fun _ => rfl) rfl h (fun j3 hj3 h => ?_)
        refine r_iconst C (v := 0) dX9_endReadySlots_21 (by decide) ?_
        refine r_callV C (c_X7_reset nw hnw (54 + 10 * j3) 0 (isSlt_s hj3)) (As := [.int 0]) (nn := 1) (stk := [.int 0, .ref (ad (54 + 10 * j3))]) (ci := 7) dX9_endReadySlots_22 gX9_endReadySlots_X7_reset ⟨rfl, by decide, by decide, by decide +kernel⟩ (by have := isSlt_b (isSlt_s hj3); omega) (isSlt_0 (isSlt_s hj3)) rfl rfl rfl (by decide) rfl rfl (Nat.le_of_ble_eq_true rfl) (by decide) h (fun r4 m5 h => ?_)
        show V 0 25 [(0, .ref (ad 0)), (1, .int x1_2)] [] m5
        refine r_iinc C (v := x1_2 + 1) dX9_endReadySlots_25 1 rfl rfl (by decide) (show _ = [(1, .int (x1_2 + 1)), (0, .ref (ad 0))] from rfl) ?_
        refine r_goto C (tgt := 2) dX9_endReadySlots_28 (by decide) ?_
        refine r_sub C [1, 0] (show _ = [(0, .ref (ad 0)), (1, .int (x1_2 + 1))] from rfl) ?_
        exact ih (x1_2 + 1) m5 h
  refine r_sub C [1, 0] (show _ = [(0, .ref (ad 0)), (1, .int 0)] from rfl) ?_
  exact L2 5000 0 m h
noncomputable def f_X9_endCommit (m : sM) : Option (sR Int32) :=
  s_jn (fun (s0_15 : Int32) => s_jn (fun (s0_31 : Int32) => s_bd (f_X0_countPages 50 m) fun r1 m2 => s_bd (f_X3_append s0_31 (m.1 0 7) r1 (m2.1 52 1) m2) fun r3 m4 => s_ix 2 8 fun j5 => s_ix 2 8 fun j6 => s_md (s_up m4 108 j6 ((m4.1 108 j5) + (m4.1 52 1))) fun m7 => s_ix 3 8 fun j8 => s_ix 3 8 fun j9 => s_md (s_up m7 108 j9 ((m7.1 108 j8) + (m7.1 52 2))) fun m10 => s_jn (fun (m141_ : sM) => some (.inl s0_31, m141_)) fun k141 => if s0_15 = 0 then (s_ix 0 8 fun j11 => s_ix 0 8 fun j12 => s_md (s_up m10 108 j12 ((m10.1 108 j11) + 1)) fun m13 => s_bd (f_X8_copyFrom 36 39 m13) fun r14 m15 => s_bd (f_X9_endReadySlots m15) fun r16 m17 => k141  m17) else (s_ix 1 8 fun j18 => s_ix 1 8 fun j19 => s_md (s_up m10 108 j19 ((m10.1 108 j18) + 1)) fun m20 => s_bd (f_X9_endSlotsAndPins m20) fun r21 m22 => s_md (s_up m22 0 15 0) fun m23 => k141  m23)) fun k31 => if s0_15 = 0 then (k31 (m.1 39 3)) else (k31 (-1))) fun k15 => if (m.1 52 2) ≤ 0 then (k15 0) else (k15 1)
set_option maxRecDepth 20000 in
set_option maxHeartbeats 4000000 in
theorem c_X9_endCommit (nw : Nat) (hnw : 109 ≤ nw) : s_Con s_i 0 nw yX9_endCommit wsX9_endCommit 18 275 0 (f_X9_endCommit) (fun ad => [.ref (ad 0)]) := by
  refine s_con_of cX9_endCommit 3 (some .int) RX9 (by decide) rfl rfl (fun _ => Nat.le_of_ble_eq_true rfl) (fun ad m res V C h => ?_)
  unfold f_X9_endCommit at h
  have F_i9 : ∀ w ∈ wsX90, w ∈ wsX9_endCommit := by decide +kernel
  have F_k36 : Cond.fieldLink RX9 36 "ShadowFile" "power" "LShadowFile$Power;" ∈ wsX9_endCommit := by decide +kernel
  have F_i5 : ∀ w ∈ wsX50, w ∈ wsX9_endCommit := by decide +kernel
  have F_k433 : Cond.fieldLink RX9 433 "ShadowFile$Power" "partBlocks" "I" ∈ wsX9_endCommit := by decide +kernel
  have F_k79 : Cond.fieldLink RX9 79 "ShadowFile" "log" "LShadowFile$Log;" ∈ wsX9_endCommit := by decide +kernel
  have F_k50 : Cond.fieldLink RX9 50 "ShadowFile" "readyCount" "I" ∈ wsX9_endCommit := by decide +kernel
  have F_k29 : Cond.fieldLink RX9 29 "ShadowFile" "combined" "LShadowFile$Changes;" ∈ wsX9_endCommit := by decide +kernel
  have F_k439 : Cond.fieldLink RX9 439 "ShadowFile$Power" "wholeBlocks" "I" ∈ wsX9_endCommit := by decide +kernel
  have F_k90 : Cond.fieldLink RX9 90 "ShadowFile" "counts" "[I" ∈ wsX9_endCommit := by decide +kernel
  have F_k19 : Cond.fieldLink RX9 19 "ShadowFile" "present" "LShadowFile$Version;" ∈ wsX9_endCommit := by decide +kernel
  have F_k23 : Cond.fieldLink RX9 23 "ShadowFile" "next" "LShadowFile$Version;" ∈ wsX9_endCommit := by decide +kernel
  have F_k93 : Cond.fieldLink RX9 93 "ShadowFile" "open" "Z" ∈ wsX9_endCommit := by decide +kernel
  have F_i8 : ∀ w ∈ wsX80, w ∈ wsX9_endCommit := by decide +kernel
  have F_k101 : Cond.fieldLink RX9 101 "ShadowFile$Version" "number" "I" ∈ wsX9_endCommit := by decide +kernel
  show V 0 0 [(0, .ref (ad 0))] [] m
  refine r_aload_n C dX9_endCommit_0 rfl 0 rfl ?_
  refine r_getr C (ci := 9) (k9 := 4) dX9_endCommit_1 rfl F_i9 (by decide) F_k36 (by omega) la_0 rfl ?_
  refine r_geti C (ci := 5) (k9 := 2) dX9_endCommit_4 rfl F_i5 (by decide) F_k433 (by omega) la_52 rfl ?_
  refine s_join h (fun k15 => ∀ (s0_15 : Int32), k15 s0_15 = some res → V 0 15 [(0, .ref (ad 0))] [.int s0_15] m) ?_ (fun k15 hk15 h => ?_)
  · intro s0_15 h
    refine r_istore_n C dX9_endCommit_15 rfl (by decide) (show _ = [(1, .int s0_15), (0, .ref (ad 0))] from rfl) ?_
    refine r_iload_n C dX9_endCommit_16 rfl 0 rfl ?_
    refine s_join h (fun k31 => ∀ (s0_31 : Int32), k31 s0_31 = some res → V 0 31 [(0, .ref (ad 0)), (1, .int s0_15)] [.int s0_31] m) ?_ (fun k31 hk31 h => ?_)
    · intro s0_31 h
      refine r_istore_n C dX9_endCommit_31 rfl (by decide) (show _ = [(2, .int s0_31), (0, .ref (ad 0)), (1, .int s0_15)] from rfl) ?_
      refine r_aload_n C dX9_endCommit_32 rfl 1 rfl ?_
      refine r_getr C (ci := 9) (k9 := 12) dX9_endCommit_33 rfl F_i9 (by decide) F_k79 (by omega) la_0 rfl ?_
      refine r_iload_n C dX9_endCommit_36 rfl 0 rfl ?_
      refine r_aload_n C dX9_endCommit_37 rfl 1 rfl ?_
      refine r_geti C (ci := 9) (k9 := 7) dX9_endCommit_38 rfl F_i9 (by decide) F_k50 (by omega) la_0 rfl ?_
      refine r_aload_n C dX9_endCommit_41 rfl 1 rfl ?_
      refine r_getr C (ci := 9) (k9 := 3) dX9_endCommit_42 rfl F_i9 (by decide) F_k29 (by omega) la_0 rfl ?_
      refine r_callV C (c_X0_countPages nw hnw 50 (by unfold isChg; omega)) (As := []) (nn := 0) (stk := [.ref (ad 50), .int (m.1 0 7), .int s0_31, .ref (ad 94)]) (ci := 0) dX9_endCommit_45 gX9_endCommit_X0_countPages ⟨rfl, by decide, by decide, by decide +kernel⟩ (by omega) la_50 rfl rfl rfl (by decide) rfl rfl (Nat.le_of_ble_eq_true rfl) (by decide) h (fun r1 m2 h => ?_)
      show V 0 48 [(2, .int s0_31), (0, .ref (ad 0)), (1, .int s0_15)] [.int r1, .int (m.1 0 7), .int s0_31, .ref (ad 94)] m2
      refine r_aload_n C dX9_endCommit_48 rfl 1 rfl ?_
      refine r_getr C (ci := 9) (k9 := 4) dX9_endCommit_49 rfl F_i9 (by decide) F_k36 (by omega) la_0 rfl ?_
      refine r_geti C (ci := 5) (k9 := 1) dX9_endCommit_52 rfl F_i5 (by decide) F_k439 (by omega) la_52 rfl ?_
      refine r_callV C (c_X3_append nw hnw s0_31 (m.1 0 7) r1 (m2.1 52 1)) (As := [.int s0_31, .int (m.1 0 7), .int r1, .int (m2.1 52 1)]) (nn := 4) (stk := [.int (m2.1 52 1), .int r1, .int (m.1 0 7), .int s0_31, .ref (ad 94)]) (ci := 3) dX9_endCommit_55 gX9_endCommit_X3_append ⟨rfl, by decide, by decide, by decide +kernel⟩ (by omega) la_94 rfl rfl rfl (by decide) rfl rfl (Nat.le_of_ble_eq_true rfl) (by decide) h (fun r3 m4 h => ?_)
      show V 0 58 [(2, .int s0_31), (0, .ref (ad 0)), (1, .int s0_15)] [] m4
      refine r_aload_n C dX9_endCommit_58 rfl 1 rfl ?_
      refine r_getr C (ci := 9) (k9 := 14) dX9_endCommit_59 rfl F_i9 (by decide) F_k90 (by omega) la_0 rfl ?_
      refine r_iconst C (v := 2) dX9_endCommit_62 (by decide) ?_
      refine r_dup2 C dX9_endCommit_63 rfl rfl ?_
      refine r_iald C dX9_endCommit_64 (by omega) la_108 h (fun j5 hj5 h => ?_)
      refine r_aload_n C dX9_endCommit_65 rfl 1 rfl ?_
      refine r_getr C (ci := 9) (k9 := 4) dX9_endCommit_66 rfl F_i9 (by decide) F_k36 (by omega) la_0 rfl ?_
      refine r_geti C (ci := 5) (k9 := 1) dX9_endCommit_69 rfl F_i5 (by decide) F_k439 (by omega) la_52 rfl ?_
      refine r_iadd C dX9_endCommit_72 ?_
      refine r_iast C dX9_endCommit_73 (by omega) la_108 h (fun j6 m7 hj6 _ h => ?_)
      refine r_aload_n C dX9_endCommit_74 rfl 1 rfl ?_
      refine r_getr C (ci := 9) (k9 := 14) dX9_endCommit_75 rfl F_i9 (by decide) F_k90 (by omega) la_0 rfl ?_
      refine r_iconst C (v := 3) dX9_endCommit_78 (by decide) ?_
      refine r_dup2 C dX9_endCommit_79 rfl rfl ?_
      refine r_iald C dX9_endCommit_80 (by omega) la_108 h (fun j8 hj8 h => ?_)
      refine r_aload_n C dX9_endCommit_81 rfl 1 rfl ?_
      refine r_getr C (ci := 9) (k9 := 4) dX9_endCommit_82 rfl F_i9 (by decide) F_k36 (by omega) la_0 rfl ?_
      refine r_geti C (ci := 5) (k9 := 2) dX9_endCommit_85 rfl F_i5 (by decide) F_k433 (by omega) la_52 rfl ?_
      refine r_iadd C dX9_endCommit_88 ?_
      refine r_iast C dX9_endCommit_89 (by omega) la_108 h (fun j9 m10 hj9 _ h => ?_)
      refine r_iload_n C dX9_endCommit_90 rfl 2 rfl ?_
      refine s_join h (fun k141 => ∀ (m141_ : sM), k141 m141_ = some res → V 0 141 [(2, .int s0_31)] [] m141_) ?_ (fun k141 hk141 h => ?_)
      · intro m141_ h
        refine r_iload_n C dX9_endCommit_141 rfl 0 rfl ?_
        exact r_iret C dX9_endCommit_142 rfl h
      refine r_if_eq C (tgt := 116) dX9_endCommit_91 (by decide) h (fun _ h => ?_) (fun _ h => ?_)
      · skip
        refine r_aload_n C dX9_endCommit_116 rfl 1 rfl ?_
        refine r_getr C (ci := 9) (k9 := 14) dX9_endCommit_117 rfl F_i9 (by decide) F_k90 (by omega) la_0 rfl ?_
        refine r_iconst C (v := 0) dX9_endCommit_120 (by decide) ?_
        refine r_dup2 C dX9_endCommit_121 rfl rfl ?_
        refine r_iald C dX9_endCommit_122 (by omega) la_108 h (fun j11 hj11 h => ?_)
        refine r_iconst C (v := 1) dX9_endCommit_123 (by decide) ?_
        refine r_iadd C dX9_endCommit_124 ?_
        refine r_iast C dX9_endCommit_125 (by omega) la_108 h (fun j12 m13 hj12 _ h => ?_)
        refine r_aload_n C dX9_endCommit_126 rfl 1 rfl ?_
        refine r_getr C (ci := 9) (k9 := 1) dX9_endCommit_127 rfl F_i9 (by decide) F_k19 (by omega) la_0 rfl ?_
        refine r_aload_n C dX9_endCommit_130 rfl 1 rfl ?_
        refine r_getr C (ci := 9) (k9 := 2) dX9_endCommit_131 rfl F_i9 (by decide) F_k23 (by omega) la_0 rfl ?_
        refine r_callV C (c_X8_copyFrom nw hnw 36 39 (by unfold isVer; omega) (by unfold isVer; omega)) (As := [.ref (ad 39)]) (nn := 1) (stk := [.ref (ad 39), .ref (ad 36)]) (ci := 8) dX9_endCommit_134 gX9_endCommit_X8_copyFrom ⟨rfl, by decide, by decide, by decide +kernel⟩ (by omega) la_36 rfl rfl rfl (by decide) rfl rfl (Nat.le_of_ble_eq_true rfl) (by decide) h (fun r14 m15 h => ?_)
        show V 0 137 [(2, .int s0_31), (0, .ref (ad 0)), (1, .int s0_15)] [] m15
        refine r_aload_n C dX9_endCommit_137 rfl 1 rfl ?_
        refine r_callV C (c_X9_endReadySlots nw hnw) (As := []) (nn := 0) (stk := [.ref (ad 0)]) (ci := 9) dX9_endCommit_138 gX9_endCommit_X9_endReadySlots ⟨rfl, by decide, by decide, by decide +kernel⟩ (by omega) la_0 rfl rfl rfl (by decide) rfl rfl (Nat.le_of_ble_eq_true rfl) (by decide) h (fun r16 m17 h => ?_)
        show V 0 141 [(2, .int s0_31), (0, .ref (ad 0)), (1, .int s0_15)] [] m17
        refine r_sub C [0] (show _ = [(2, .int s0_31)] from rfl) ?_
        exact hk141 m17 h
      · skip
        refine r_aload_n C dX9_endCommit_94 rfl 1 rfl ?_
        refine r_getr C (ci := 9) (k9 := 14) dX9_endCommit_95 rfl F_i9 (by decide) F_k90 (by omega) la_0 rfl ?_
        refine r_iconst C (v := 1) dX9_endCommit_98 (by decide) ?_
        refine r_dup2 C dX9_endCommit_99 rfl rfl ?_
        refine r_iald C dX9_endCommit_100 (by omega) la_108 h (fun j18 hj18 h => ?_)
        refine r_iconst C (v := 1) dX9_endCommit_101 (by decide) ?_
        refine r_iadd C dX9_endCommit_102 ?_
        refine r_iast C dX9_endCommit_103 (by omega) la_108 h (fun j19 m20 hj19 _ h => ?_)
        refine r_aload_n C dX9_endCommit_104 rfl 1 rfl ?_
        refine r_callV C (c_X9_endSlotsAndPins nw hnw) (As := []) (nn := 0) (stk := [.ref (ad 0)]) (ci := 9) dX9_endCommit_105 gX9_endCommit_X9_endSlotsAndPins ⟨rfl, by decide, by decide, by decide +kernel⟩ (by omega) la_0 rfl rfl rfl (by decide) rfl rfl (Nat.le_of_ble_eq_true rfl) (by decide) h (fun r21 m22 h => ?_)
        show V 0 108 [(2, .int s0_31), (0, .ref (ad 0)), (1, .int s0_15)] [] m22
        refine r_aload_n C dX9_endCommit_108 rfl 1 rfl ?_
        refine r_iconst C (v := 0) dX9_endCommit_109 (by decide) ?_
        refine r_puti C (ci := 9) (k9 := 15) dX9_endCommit_110 rfl F_i9 (by decide) F_k93 (by omega) la_0 rfl tyX9 tyX9_ok nmX9 rfl (tyX9_ok 15 (by decide)) rfl rfl h (fun m23 _ h => ?_)
        refine r_goto C (tgt := 141) dX9_endCommit_113 (by decide) ?_
        refine r_sub C [0] (show _ = [(2, .int s0_31)] from rfl) ?_
        exact hk141 m23 h
    refine r_if_eq C (tgt := 24) dX9_endCommit_17 (by decide) h (fun _ h => ?_) (fun _ h => ?_)
    · skip
      refine r_aload_n C dX9_endCommit_24 rfl 1 rfl ?_
      refine r_getr C (ci := 9) (k9 := 2) dX9_endCommit_25 rfl F_i9 (by decide) F_k23 (by omega) la_0 rfl ?_
      refine r_geti C (ci := 8) (k9 := 3) dX9_endCommit_28 rfl F_i8 (by decide) F_k101 (by omega) la_39 rfl ?_
      refine r_sub C [1, 0] (show _ = [(0, .ref (ad 0)), (1, .int s0_15)] from rfl) ?_
      exact hk31 (m.1 39 3) h
    · skip
      refine r_iconst C (v := -1) dX9_endCommit_20 (by decide) ?_
      refine r_goto C (tgt := 31) dX9_endCommit_21 (by decide) ?_
      refine r_sub C [1, 0] (show _ = [(0, .ref (ad 0)), (1, .int s0_15)] from rfl) ?_
      exact hk31 (-1) h
  refine r_if_le C (tgt := 14) dX9_endCommit_7 (by decide) h (fun _ h => ?_) (fun _ h => ?_)
  · skip
    refine r_iconst C (v := 0) dX9_endCommit_14 (by decide) ?_
    exact hk15 0 h
  · skip
    refine r_iconst C (v := 1) dX9_endCommit_10 (by decide) ?_
    refine r_goto C (tgt := 15) dX9_endCommit_11 (by decide) ?_
    exact hk15 1 h
noncomputable def f_X9_commit (p1 : Int32) (m : sM) : Option (sR Int32) :=
  if (-1) ≤ p1 then (s_bd (f_X9_requireOpen m) fun r1 m2 => if (m2.1 0 7) = 0 then (some (.inr "java/lang/IllegalStateException", m2)) else (if (m2.1 36 3) < 999999 then (s_bd (f_X9_prepareNext m2) fun r3 m4 => s_bd (f_X9_freeBlocks m4) fun r5 m6 => s_bd (f_J13_bitCount_95d88 r5 m6) fun r7 m8 => s_bd (f_X9_dataBlocksOfNext m8) fun r9 m10 => if r9 ≤ r7 then (s_bd (f_X9_placeNext m10) fun r11 m12 => s_bd (f_X9_writeNext p1 m12) fun r13 m14 => s_bd (f_X9_endCommit m14) fun r15 m16 => some (.inl r15, m16)) else (some (.inr "java/lang/UnsupportedOperationException", m10))) else (some (.inr "java/lang/UnsupportedOperationException", m2)))) else (some (.inr "java/lang/IllegalArgumentException", m))
set_option maxRecDepth 20000 in
set_option maxHeartbeats 4000000 in
theorem c_X9_commit (nw : Nat) (hnw : 109 ≤ nw) (p1 : Int32) : s_Con s_i 0 nw yX9_commit wsX9_commit 20 320 2 (f_X9_commit p1) (fun ad => [.ref (ad 0), .int p1]) := by
  refine s_con_of cX9_commit 2 (some .int) RX9 (by decide) rfl rfl (fun _ => Nat.le_of_ble_eq_true rfl) (fun ad m res V C h => ?_)
  unfold f_X9_commit at h
  have F_i9 : ∀ w ∈ wsX90, w ∈ wsX9_commit := by decide +kernel
  have F_k50 : Cond.fieldLink RX9 50 "ShadowFile" "readyCount" "I" ∈ wsX9_commit := by decide +kernel
  have F_q117 : Cond.classLink RX9 117 "java/lang/IllegalStateException" ∈ wsX9_commit := by decide +kernel
  have F_u117 : Cond.initialized "java/lang/IllegalStateException" ∈ wsX9_commit := by decide +kernel
  have F_z121 : ∀ w ∈ (vx_atS RX9 121 "java/lang/IllegalStateException" ["java/lang/RuntimeException", "java/lang/Exception"]).filter goodWord, w ∈ wsX9_commit := by decide +kernel
  have F_y121 : ∀ w ∈ (vx_atS RX9 121 "java/lang/IllegalStateException" ["java/lang/RuntimeException", "java/lang/Exception"]).filter (fun w => !goodWord w), w ∈ Cond.castable "java/lang/IllegalStateException" "java/lang/IllegalStateException" :: s_dec.map Cond.declares := by decide +kernel
  have F_v121 : ∀ w ∈ Cond.classLink RX9 117 "java/lang/IllegalStateException" :: Cond.initialized "java/lang/IllegalStateException" :: vx_atS RX9 121 "java/lang/IllegalStateException" ["java/lang/RuntimeException", "java/lang/Exception"], vx_ot w = true := by decide +kernel
  have F_k19 : Cond.fieldLink RX9 19 "ShadowFile" "present" "LShadowFile$Version;" ∈ wsX9_commit := by decide +kernel
  have F_i8 : ∀ w ∈ wsX80, w ∈ wsX9_commit := by decide +kernel
  have F_k101 : Cond.fieldLink RX9 101 "ShadowFile$Version" "number" "I" ∈ wsX9_commit := by decide +kernel
  have F_w248 : Cond.constant RX9 248 (999999) ∈ wsX9_commit := by decide +kernel
  have F_q249 : Cond.classLink RX9 249 "java/lang/UnsupportedOperationException" ∈ wsX9_commit := by decide +kernel
  have F_u249 : Cond.initialized "java/lang/UnsupportedOperationException" ∈ wsX9_commit := by decide +kernel
  have F_z253 : ∀ w ∈ (vx_atS RX9 253 "java/lang/UnsupportedOperationException" ["java/lang/RuntimeException", "java/lang/Exception"]).filter goodWord, w ∈ wsX9_commit := by decide +kernel
  have F_y253 : ∀ w ∈ (vx_atS RX9 253 "java/lang/UnsupportedOperationException" ["java/lang/RuntimeException", "java/lang/Exception"]).filter (fun w => !goodWord w), w ∈ Cond.castable "java/lang/UnsupportedOperationException" "java/lang/UnsupportedOperationException" :: s_dec.map Cond.declares := by decide +kernel
  have F_v253 : ∀ w ∈ Cond.classLink RX9 249 "java/lang/UnsupportedOperationException" :: Cond.initialized "java/lang/UnsupportedOperationException" :: vx_atS RX9 253 "java/lang/UnsupportedOperationException" ["java/lang/RuntimeException", "java/lang/Exception"], vx_ot w = true := by decide +kernel
  have F_q130 : Cond.classLink RX9 130 "java/lang/IllegalArgumentException" ∈ wsX9_commit := by decide +kernel
  have F_u130 : Cond.initialized "java/lang/IllegalArgumentException" ∈ wsX9_commit := by decide +kernel
  have F_z134 : ∀ w ∈ (vx_atS RX9 134 "java/lang/IllegalArgumentException" ["java/lang/RuntimeException", "java/lang/Exception"]).filter goodWord, w ∈ wsX9_commit := by decide +kernel
  have F_y134 : ∀ w ∈ (vx_atS RX9 134 "java/lang/IllegalArgumentException" ["java/lang/RuntimeException", "java/lang/Exception"]).filter (fun w => !goodWord w), w ∈ Cond.castable "java/lang/IllegalArgumentException" "java/lang/IllegalArgumentException" :: s_dec.map Cond.declares := by decide +kernel
  have F_v134 : ∀ w ∈ Cond.classLink RX9 130 "java/lang/IllegalArgumentException" :: Cond.initialized "java/lang/IllegalArgumentException" :: vx_atS RX9 134 "java/lang/IllegalArgumentException" ["java/lang/RuntimeException", "java/lang/Exception"], vx_ot w = true := by decide +kernel
  show V 2 0 [(0, .ref (ad 0)), (1, .int p1)] [] m
  refine r_iload_n C dX9_commit_0 rfl 1 rfl ?_
  refine r_iconst C (v := -1) dX9_commit_1 (by decide) ?_
  refine r_icmp_ge C (tgt := 15) dX9_commit_2 (by decide) h (fun _ h => ?_) (fun _ h => ?_)
  · skip
    refine r_aload_n C dX9_commit_15 rfl 0 rfl ?_
    refine r_callV C (c_X9_requireOpen nw hnw) (As := []) (nn := 0) (stk := [.ref (ad 0)]) (ci := 9) dX9_commit_16 gX9_commit_X9_requireOpen ⟨rfl, by decide, by decide, by decide +kernel⟩ (by omega) la_0 rfl rfl rfl (by decide) rfl rfl (Nat.le_of_ble_eq_true rfl) (by decide) h (fun r1 m2 h => ?_)
    show V 1 19 [(0, .ref (ad 0)), (1, .int p1)] [] m2
    refine r_aload_n C dX9_commit_19 rfl 0 rfl ?_
    refine r_geti C (ci := 9) (k9 := 7) dX9_commit_20 rfl F_i9 (by decide) F_k50 (by omega) la_0 rfl ?_
    refine r_if_ne C (tgt := 36) dX9_commit_23 (by decide) h (fun _ h => ?_) (fun _ h => ?_)
    · skip
      exact r_throw C (text := "no slot is ready") (names := ["java/lang/RuntimeException", "java/lang/Exception"]) dX9_commit_26 dX9_commit_29 dX9_commit_30 dX9_commit_32 dX9_commit_35 (by decide) (by decide) F_q117 F_u117 F_z121 F_y121 F_v121 (by decide +kernel) (by decide +kernel) (by decide) (Nat.le_of_ble_eq_true rfl) (by decide) h
    · skip
      refine r_aload_n C dX9_commit_36 rfl 0 rfl ?_
      refine r_getr C (ci := 9) (k9 := 1) dX9_commit_37 rfl F_i9 (by decide) F_k19 (by omega) la_0 rfl ?_
      refine r_geti C (ci := 8) (k9 := 3) dX9_commit_40 rfl F_i8 (by decide) F_k101 (by omega) la_36 rfl ?_
      refine r_ldc C dX9_commit_43 F_w248 ?_
      refine r_icmp_lt C (tgt := 58) dX9_commit_45 (by decide) h (fun _ h => ?_) (fun _ h => ?_)
      · skip
        refine r_aload_n C dX9_commit_58 rfl 0 rfl ?_
        refine r_callV C (c_X9_prepareNext nw hnw) (As := []) (nn := 0) (stk := [.ref (ad 0)]) (ci := 9) dX9_commit_59 gX9_commit_X9_prepareNext ⟨rfl, by decide, by decide, by decide +kernel⟩ (by omega) la_0 rfl rfl rfl (by decide) rfl rfl (Nat.le_of_ble_eq_true rfl) (by decide) h (fun r3 m4 h => ?_)
        show V 1 62 [(0, .ref (ad 0)), (1, .int p1)] [] m4
        refine r_aload_n C dX9_commit_62 rfl 0 rfl ?_
        refine r_callV C (c_X9_freeBlocks nw hnw) (As := []) (nn := 0) (stk := [.ref (ad 0)]) (ci := 9) dX9_commit_63 gX9_commit_X9_freeBlocks ⟨rfl, by decide, by decide, by decide +kernel⟩ (by omega) la_0 rfl rfl rfl (by decide) rfl rfl (Nat.le_of_ble_eq_true rfl) (by decide) h (fun r5 m6 h => ?_)
        show V 1 66 [(0, .ref (ad 0)), (1, .int p1)] [.long r5] m6
        refine r_callS C (c_J13_bitCount_95d88 nw hnw r5) (As := [.long r5]) (nn := 1) (stk := [.long r5]) dX9_commit_66 gX9_commit_J13_bitCount_95d88 ⟨by decide, by decide, by decide +kernel⟩ rfl rfl (by decide) rfl rfl (Nat.le_of_ble_eq_true rfl) (by decide) h (fun r7 m8 h => ?_)
        show V 1 69 [(0, .ref (ad 0)), (1, .int p1)] [.int r7] m8
        refine r_aload_n C dX9_commit_69 rfl 0 rfl ?_
        refine r_callV C (c_X9_dataBlocksOfNext nw hnw) (As := []) (nn := 0) (stk := [.ref (ad 0), .int r7]) (ci := 9) dX9_commit_70 gX9_commit_X9_dataBlocksOfNext ⟨rfl, by decide, by decide, by decide +kernel⟩ (by omega) la_0 rfl rfl rfl (by decide) rfl rfl (Nat.le_of_ble_eq_true rfl) (by decide) h (fun r9 m10 h => ?_)
        show V 1 73 [(0, .ref (ad 0)), (1, .int p1)] [.int r9, .int r7] m10
        refine r_icmp_ge C (tgt := 87) dX9_commit_73 (by decide) h (fun _ h => ?_) (fun _ h => ?_)
        · skip
          refine r_aload_n C dX9_commit_87 rfl 0 rfl ?_
          refine r_callV C (c_X9_placeNext nw hnw) (As := []) (nn := 0) (stk := [.ref (ad 0)]) (ci := 9) dX9_commit_88 gX9_commit_X9_placeNext ⟨rfl, by decide, by decide, by decide +kernel⟩ (by omega) la_0 rfl rfl rfl (by decide) rfl rfl (Nat.le_of_ble_eq_true rfl) (by decide) h (fun r11 m12 h => ?_)
          show V 1 91 [(0, .ref (ad 0)), (1, .int p1)] [] m12
          refine r_aload_n C dX9_commit_91 rfl 0 rfl ?_
          refine r_iload_n C dX9_commit_92 rfl 1 rfl ?_
          refine r_callV C (c_X9_writeNext nw hnw p1) (As := [.int p1]) (nn := 1) (stk := [.int p1, .ref (ad 0)]) (ci := 9) dX9_commit_93 gX9_commit_X9_writeNext ⟨rfl, by decide, by decide, by decide +kernel⟩ (by omega) la_0 rfl rfl rfl (by decide) rfl rfl (Nat.le_of_ble_eq_true rfl) (by decide) h (fun r13 m14 h => ?_)
          show V 1 96 [(0, .ref (ad 0)), (1, .int p1)] [] m14
          refine r_aload_n C dX9_commit_96 rfl 0 rfl ?_
          refine r_callV C (c_X9_endCommit nw hnw) (As := []) (nn := 0) (stk := [.ref (ad 0)]) (ci := 9) dX9_commit_97 gX9_commit_X9_endCommit ⟨rfl, by decide, by decide, by decide +kernel⟩ (by omega) la_0 rfl rfl rfl (by decide) rfl rfl (Nat.le_of_ble_eq_true rfl) (by decide) h (fun r15 m16 h => ?_)
          show V 1 100 [(0, .ref (ad 0)), (1, .int p1)] [.int r15] m16
          exact r_iret C dX9_commit_100 rfl h
        · skip
          exact r_throwW C (text := "there are not enough free blocks") (names := ["java/lang/RuntimeException", "java/lang/Exception"]) dX9_commit_76 dX9_commit_79 dX9_commit_80 dX9_commit_83 dX9_commit_86 (by decide) (by decide) F_q249 F_u249 F_z253 F_y253 F_v253 (by decide +kernel) (by decide +kernel) (by decide) (Nat.le_of_ble_eq_true rfl) (by decide) h
      · skip
        exact r_throw C (text := "the commit numbers are used up") (names := ["java/lang/RuntimeException", "java/lang/Exception"]) dX9_commit_48 dX9_commit_51 dX9_commit_52 dX9_commit_54 dX9_commit_57 (by decide) (by decide) F_q249 F_u249 F_z253 F_y253 F_v253 (by decide +kernel) (by decide +kernel) (by decide) (Nat.le_of_ble_eq_true rfl) (by decide) h
  · skip
    exact r_throw C (text := "fewer blocks than -1") (names := ["java/lang/RuntimeException", "java/lang/Exception"]) dX9_commit_5 dX9_commit_8 dX9_commit_9 dX9_commit_11 dX9_commit_14 (by decide) (by decide) F_q130 F_u130 F_z134 F_y134 F_v134 (by decide +kernel) (by decide +kernel) (by decide) (Nat.le_of_ble_eq_true rfl) (by decide) h
noncomputable def f_X1_hasRightChecksum (p1 : Int32) (m : sM) : Option (sR Int32) :=
  s_ix p1 32 fun j1 => s_ix 12 13 fun j2 => s_bd (f_X1_computeChecksum p1 m) fun r3 m4 => s_jn (fun (s0_22 : Int32) => s_gd (s0_22 = 0 ∨ s0_22 = 1) (some (.inl s0_22, m4))) fun k22 => if (m.1 (4 + 1 * j1) j2) = r3 then (k22 1) else (k22 0)
set_option maxRecDepth 20000 in
set_option maxHeartbeats 4000000 in
theorem c_X1_hasRightChecksum (nw : Nat) (hnw : 109 ≤ nw) (p1 : Int32) : s_Con s_i 0 nw yX1_hasRightChecksum wsX1_hasRightChecksum 14 185 0 (f_X1_hasRightChecksum p1) (fun ad => [.ref (ad 1), .int p1]) := by
  refine s_con_of cX1_hasRightChecksum 2 (some .boolean) RX1 (by decide) rfl rfl (fun _ => Nat.le_of_ble_eq_true rfl) (fun ad m res V C h => ?_)
  unfold f_X1_hasRightChecksum at h
  have F_i1 : ∀ w ∈ wsX10, w ∈ wsX1_hasRightChecksum := by decide +kernel
  have F_k11 : Cond.fieldLink RX1 11 "ShadowFile$Disk" "cells" "[[I" ∈ wsX1_hasRightChecksum := by decide +kernel
  show V 0 0 [(0, .ref (ad 1)), (1, .int p1)] [] m
  refine r_aload_n C dX1_hasRightChecksum_0 rfl 0 rfl ?_
  refine r_getr C (ci := 1) (k9 := 0) dX1_hasRightChecksum_1 rfl F_i1 (by decide) F_k11 (by omega) la_1 rfl ?_
  refine r_iload_n C dX1_hasRightChecksum_4 rfl 1 rfl ?_
  refine r_aald C (b0 := 4) (d0 := 1) dX1_hasRightChecksum_5 (by omega) la_2 (fun _ => rfl) rfl h (fun j1 hj1 h => ?_)
  refine r_bipush C (v := 12) dX1_hasRightChecksum_6 (by decide) ?_
  refine r_iald C dX1_hasRightChecksum_8 (by have := isRow_b (isRow_d hj1); omega) (isRow_0 (isRow_d hj1)) h (fun j2 hj2 h => ?_)
  refine r_aload_n C dX1_hasRightChecksum_9 rfl 0 rfl ?_
  refine r_iload_n C dX1_hasRightChecksum_10 rfl 1 rfl ?_
  refine r_callV C (c_X1_computeChecksum nw hnw p1) (As := [.int p1]) (nn := 1) (stk := [.int p1, .ref (ad 1), .int (m.1 (4 + 1 * j1) j2)]) (ci := 1) dX1_hasRightChecksum_11 gX1_hasRightChecksum_X1_computeChecksum ⟨rfl, by decide, by decide, by decide +kernel⟩ (by omega) la_1 rfl rfl rfl (by decide) rfl rfl (Nat.le_of_ble_eq_true rfl) (by decide) h (fun r3 m4 h => ?_)
  show V 0 14 [(0, .ref (ad 1)), (1, .int p1)] [.int r3, .int (m.1 (4 + 1 * j1) j2)] m4
  refine s_join h (fun k22 => ∀ (s0_22 : Int32), k22 s0_22 = some res → V 0 22 [] [.int s0_22] m4) ?_ (fun k22 hk22 h => ?_)
  · intro s0_22 h
    obtain ⟨hg, h⟩ := s_gd_of h
    exact r_zret C dX1_hasRightChecksum_22 rfl (s_z hg) h
  refine r_icmp_ne C (tgt := 21) dX1_hasRightChecksum_14 (by decide) h (fun _ h => ?_) (fun _ h => ?_)
  · skip
    refine r_iconst C (v := 1) dX1_hasRightChecksum_17 (by decide) ?_
    refine r_goto C (tgt := 22) dX1_hasRightChecksum_18 (by decide) ?_
    refine r_sub C [] (show _ = [] from rfl) ?_
    exact hk22 1 h
  · skip
    refine r_iconst C (v := 0) dX1_hasRightChecksum_21 (by decide) ?_
    refine r_sub C [] (show _ = [] from rfl) ?_
    exact hk22 0 h
noncomputable def f_X1_isValidForm (p1 : Int32) (p2 : Int32) (m : sM) : Option (sR Int32) :=
  s_bd (f_X1_hasRightChecksum p1 m) fun r1 m2 => s_jn (fun (s0_25 : Int32) => s_gd (s0_25 = 0 ∨ s0_25 = 1) (some (.inl s0_25, m2))) fun k25 => s_jn (k25 0) fun k24 => if r1 = 0 then (k24) else (s_ix p1 32 fun j3 => s_ix 0 13 fun j4 => if (m2.1 (4 + 1 * j3) j4) = p2 then (k25 1) else (k24))
set_option maxRecDepth 20000 in
set_option maxHeartbeats 4000000 in
theorem c_X1_isValidForm (nw : Nat) (hnw : 109 ≤ nw) (p1 : Int32) (p2 : Int32) : s_Con s_i 0 nw yX1_isValidForm wsX1_isValidForm 16 230 0 (f_X1_isValidForm p1 p2) (fun ad => [.ref (ad 1), .int p1, .int p2]) := by
  refine s_con_of cX1_isValidForm 3 (some .boolean) RX1 (by decide) rfl rfl (fun _ => Nat.le_of_ble_eq_true rfl) (fun ad m res V C h => ?_)
  unfold f_X1_isValidForm at h
  have F_i1 : ∀ w ∈ wsX10, w ∈ wsX1_isValidForm := by decide +kernel
  have F_k11 : Cond.fieldLink RX1 11 "ShadowFile$Disk" "cells" "[[I" ∈ wsX1_isValidForm := by decide +kernel
  show V 0 0 [(0, .ref (ad 1)), (1, .int p1), (2, .int p2)] [] m
  refine r_aload_n C dX1_isValidForm_0 rfl 0 rfl ?_
  refine r_iload_n C dX1_isValidForm_1 rfl 1 rfl ?_
  refine r_callV C (c_X1_hasRightChecksum nw hnw p1) (As := [.int p1]) (nn := 1) (stk := [.int p1, .ref (ad 1)]) (ci := 1) dX1_isValidForm_2 gX1_isValidForm_X1_hasRightChecksum ⟨rfl, by decide, by decide, by decide +kernel⟩ (by omega) la_1 rfl rfl rfl (by decide) rfl rfl (Nat.le_of_ble_eq_true rfl) (by decide) h (fun r1 m2 h => ?_)
  show V 0 5 [(0, .ref (ad 1)), (1, .int p1), (2, .int p2)] [.int r1] m2
  refine s_join h (fun k25 => ∀ (s0_25 : Int32), k25 s0_25 = some res → V 0 25 [] [.int s0_25] m2) ?_ (fun k25 hk25 h => ?_)
  · intro s0_25 h
    obtain ⟨hg, h⟩ := s_gd_of h
    exact r_zret C dX1_isValidForm_25 rfl (s_z hg) h
  refine s_join h (fun k24 => k24  = some res → V 0 24 [] [] m2) ?_ (fun k24 hk24 h => ?_)
  · intro  h
    refine r_iconst C (v := 0) dX1_isValidForm_24 (by decide) ?_
    exact hk25 0 h
  refine r_if_eq C (tgt := 24) dX1_isValidForm_5 (by decide) h (fun _ h => ?_) (fun _ h => ?_)
  · skip
    refine r_sub C [] (show _ = [] from rfl) ?_
    exact hk24 h
  · skip
    refine r_aload_n C dX1_isValidForm_8 rfl 0 rfl ?_
    refine r_getr C (ci := 1) (k9 := 0) dX1_isValidForm_9 rfl F_i1 (by decide) F_k11 (by omega) la_1 rfl ?_
    refine r_iload_n C dX1_isValidForm_12 rfl 1 rfl ?_
    refine r_aald C (b0 := 4) (d0 := 1) dX1_isValidForm_13 (by omega) la_2 (fun _ => rfl) rfl h (fun j3 hj3 h => ?_)
    refine r_iconst C (v := 0) dX1_isValidForm_14 (by decide) ?_
    refine r_iald C dX1_isValidForm_15 (by have := isRow_b (isRow_d hj3); omega) (isRow_0 (isRow_d hj3)) h (fun j4 hj4 h => ?_)
    refine r_iload_n C dX1_isValidForm_16 rfl 2 rfl ?_
    refine r_icmp_ne C (tgt := 24) dX1_isValidForm_17 (by decide) h (fun _ h => ?_) (fun _ h => ?_)
    · skip
      refine r_iconst C (v := 1) dX1_isValidForm_20 (by decide) ?_
      refine r_goto C (tgt := 25) dX1_isValidForm_21 (by decide) ?_
      refine r_sub C [] (show _ = [] from rfl) ?_
      exact hk25 1 h
    · skip
      refine r_sub C [] (show _ = [] from rfl) ?_
      exact hk24 h
noncomputable def f_X1_isDataBlock (p0 : Int32) (m : sM) : Option (sR Int32) :=
  s_jn (fun (s0_16 : Int32) => s_gd (s0_16 = 0 ∨ s0_16 = 1) (some (.inl s0_16, m))) fun k16 => s_jn (k16 0) fun k15 => if p0 < 2 then (k15) else (if 32 ≤ p0 then (k15) else (k16 1))
set_option maxRecDepth 20000 in
set_option maxHeartbeats 4000000 in
theorem c_X1_isDataBlock (nw : Nat) (hnw : 109 ≤ nw) (p0 : Int32) : s_Con s_i 0 nw yX1_isDataBlock wsX1_isDataBlock 12 140 0 (f_X1_isDataBlock p0) (fun ad => [.int p0]) := by
  refine s_con_of cX1_isDataBlock 1 (some .boolean) RX1 (by decide) rfl rfl (fun _ => Nat.le_of_ble_eq_true rfl) (fun ad m res V C h => ?_)
  unfold f_X1_isDataBlock at h
  show V 0 0 [(0, .int p0)] [] m
  refine r_iload_n C dX1_isDataBlock_0 rfl 0 rfl ?_
  refine r_iconst C (v := 2) dX1_isDataBlock_1 (by decide) ?_
  refine s_join h (fun k16 => ∀ (s0_16 : Int32), k16 s0_16 = some res → V 0 16 [] [.int s0_16] m) ?_ (fun k16 hk16 h => ?_)
  · intro s0_16 h
    obtain ⟨hg, h⟩ := s_gd_of h
    exact r_zret C dX1_isDataBlock_16 rfl (s_z hg) h
  refine s_join h (fun k15 => k15  = some res → V 0 15 [] [] m) ?_ (fun k15 hk15 h => ?_)
  · intro  h
    refine r_iconst C (v := 0) dX1_isDataBlock_15 (by decide) ?_
    exact hk16 0 h
  refine r_icmp_lt C (tgt := 15) dX1_isDataBlock_2 (by decide) h (fun _ h => ?_) (fun _ h => ?_)
  · skip
    refine r_sub C [] (show _ = [] from rfl) ?_
    exact hk15 h
  · skip
    refine r_iload_n C dX1_isDataBlock_5 rfl 0 rfl ?_
    refine r_bipush C (v := 32) dX1_isDataBlock_6 (by decide) ?_
    refine r_icmp_ge C (tgt := 15) dX1_isDataBlock_8 (by decide) h (fun _ h => ?_) (fun _ h => ?_)
    · skip
      refine r_sub C [] (show _ = [] from rfl) ?_
      exact hk15 h
    · skip
      refine r_iconst C (v := 1) dX1_isDataBlock_11 (by decide) ?_
      refine r_goto C (tgt := 16) dX1_isDataBlock_12 (by decide) ?_
      refine r_sub C [] (show _ = [] from rfl) ?_
      exact hk16 1 h
noncomputable def f_X1_isUsablePage (p1 : Int32) (p2 : Int32) (m : sM) : Option (sR Int32) :=
  s_bd (f_X1_isDataBlock p1 m) fun r1 m2 => s_jn (fun (s0_33 : Int32) (m33_ : sM) => s_gd (s0_33 = 0 ∨ s0_33 = 1) (some (.inl s0_33, m33_))) fun k33 => s_jn (fun (m32_ : sM) => k33 0 m32_) fun k32 => if r1 = 0 then (k32  m2) else (s_bd (f_X1_isValidForm p1 3 m2) fun r3 m4 => if r3 = 0 then (k32  m4) else (s_ix p1 32 fun j5 => s_ix 2 13 fun j6 => if (m4.1 (4 + 1 * j5) j6) = p2 then (k33 1 m4) else (k32  m4)))
set_option maxRecDepth 20000 in
set_option maxHeartbeats 4000000 in
theorem c_X1_isUsablePage (nw : Nat) (hnw : 109 ≤ nw) (p1 : Int32) (p2 : Int32) : s_Con s_i 0 nw yX1_isUsablePage wsX1_isUsablePage 18 275 0 (f_X1_isUsablePage p1 p2) (fun ad => [.ref (ad 1), .int p1, .int p2]) := by
  refine s_con_of cX1_isUsablePage 3 (some .boolean) RX1 (by decide) rfl rfl (fun _ => Nat.le_of_ble_eq_true rfl) (fun ad m res V C h => ?_)
  unfold f_X1_isUsablePage at h
  have F_i1 : ∀ w ∈ wsX10, w ∈ wsX1_isUsablePage := by decide +kernel
  have F_k11 : Cond.fieldLink RX1 11 "ShadowFile$Disk" "cells" "[[I" ∈ wsX1_isUsablePage := by decide +kernel
  show V 0 0 [(0, .ref (ad 1)), (1, .int p1), (2, .int p2)] [] m
  refine r_iload_n C dX1_isUsablePage_0 rfl 1 rfl ?_
  refine r_callS C (c_X1_isDataBlock nw hnw p1) (As := [.int p1]) (nn := 1) (stk := [.int p1]) dX1_isUsablePage_1 gX1_isUsablePage_X1_isDataBlock ⟨by decide, by decide, by decide +kernel⟩ rfl rfl (by decide) rfl rfl (Nat.le_of_ble_eq_true rfl) (by decide) h (fun r1 m2 h => ?_)
  show V 0 4 [(0, .ref (ad 1)), (1, .int p1), (2, .int p2)] [.int r1] m2
  refine s_join h (fun k33 => ∀ (s0_33 : Int32) (m33_ : sM), k33 s0_33 m33_ = some res → V 0 33 [] [.int s0_33] m33_) ?_ (fun k33 hk33 h => ?_)
  · intro s0_33 m33_ h
    obtain ⟨hg, h⟩ := s_gd_of h
    exact r_zret C dX1_isUsablePage_33 rfl (s_z hg) h
  refine s_join h (fun k32 => ∀ (m32_ : sM), k32 m32_ = some res → V 0 32 [] [] m32_) ?_ (fun k32 hk32 h => ?_)
  · intro m32_ h
    refine r_iconst C (v := 0) dX1_isUsablePage_32 (by decide) ?_
    exact hk33 0 m32_ h
  refine r_if_eq C (tgt := 32) dX1_isUsablePage_4 (by decide) h (fun _ h => ?_) (fun _ h => ?_)
  · skip
    refine r_sub C [] (show _ = [] from rfl) ?_
    exact hk32 m2 h
  · skip
    refine r_aload_n C dX1_isUsablePage_7 rfl 0 rfl ?_
    refine r_iload_n C dX1_isUsablePage_8 rfl 1 rfl ?_
    refine r_iconst C (v := 3) dX1_isUsablePage_9 (by decide) ?_
    refine r_callV C (c_X1_isValidForm nw hnw p1 3) (As := [.int p1, .int 3]) (nn := 2) (stk := [.int 3, .int p1, .ref (ad 1)]) (ci := 1) dX1_isUsablePage_10 gX1_isUsablePage_X1_isValidForm ⟨rfl, by decide, by decide, by decide +kernel⟩ (by omega) la_1 rfl rfl rfl (by decide) rfl rfl (Nat.le_of_ble_eq_true rfl) (by decide) h (fun r3 m4 h => ?_)
    show V 0 13 [(0, .ref (ad 1)), (1, .int p1), (2, .int p2)] [.int r3] m4
    refine r_if_eq C (tgt := 32) dX1_isUsablePage_13 (by decide) h (fun _ h => ?_) (fun _ h => ?_)
    · skip
      refine r_sub C [] (show _ = [] from rfl) ?_
      exact hk32 m4 h
    · skip
      refine r_aload_n C dX1_isUsablePage_16 rfl 0 rfl ?_
      refine r_getr C (ci := 1) (k9 := 0) dX1_isUsablePage_17 rfl F_i1 (by decide) F_k11 (by omega) la_1 rfl ?_
      refine r_iload_n C dX1_isUsablePage_20 rfl 1 rfl ?_
      refine r_aald C (b0 := 4) (d0 := 1) dX1_isUsablePage_21 (by omega) la_2 (fun _ => rfl) rfl h (fun j5 hj5 h => ?_)
      refine r_iconst C (v := 2) dX1_isUsablePage_22 (by decide) ?_
      refine r_iald C dX1_isUsablePage_23 (by have := isRow_b (isRow_d hj5); omega) (isRow_0 (isRow_d hj5)) h (fun j6 hj6 h => ?_)
      refine r_iload_n C dX1_isUsablePage_24 rfl 2 rfl ?_
      refine r_icmp_ne C (tgt := 32) dX1_isUsablePage_25 (by decide) h (fun _ h => ?_) (fun _ h => ?_)
      · skip
        refine r_iconst C (v := 1) dX1_isUsablePage_28 (by decide) ?_
        refine r_goto C (tgt := 33) dX1_isUsablePage_29 (by decide) ?_
        refine r_sub C [] (show _ = [] from rfl) ?_
        exact hk33 1 m4 h
      · skip
        refine r_sub C [] (show _ = [] from rfl) ?_
        exact hk32 m4 h
noncomputable def f_X1_isUsableTable_L32 (y1_32 : Int32) (e74_32 : sM → Option (sR Int32)) (e66_32 : sM → Option (sR Int32)) : Nat → Int32 → sM → Option (sR Int32)
  | 0, _, _ => none
  | n + 1, x3_32, m32_ =>
    if 8 ≤ x3_32 then (e74_32  m32_) else (s_ix y1_32 32 fun j7 => s_ix (4 + x3_32) 13 fun j8 => s_jn (fun (m68_ : sM) => f_X1_isUsableTable_L32 y1_32 e74_32 e66_32 n (x3_32 + 1) m68_) fun k68 => if (m32_.1 (4 + 1 * j7) j8) = (-1) then (k68  m32_) else (s_bd (f_X1_isUsablePage (m32_.1 (4 + 1 * j7) j8) x3_32 m32_) fun r9 m10 => if r9 = 0 then (e66_32  m10) else (k68  m10)))
noncomputable def f_X1_isUsableTable (p1 : Int32) (p2 : Int32) (m : sM) : Option (sR Int32) :=
  s_bd (f_X1_isDataBlock p1 m) fun r1 m2 => s_jn (fun (m28_ : sM) => some (.inl 0, m28_)) fun k28 => if r1 = 0 then (k28  m2) else (s_bd (f_X1_isValidForm p1 2 m2) fun r3 m4 => if r3 = 0 then (k28  m4) else (s_ix p1 32 fun j5 => s_ix 1 13 fun j6 => if (m4.1 (4 + 1 * j5) j6) = p2 then (s_jn (fun (m74_ : sM) => some (.inl 1, m74_)) fun e74_32 => s_jn (fun (m66_ : sM) => some (.inl 0, m66_)) fun e66_32 => f_X1_isUsableTable_L32 p1 e74_32 e66_32 5000 0 m4) else (k28  m4)))
set_option maxRecDepth 20000 in
set_option maxHeartbeats 4000000 in
theorem c_X1_isUsableTable (nw : Nat) (hnw : 109 ≤ nw) (p1 : Int32) (p2 : Int32) : s_Con s_i 0 nw yX1_isUsableTable wsX1_isUsableTable 20 320 0 (f_X1_isUsableTable p1 p2) (fun ad => [.ref (ad 1), .int p1, .int p2]) := by
  refine s_con_of cX1_isUsableTable 5 (some .boolean) RX1 (by decide) rfl rfl (fun _ => Nat.le_of_ble_eq_true rfl) (fun ad m res V C h => ?_)
  unfold f_X1_isUsableTable at h
  have F_i1 : ∀ w ∈ wsX10, w ∈ wsX1_isUsableTable := by decide +kernel
  have F_k11 : Cond.fieldLink RX1 11 "ShadowFile$Disk" "cells" "[[I" ∈ wsX1_isUsableTable := by decide +kernel
  show V 0 0 [(0, .ref (ad 1)), (1, .int p1), (2, .int p2)] [] m
  refine r_iload_n C dX1_isUsableTable_0 rfl 1 rfl ?_
  refine r_callS C (c_X1_isDataBlock nw hnw p1) (As := [.int p1]) (nn := 1) (stk := [.int p1]) dX1_isUsableTable_1 gX1_isUsableTable_X1_isDataBlock ⟨by decide, by decide, by decide +kernel⟩ rfl rfl (by decide) rfl rfl (Nat.le_of_ble_eq_true rfl) (by decide) h (fun r1 m2 h => ?_)
  show V 0 4 [(0, .ref (ad 1)), (1, .int p1), (2, .int p2)] [.int r1] m2
  refine s_join h (fun k28 => ∀ (m28_ : sM), k28 m28_ = some res → V 0 28 [] [] m28_) ?_ (fun k28 hk28 h => ?_)
  · intro m28_ h
    refine r_iconst C (v := 0) dX1_isUsableTable_28 (by decide) ?_
    exact r_zret C dX1_isUsableTable_29 rfl (by decide) h
  refine r_if_eq C (tgt := 28) dX1_isUsableTable_4 (by decide) h (fun _ h => ?_) (fun _ h => ?_)
  · skip
    refine r_sub C [] (show _ = [] from rfl) ?_
    exact hk28 m2 h
  · skip
    refine r_aload_n C dX1_isUsableTable_7 rfl 0 rfl ?_
    refine r_iload_n C dX1_isUsableTable_8 rfl 1 rfl ?_
    refine r_iconst C (v := 2) dX1_isUsableTable_9 (by decide) ?_
    refine r_callV C (c_X1_isValidForm nw hnw p1 2) (As := [.int p1, .int 2]) (nn := 2) (stk := [.int 2, .int p1, .ref (ad 1)]) (ci := 1) dX1_isUsableTable_10 gX1_isUsableTable_X1_isValidForm ⟨rfl, by decide, by decide, by decide +kernel⟩ (by omega) la_1 rfl rfl rfl (by decide) rfl rfl (Nat.le_of_ble_eq_true rfl) (by decide) h (fun r3 m4 h => ?_)
    show V 0 13 [(0, .ref (ad 1)), (1, .int p1), (2, .int p2)] [.int r3] m4
    refine r_if_eq C (tgt := 28) dX1_isUsableTable_13 (by decide) h (fun _ h => ?_) (fun _ h => ?_)
    · skip
      refine r_sub C [] (show _ = [] from rfl) ?_
      exact hk28 m4 h
    · skip
      refine r_aload_n C dX1_isUsableTable_16 rfl 0 rfl ?_
      refine r_getr C (ci := 1) (k9 := 0) dX1_isUsableTable_17 rfl F_i1 (by decide) F_k11 (by omega) la_1 rfl ?_
      refine r_iload_n C dX1_isUsableTable_20 rfl 1 rfl ?_
      refine r_aald C (b0 := 4) (d0 := 1) dX1_isUsableTable_21 (by omega) la_2 (fun _ => rfl) rfl h (fun j5 hj5 h => ?_)
      refine r_iconst C (v := 1) dX1_isUsableTable_22 (by decide) ?_
      refine r_iald C dX1_isUsableTable_23 (by have := isRow_b (isRow_d hj5); omega) (isRow_0 (isRow_d hj5)) h (fun j6 hj6 h => ?_)
      refine r_iload_n C dX1_isUsableTable_24 rfl 2 rfl ?_
      refine r_icmp_eq C (tgt := 30) dX1_isUsableTable_25 (by decide) h (fun _ h => ?_) (fun _ h => ?_)
      · skip
        refine r_iconst C (v := 0) dX1_isUsableTable_30 (by decide) ?_
        refine r_istore_n C dX1_isUsableTable_31 rfl (by decide) (show _ = [(3, .int 0), (0, .ref (ad 1)), (1, .int p1), (2, .int p2)] from rfl) ?_
        refine s_join h (fun e74_32 => ∀ (m74_ : sM), e74_32 m74_ = some res → V 0 74 [] [] m74_) ?_ (fun e74_32 he74_32 h => ?_)
        · intro m74_ h
          refine r_iconst C (v := 1) dX1_isUsableTable_74 (by decide) ?_
          exact r_zret C dX1_isUsableTable_75 rfl (by decide) h
        refine s_join h (fun e66_32 => ∀ (m66_ : sM), e66_32 m66_ = some res → V 0 66 [] [] m66_) ?_ (fun e66_32 he66_32 h => ?_)
        · intro m66_ h
          refine r_iconst C (v := 0) dX1_isUsableTable_66 (by decide) ?_
          exact r_zret C dX1_isUsableTable_67 rfl (by decide) h
        have L32 : ∀ (n : Nat) (x3_32 : Int32) (m32_ : sM), f_X1_isUsableTable_L32 p1 e74_32 e66_32 n x3_32 m32_ = some res → V 0 32 [(0, .ref (ad 1)), (1, .int p1), (3, .int x3_32)] [] m32_ := by
          intro n
          induction n with
          | zero => intro x3_32 m32_ h; rw [f_X1_isUsableTable_L32] at h; cases h
          | succ n ih =>
            intro x3_32 m32_ h
            rw [f_X1_isUsableTable_L32] at h
            refine r_iload_n C dX1_isUsableTable_32 rfl 2 rfl ?_
            refine r_bipush C (v := 8) dX1_isUsableTable_33 (by decide) ?_
            refine r_icmp_ge C (tgt := 74) dX1_isUsableTable_35 (by decide) h (fun _ h => ?_) (fun _ h => ?_)
            · skip
              refine r_sub C [] (show _ = [] from rfl) ?_
              exact he74_32 m32_ h
            · skip
              refine r_aload_n C dX1_isUsableTable_38 rfl 0 rfl ?_
              refine r_getr C (ci := 1) (k9 := 0) dX1_isUsableTable_39 rfl F_i1 (by decide) F_k11 (by omega) la_1 rfl ?_
              refine r_iload_n C dX1_isUsableTable_42 rfl 1 rfl ?_
              refine r_aald C (b0 := 4) (d0 := 1) dX1_isUsableTable_43 (by omega) la_2 (fun _ => rfl) rfl h (fun j7 hj7 h => ?_)
              refine r_iconst C (v := 4) dX1_isUsableTable_44 (by decide) ?_
              refine r_iload_n C dX1_isUsableTable_45 rfl 2 rfl ?_
              refine r_iadd C dX1_isUsableTable_46 ?_
              refine r_iald C dX1_isUsableTable_47 (by have := isRow_b (isRow_d hj7); omega) (isRow_0 (isRow_d hj7)) h (fun j8 hj8 h => ?_)
              refine r_istore C dX1_isUsableTable_48 (by decide) (show _ = [(4, .int (m32_.1 (4 + 1 * j7) j8)), (0, .ref (ad 1)), (1, .int p1), (3, .int x3_32)] from rfl) ?_
              refine r_iload C dX1_isUsableTable_50 0 rfl ?_
              refine r_iconst C (v := -1) dX1_isUsableTable_52 (by decide) ?_
              refine s_join h (fun k68 => ∀ (m68_ : sM), k68 m68_ = some res → V 0 68 [(0, .ref (ad 1)), (1, .int p1), (3, .int x3_32)] [] m68_) ?_ (fun k68 hk68 h => ?_)
              · intro m68_ h
                refine r_iinc C (v := x3_32 + 1) dX1_isUsableTable_68 2 rfl rfl (by decide) (show _ = [(3, .int (x3_32 + 1)), (0, .ref (ad 1)), (1, .int p1)] from rfl) ?_
                refine r_goto C (tgt := 32) dX1_isUsableTable_71 (by decide) ?_
                refine r_sub C [1, 2, 0] (show _ = [(0, .ref (ad 1)), (1, .int p1), (3, .int (x3_32 + 1))] from rfl) ?_
                exact ih (x3_32 + 1) m68_ h
              refine r_icmp_eq C (tgt := 68) dX1_isUsableTable_53 (by decide) h (fun _ h => ?_) (fun _ h => ?_)
              · skip
                refine r_sub C [1, 2, 3] (show _ = [(0, .ref (ad 1)), (1, .int p1), (3, .int x3_32)] from rfl) ?_
                exact hk68 m32_ h
              · skip
                refine r_aload_n C dX1_isUsableTable_56 rfl 1 rfl ?_
                refine r_iload C dX1_isUsableTable_57 0 rfl ?_
                refine r_iload_n C dX1_isUsableTable_59 rfl 3 rfl ?_
                refine r_callV C (c_X1_isUsablePage nw hnw (m32_.1 (4 + 1 * j7) j8) x3_32) (As := [.int (m32_.1 (4 + 1 * j7) j8), .int x3_32]) (nn := 2) (stk := [.int x3_32, .int (m32_.1 (4 + 1 * j7) j8), .ref (ad 1)]) (ci := 1) dX1_isUsableTable_60 gX1_isUsableTable_X1_isUsablePage ⟨rfl, by decide, by decide, by decide +kernel⟩ (by omega) la_1 rfl rfl rfl (by decide) rfl rfl (Nat.le_of_ble_eq_true rfl) (by decide) h (fun r9 m10 h => ?_)
                show V 0 63 [(4, .int (m32_.1 (4 + 1 * j7) j8)), (0, .ref (ad 1)), (1, .int p1), (3, .int x3_32)] [.int r9] m10
                refine r_if_ne C (tgt := 68) dX1_isUsableTable_63 (by decide) h (fun _ h => ?_) (fun _ h => ?_)
                · skip
                  refine r_sub C [] (show _ = [] from rfl) ?_
                  exact he66_32 m10 h
                · skip
                  refine r_sub C [1, 2, 3] (show _ = [(0, .ref (ad 1)), (1, .int p1), (3, .int x3_32)] from rfl) ?_
                  exact hk68 m10 h
        refine r_sub C [1, 2, 0] (show _ = [(0, .ref (ad 1)), (1, .int p1), (3, .int 0)] from rfl) ?_
        exact L32 5000 0 m4 h
      · skip
        refine r_sub C [] (show _ = [] from rfl) ?_
        exact hk28 m4 h
noncomputable def f_X1_isUsableRoot (p1 : Int32) (m : sM) : Option (sR Int32) :=
  s_ix p1 32 fun j1 => s_ix 1 13 fun j2 => s_bd (f_X1_isValidForm p1 1 m) fun r3 m4 => s_jn (fun (s0_49 : Int32) (m49_ : sM) => s_gd (s0_49 = 0 ∨ s0_49 = 1) (some (.inl s0_49, m49_))) fun k49 => s_jn (fun (m48_ : sM) => k49 0 m48_) fun k48 => if r3 = 0 then (k48  m4) else (if (m.1 (4 + 1 * j1) j2) < 0 then (k48  m4) else (if 999999 < (m.1 (4 + 1 * j1) j2) then (k48  m4) else (s_ix p1 32 fun j5 => s_ix 2 13 fun j6 => s_bd (f_X1_isUsableTable (m4.1 (4 + 1 * j5) j6) (m.1 (4 + 1 * j1) j2) m4) fun r7 m8 => if r7 = 0 then (k48  m8) else (k49 1 m8))))
set_option maxRecDepth 20000 in
set_option maxHeartbeats 4000000 in
theorem c_X1_isUsableRoot (nw : Nat) (hnw : 109 ≤ nw) (p1 : Int32) : s_Con s_i 0 nw yX1_isUsableRoot wsX1_isUsableRoot 22 365 0 (f_X1_isUsableRoot p1) (fun ad => [.ref (ad 1), .int p1]) := by
  refine s_con_of cX1_isUsableRoot 3 (some .boolean) RX1 (by decide) rfl rfl (fun _ => Nat.le_of_ble_eq_true rfl) (fun ad m res V C h => ?_)
  unfold f_X1_isUsableRoot at h
  have F_i1 : ∀ w ∈ wsX10, w ∈ wsX1_isUsableRoot := by decide +kernel
  have F_k11 : Cond.fieldLink RX1 11 "ShadowFile$Disk" "cells" "[[I" ∈ wsX1_isUsableRoot := by decide +kernel
  have F_w44 : Cond.constant RX1 44 (999999) ∈ wsX1_isUsableRoot := by decide +kernel
  show V 0 0 [(0, .ref (ad 1)), (1, .int p1)] [] m
  refine r_aload_n C dX1_isUsableRoot_0 rfl 0 rfl ?_
  refine r_getr C (ci := 1) (k9 := 0) dX1_isUsableRoot_1 rfl F_i1 (by decide) F_k11 (by omega) la_1 rfl ?_
  refine r_iload_n C dX1_isUsableRoot_4 rfl 1 rfl ?_
  refine r_aald C (b0 := 4) (d0 := 1) dX1_isUsableRoot_5 (by omega) la_2 (fun _ => rfl) rfl h (fun j1 hj1 h => ?_)
  refine r_iconst C (v := 1) dX1_isUsableRoot_6 (by decide) ?_
  refine r_iald C dX1_isUsableRoot_7 (by have := isRow_b (isRow_d hj1); omega) (isRow_0 (isRow_d hj1)) h (fun j2 hj2 h => ?_)
  refine r_istore_n C dX1_isUsableRoot_8 rfl (by decide) (show _ = [(2, .int (m.1 (4 + 1 * j1) j2)), (0, .ref (ad 1)), (1, .int p1)] from rfl) ?_
  refine r_aload_n C dX1_isUsableRoot_9 rfl 1 rfl ?_
  refine r_iload_n C dX1_isUsableRoot_10 rfl 2 rfl ?_
  refine r_iconst C (v := 1) dX1_isUsableRoot_11 (by decide) ?_
  refine r_callV C (c_X1_isValidForm nw hnw p1 1) (As := [.int p1, .int 1]) (nn := 2) (stk := [.int 1, .int p1, .ref (ad 1)]) (ci := 1) dX1_isUsableRoot_12 gX1_isUsableRoot_X1_isValidForm ⟨rfl, by decide, by decide, by decide +kernel⟩ (by omega) la_1 rfl rfl rfl (by decide) rfl rfl (Nat.le_of_ble_eq_true rfl) (by decide) h (fun r3 m4 h => ?_)
  show V 0 15 [(2, .int (m.1 (4 + 1 * j1) j2)), (0, .ref (ad 1)), (1, .int p1)] [.int r3] m4
  refine s_join h (fun k49 => ∀ (s0_49 : Int32) (m49_ : sM), k49 s0_49 m49_ = some res → V 0 49 [] [.int s0_49] m49_) ?_ (fun k49 hk49 h => ?_)
  · intro s0_49 m49_ h
    obtain ⟨hg, h⟩ := s_gd_of h
    exact r_zret C dX1_isUsableRoot_49 rfl (s_z hg) h
  refine s_join h (fun k48 => ∀ (m48_ : sM), k48 m48_ = some res → V 0 48 [] [] m48_) ?_ (fun k48 hk48 h => ?_)
  · intro m48_ h
    refine r_iconst C (v := 0) dX1_isUsableRoot_48 (by decide) ?_
    exact hk49 0 m48_ h
  refine r_if_eq C (tgt := 48) dX1_isUsableRoot_15 (by decide) h (fun _ h => ?_) (fun _ h => ?_)
  · skip
    refine r_sub C [] (show _ = [] from rfl) ?_
    exact hk48 m4 h
  · skip
    refine r_iload_n C dX1_isUsableRoot_18 rfl 0 rfl ?_
    refine r_if_lt C (tgt := 48) dX1_isUsableRoot_19 (by decide) h (fun _ h => ?_) (fun _ h => ?_)
    · skip
      refine r_sub C [] (show _ = [] from rfl) ?_
      exact hk48 m4 h
    · skip
      refine r_iload_n C dX1_isUsableRoot_22 rfl 0 rfl ?_
      refine r_ldc C dX1_isUsableRoot_23 F_w44 ?_
      refine r_icmp_gt C (tgt := 48) dX1_isUsableRoot_25 (by decide) h (fun _ h => ?_) (fun _ h => ?_)
      · skip
        refine r_sub C [] (show _ = [] from rfl) ?_
        exact hk48 m4 h
      · skip
        refine r_aload_n C dX1_isUsableRoot_28 rfl 1 rfl ?_
        refine r_aload_n C dX1_isUsableRoot_29 rfl 1 rfl ?_
        refine r_getr C (ci := 1) (k9 := 0) dX1_isUsableRoot_30 rfl F_i1 (by decide) F_k11 (by omega) la_1 rfl ?_
        refine r_iload_n C dX1_isUsableRoot_33 rfl 2 rfl ?_
        refine r_aald C (b0 := 4) (d0 := 1) dX1_isUsableRoot_34 (by omega) la_2 (fun _ => rfl) rfl h (fun j5 hj5 h => ?_)
        refine r_iconst C (v := 2) dX1_isUsableRoot_35 (by decide) ?_
        refine r_iald C dX1_isUsableRoot_36 (by have := isRow_b (isRow_d hj5); omega) (isRow_0 (isRow_d hj5)) h (fun j6 hj6 h => ?_)
        refine r_iload_n C dX1_isUsableRoot_37 rfl 0 rfl ?_
        refine r_callV C (c_X1_isUsableTable nw hnw (m4.1 (4 + 1 * j5) j6) (m.1 (4 + 1 * j1) j2)) (As := [.int (m4.1 (4 + 1 * j5) j6), .int (m.1 (4 + 1 * j1) j2)]) (nn := 2) (stk := [.int (m.1 (4 + 1 * j1) j2), .int (m4.1 (4 + 1 * j5) j6), .ref (ad 1)]) (ci := 1) dX1_isUsableRoot_38 gX1_isUsableRoot_X1_isUsableTable ⟨rfl, by decide, by decide, by decide +kernel⟩ (by omega) la_1 rfl rfl rfl (by decide) rfl rfl (Nat.le_of_ble_eq_true rfl) (by decide) h (fun r7 m8 h => ?_)
        show V 0 41 [(2, .int (m.1 (4 + 1 * j1) j2)), (0, .ref (ad 1)), (1, .int p1)] [.int r7] m8
        refine r_if_eq C (tgt := 48) dX1_isUsableRoot_41 (by decide) h (fun _ h => ?_) (fun _ h => ?_)
        · skip
          refine r_sub C [] (show _ = [] from rfl) ?_
          exact hk48 m8 h
        · skip
          refine r_iconst C (v := 1) dX1_isUsableRoot_44 (by decide) ?_
          refine r_goto C (tgt := 49) dX1_isUsableRoot_45 (by decide) ?_
          refine r_sub C [] (show _ = [] from rfl) ?_
          exact hk49 1 m8 h
noncomputable def f_X9_usableRoot (m : sM) : Option (sR Int32) :=
  s_bd (f_X1_isUsableRoot 0 m) fun r1 m2 => s_bd (f_X1_isUsableRoot 1 m2) fun r3 m4 => s_jn (if r1 = 0 then (s_jn (fun (s0_72 : Int32) => some (.inl s0_72, m4)) fun k72 => if r3 = 0 then (k72 (-1)) else (k72 1)) else (some (.inl 0, m4))) fun k57 => if r1 = 0 then (k57) else (if r3 = 0 then (k57) else (s_ix 1 32 fun j5 => s_ix 1 13 fun j6 => s_ix 0 32 fun j7 => s_ix 1 13 fun j8 => s_jn (fun (s0_56 : Int32) => some (.inl s0_56, m4)) fun k56 => if (m4.1 (4 + 1 * j5) j6) ≤ (m4.1 (4 + 1 * j7) j8) then (k56 0) else (k56 1)))
set_option maxRecDepth 20000 in
set_option maxHeartbeats 4000000 in
theorem c_X9_usableRoot (nw : Nat) (hnw : 109 ≤ nw) : s_Con s_i 0 nw yX9_usableRoot wsX9_usableRoot 24 410 0 (f_X9_usableRoot) (fun ad => [.ref (ad 0)]) := by
  refine s_con_of cX9_usableRoot 3 (some .int) RX9 (by decide) rfl rfl (fun _ => Nat.le_of_ble_eq_true rfl) (fun ad m res V C h => ?_)
  unfold f_X9_usableRoot at h
  have F_i9 : ∀ w ∈ wsX90, w ∈ wsX9_usableRoot := by decide +kernel
  have F_k10 : Cond.fieldLink RX9 10 "ShadowFile" "disk" "LShadowFile$Disk;" ∈ wsX9_usableRoot := by decide +kernel
  have F_i1 : ∀ w ∈ wsX10, w ∈ wsX9_usableRoot := by decide +kernel
  have F_k329 : Cond.fieldLink RX9 329 "ShadowFile$Disk" "cells" "[[I" ∈ wsX9_usableRoot := by decide +kernel
  show V 0 0 [(0, .ref (ad 0))] [] m
  refine r_aload_n C dX9_usableRoot_0 rfl 0 rfl ?_
  refine r_getr C (ci := 9) (k9 := 0) dX9_usableRoot_1 rfl F_i9 (by decide) F_k10 (by omega) la_0 rfl ?_
  refine r_iconst C (v := 0) dX9_usableRoot_4 (by decide) ?_
  refine r_callV C (c_X1_isUsableRoot nw hnw 0) (As := [.int 0]) (nn := 1) (stk := [.int 0, .ref (ad 1)]) (ci := 1) dX9_usableRoot_5 gX9_usableRoot_X1_isUsableRoot ⟨rfl, by decide, by decide, by decide +kernel⟩ (by omega) la_1 rfl rfl rfl (by decide) rfl rfl (Nat.le_of_ble_eq_true rfl) (by decide) h (fun r1 m2 h => ?_)
  show V 0 8 [(0, .ref (ad 0))] [.int r1] m2
  refine r_istore_n C dX9_usableRoot_8 rfl (by decide) (show _ = [(1, .int r1), (0, .ref (ad 0))] from rfl) ?_
  refine r_aload_n C dX9_usableRoot_9 rfl 1 rfl ?_
  refine r_getr C (ci := 9) (k9 := 0) dX9_usableRoot_10 rfl F_i9 (by decide) F_k10 (by omega) la_0 rfl ?_
  refine r_iconst C (v := 1) dX9_usableRoot_13 (by decide) ?_
  refine r_callV C (c_X1_isUsableRoot nw hnw 1) (As := [.int 1]) (nn := 1) (stk := [.int 1, .ref (ad 1)]) (ci := 1) dX9_usableRoot_14 gX9_usableRoot_X1_isUsableRoot ⟨rfl, by decide, by decide, by decide +kernel⟩ (by omega) la_1 rfl rfl rfl (by decide) rfl rfl (Nat.le_of_ble_eq_true rfl) (by decide) h (fun r3 m4 h => ?_)
  show V 0 17 [(1, .int r1), (0, .ref (ad 0))] [.int r3] m4
  refine r_istore_n C dX9_usableRoot_17 rfl (by decide) (show _ = [(2, .int r3), (1, .int r1), (0, .ref (ad 0))] from rfl) ?_
  refine r_iload_n C dX9_usableRoot_18 rfl 1 rfl ?_
  refine s_join h (fun k57 => k57  = some res → V 0 57 [(1, .int r1), (2, .int r3)] [] m4) ?_ (fun k57 hk57 h => ?_)
  · intro  h
    refine r_iload_n C dX9_usableRoot_57 rfl 0 rfl ?_
    refine r_if_eq C (tgt := 63) dX9_usableRoot_58 (by decide) h (fun _ h => ?_) (fun _ h => ?_)
    · skip
      refine r_iload_n C dX9_usableRoot_63 rfl 1 rfl ?_
      refine s_join h (fun k72 => ∀ (s0_72 : Int32), k72 s0_72 = some res → V 0 72 [] [.int s0_72] m4) ?_ (fun k72 hk72 h => ?_)
      · intro s0_72 h
        exact r_iret C dX9_usableRoot_72 rfl h
      refine r_if_eq C (tgt := 71) dX9_usableRoot_64 (by decide) h (fun _ h => ?_) (fun _ h => ?_)
      · skip
        refine r_iconst C (v := -1) dX9_usableRoot_71 (by decide) ?_
        refine r_sub C [] (show _ = [] from rfl) ?_
        exact hk72 (-1) h
      · skip
        refine r_iconst C (v := 1) dX9_usableRoot_67 (by decide) ?_
        refine r_goto C (tgt := 72) dX9_usableRoot_68 (by decide) ?_
        refine r_sub C [] (show _ = [] from rfl) ?_
        exact hk72 1 h
    · skip
      refine r_iconst C (v := 0) dX9_usableRoot_61 (by decide) ?_
      exact r_iret C dX9_usableRoot_62 rfl h
  refine r_if_eq C (tgt := 57) dX9_usableRoot_19 (by decide) h (fun _ h => ?_) (fun _ h => ?_)
  · skip
    refine r_sub C [1, 0] (show _ = [(1, .int r1), (2, .int r3)] from rfl) ?_
    exact hk57 h
  · skip
    refine r_iload_n C dX9_usableRoot_22 rfl 0 rfl ?_
    refine r_if_eq C (tgt := 57) dX9_usableRoot_23 (by decide) h (fun _ h => ?_) (fun _ h => ?_)
    · skip
      refine r_sub C [1, 0] (show _ = [(1, .int r1), (2, .int r3)] from rfl) ?_
      exact hk57 h
    · skip
      refine r_aload_n C dX9_usableRoot_26 rfl 2 rfl ?_
      refine r_getr C (ci := 9) (k9 := 0) dX9_usableRoot_27 rfl F_i9 (by decide) F_k10 (by omega) la_0 rfl ?_
      refine r_getr C (ci := 1) (k9 := 0) dX9_usableRoot_30 rfl F_i1 (by decide) F_k329 (by omega) la_1 rfl ?_
      refine r_iconst C (v := 1) dX9_usableRoot_33 (by decide) ?_
      refine r_aald C (b0 := 4) (d0 := 1) dX9_usableRoot_34 (by omega) la_2 (fun _ => rfl) rfl h (fun j5 hj5 h => ?_)
      refine r_iconst C (v := 1) dX9_usableRoot_35 (by decide) ?_
      refine r_iald C dX9_usableRoot_36 (by have := isRow_b (isRow_d hj5); omega) (isRow_0 (isRow_d hj5)) h (fun j6 hj6 h => ?_)
      refine r_aload_n C dX9_usableRoot_37 rfl 2 rfl ?_
      refine r_getr C (ci := 9) (k9 := 0) dX9_usableRoot_38 rfl F_i9 (by decide) F_k10 (by omega) la_0 rfl ?_
      refine r_getr C (ci := 1) (k9 := 0) dX9_usableRoot_41 rfl F_i1 (by decide) F_k329 (by omega) la_1 rfl ?_
      refine r_iconst C (v := 0) dX9_usableRoot_44 (by decide) ?_
      refine r_aald C (b0 := 4) (d0 := 1) dX9_usableRoot_45 (by omega) la_2 (fun _ => rfl) rfl h (fun j7 hj7 h => ?_)
      refine r_iconst C (v := 1) dX9_usableRoot_46 (by decide) ?_
      refine r_iald C dX9_usableRoot_47 (by have := isRow_b (isRow_d hj7); omega) (isRow_0 (isRow_d hj7)) h (fun j8 hj8 h => ?_)
      refine s_join h (fun k56 => ∀ (s0_56 : Int32), k56 s0_56 = some res → V 0 56 [] [.int s0_56] m4) ?_ (fun k56 hk56 h => ?_)
      · intro s0_56 h
        exact r_iret C dX9_usableRoot_56 rfl h
      refine r_icmp_le C (tgt := 55) dX9_usableRoot_48 (by decide) h (fun _ h => ?_) (fun _ h => ?_)
      · skip
        refine r_iconst C (v := 0) dX9_usableRoot_55 (by decide) ?_
        refine r_sub C [] (show _ = [] from rfl) ?_
        exact hk56 0 h
      · skip
        refine r_iconst C (v := 1) dX9_usableRoot_51 (by decide) ?_
        refine r_goto C (tgt := 56) dX9_usableRoot_52 (by decide) ?_
        refine r_sub C [] (show _ = [] from rfl) ?_
        exact hk56 1 h
