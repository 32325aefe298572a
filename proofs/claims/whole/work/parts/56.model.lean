noncomputable def f_X10_value (p1 : Int32) (m : sM) : Option (sR Int32) :=
  s_jn (fun (s0_37 : Int32) (m37_ : sM) => s_md (s_up m37_ 110 0 s0_37) fun m1 => s_jn (fun (s0_57 : Int32) => some (.inl s0_57, m1)) fun k57 => if (m1.1 110 0) ≤ 0 then (s_ix p1 192 fun j2 => k57 (m1.1 116 j2)) else (k57 0)) fun k37 => if (m.1 110 2) = 0 then (k37 1 m) else (s_bd (f_X10_isKey p1 m) fun r3 m4 => if r3 = 0 then (k37 2 m4) else (s_ix p1 192 fun j5 => if (m4.1 115 j5) = 0 then (k37 3 m4) else (k37 0 m4)))
set_option maxRecDepth 20000 in
set_option maxHeartbeats 4000000 in
theorem c_X10_value (nw : Nat) (hnw : 29 ≤ nw) (p1 : Int32) : s_Con s_i 110 nw yX10_value wsX10_value 16 230 0 (f_X10_value p1) (fun ad => [.ref (ad 110), .int p1]) := by
  refine s_con_of cX10_value 2 (some .int) RX10 (by decide) rfl rfl (fun _ => Nat.le_of_ble_eq_true rfl) (fun ad m res V C h => ?_)
  unfold f_X10_value at h
  have F_i10 : ∀ w ∈ wsX100, w ∈ wsX10_value := by decide +kernel
  have F_k116 : Cond.fieldLink RX10 116 "ShadowFileModel" "isOpen" "Z" ∈ wsX10_value := by decide +kernel
  have F_k100 : Cond.fieldLink RX10 100 "ShadowFileModel" "thrown" "I" ∈ wsX10_value := by decide +kernel
  have F_k26 : Cond.fieldLink RX10 26 "ShadowFileModel" "values" "[I" ∈ wsX10_value := by decide +kernel
  have F_k22 : Cond.fieldLink RX10 22 "ShadowFileModel" "has" "[Z" ∈ wsX10_value := by decide +kernel
  show V 0 0 [(0, .ref (ad 110)), (1, .int p1)] [] m
  refine r_aload_n C dX10_value_0 rfl 0 rfl ?_
  refine r_aload_n C dX10_value_1 rfl 0 rfl ?_
  refine r_geti C (ci := 10) (k9 := 2) dX10_value_2 rfl F_i10 (by decide) F_k116 (by omega) la_110 rfl ?_
  refine s_join h (fun k37 => ∀ (s0_37 : Int32) (m37_ : sM), k37 s0_37 m37_ = some res → V 0 37 [(0, .ref (ad 110)), (1, .int p1)] [.int s0_37, .ref (ad 110)] m37_) ?_ (fun k37 hk37 h => ?_)
  · intro s0_37 m37_ h
    refine r_puti C (ci := 10) (k9 := 0) dX10_value_37 rfl F_i10 (by decide) F_k100 (by omega) la_110 rfl tyX10 tyX10_ok nmX10 rfl (tyX10_ok 0 (by decide)) rfl rfl h (fun m1 _ h => ?_)
    refine r_aload_n C dX10_value_40 rfl 0 rfl ?_
    refine r_geti C (ci := 10) (k9 := 0) dX10_value_41 rfl F_i10 (by decide) F_k100 (by omega) la_110 rfl ?_
    refine s_join h (fun k57 => ∀ (s0_57 : Int32), k57 s0_57 = some res → V 0 57 [] [.int s0_57] m1) ?_ (fun k57 hk57 h => ?_)
    · intro s0_57 h
      exact r_iret C dX10_value_57 rfl h
    refine r_if_le C (tgt := 51) dX10_value_44 (by decide) h (fun _ h => ?_) (fun _ h => ?_)
    · skip
      refine r_aload_n C dX10_value_51 rfl 0 rfl ?_
      refine r_getr C (ci := 10) (k9 := 8) dX10_value_52 rfl F_i10 (by decide) F_k26 (by omega) la_110 rfl ?_
      refine r_iload_n C dX10_value_55 rfl 1 rfl ?_
      refine r_iald C dX10_value_56 (by omega) la_116 h (fun j2 hj2 h => ?_)
      refine r_sub C [] (show _ = [] from rfl) ?_
      exact hk57 (m1.1 116 j2) h
    · skip
      refine r_iconst C (v := 0) dX10_value_47 (by decide) ?_
      refine r_goto C (tgt := 57) dX10_value_48 (by decide) ?_
      refine r_sub C [] (show _ = [] from rfl) ?_
      exact hk57 0 h
  refine r_if_ne C (tgt := 12) dX10_value_5 (by decide) h (fun _ h => ?_) (fun _ h => ?_)
  · skip
    refine r_iconst C (v := 1) dX10_value_8 (by decide) ?_
    refine r_goto C (tgt := 37) dX10_value_9 (by decide) ?_
    exact hk37 1 m h
  · skip
    refine r_iload_n C dX10_value_12 rfl 1 rfl ?_
    refine r_callS C (c_X10_isKey nw hnw p1) (As := [.int p1]) (nn := 1) (stk := [.int p1, .ref (ad 110)]) dX10_value_13 gX10_value_X10_isKey ⟨by decide, by decide, by decide +kernel⟩ rfl rfl (by decide) rfl rfl (Nat.le_of_ble_eq_true rfl) (by decide) h (fun r3 m4 h => ?_)
    show V 0 16 [(0, .ref (ad 110)), (1, .int p1)] [.int r3, .ref (ad 110)] m4
    refine r_if_ne C (tgt := 23) dX10_value_16 (by decide) h (fun _ h => ?_) (fun _ h => ?_)
    · skip
      refine r_iconst C (v := 2) dX10_value_19 (by decide) ?_
      refine r_goto C (tgt := 37) dX10_value_20 (by decide) ?_
      exact hk37 2 m4 h
    · skip
      refine r_aload_n C dX10_value_23 rfl 0 rfl ?_
      refine r_getr C (ci := 10) (k9 := 7) dX10_value_24 rfl F_i10 (by decide) F_k22 (by omega) la_110 rfl ?_
      refine r_iload_n C dX10_value_27 rfl 1 rfl ?_
      refine r_zald C dX10_value_28 (by omega) la_115 h (fun j5 hj5 h => ?_)
      refine r_if_ne C (tgt := 36) dX10_value_29 (by decide) h (fun _ h => ?_) (fun _ h => ?_)
      · skip
        refine r_iconst C (v := 3) dX10_value_32 (by decide) ?_
        refine r_goto C (tgt := 37) dX10_value_33 (by decide) ?_
        exact hk37 3 m4 h
      · skip
        refine r_iconst C (v := 0) dX10_value_36 (by decide) ?_
        exact hk37 0 m4 h
noncomputable def f_X10_keyAt_L29 (m1 : sM) (e63_29 : Option (sR Int32)) (e52_29 : Int32 → Option (sR Int32)) : Nat → Int32 → Int32 → Option (sR Int32)
  | 0, _, _ => none
  | n + 1, x2_29, x3_29 =>
    if 64 ≤ x3_29 then (e63_29) else (if x2_29 < 0 then (e63_29) else (s_ix x3_29 192 fun j4 => s_jn (fun (x2_57 : Int32) => f_X10_keyAt_L29 m1 e63_29 e52_29 n x2_57 (x3_29 + 1)) fun k57 => if (m1.1 115 j4) = 0 then (k57 x2_29) else (if x2_29 = 0 then (e52_29 x3_29) else (k57 (x2_29 + (-1))))))
noncomputable def f_X10_keyAt (p1 : Int32) (m : sM) : Option (sR Int32) :=
  s_jn (fun (s0_13 : Int32) => s_md (s_up m 110 0 s0_13) fun m1 => if (m1.1 110 0) ≤ 0 then (s_jn (s_bd (f_X10_fails 2 m1) fun r2 m3 => some (.inl r2, m3)) fun e63_29 => s_jn (fun (x3_52 : Int32) => some (.inl x3_52, m1)) fun e52_29 => f_X10_keyAt_L29 m1 e63_29 e52_29 5000 p1 0) else (some (.inl 0, m1))) fun k13 => if (m.1 110 2) = 0 then (k13 1) else (k13 0)
set_option maxRecDepth 20000 in
set_option maxHeartbeats 4000000 in
theorem c_X10_keyAt (nw : Nat) (hnw : 29 ≤ nw) (p1 : Int32) : s_Con s_i 110 nw yX10_keyAt wsX10_keyAt 14 185 0 (f_X10_keyAt p1) (fun ad => [.ref (ad 110), .int p1]) := by
  refine s_con_of cX10_keyAt 4 (some .int) RX10 (by decide) rfl rfl (fun _ => Nat.le_of_ble_eq_true rfl) (fun ad m res V C h => ?_)
  unfold f_X10_keyAt at h
  have F_i10 : ∀ w ∈ wsX100, w ∈ wsX10_keyAt := by decide +kernel
  have F_k116 : Cond.fieldLink RX10 116 "ShadowFileModel" "isOpen" "Z" ∈ wsX10_keyAt := by decide +kernel
  have F_k100 : Cond.fieldLink RX10 100 "ShadowFileModel" "thrown" "I" ∈ wsX10_keyAt := by decide +kernel
  have F_k22 : Cond.fieldLink RX10 22 "ShadowFileModel" "has" "[Z" ∈ wsX10_keyAt := by decide +kernel
  show V 0 0 [(0, .ref (ad 110)), (1, .int p1)] [] m
  refine r_aload_n C dX10_keyAt_0 rfl 0 rfl ?_
  refine r_aload_n C dX10_keyAt_1 rfl 0 rfl ?_
  refine r_geti C (ci := 10) (k9 := 2) dX10_keyAt_2 rfl F_i10 (by decide) F_k116 (by omega) la_110 rfl ?_
  refine s_join h (fun k13 => ∀ (s0_13 : Int32), k13 s0_13 = some res → V 0 13 [(0, .ref (ad 110)), (1, .int p1)] [.int s0_13, .ref (ad 110)] m) ?_ (fun k13 hk13 h => ?_)
  · intro s0_13 h
    refine r_puti C (ci := 10) (k9 := 0) dX10_keyAt_13 rfl F_i10 (by decide) F_k100 (by omega) la_110 rfl tyX10 tyX10_ok nmX10 rfl (tyX10_ok 0 (by decide)) rfl rfl h (fun m1 _ h => ?_)
    refine r_aload_n C dX10_keyAt_16 rfl 0 rfl ?_
    refine r_geti C (ci := 10) (k9 := 0) dX10_keyAt_17 rfl F_i10 (by decide) F_k100 (by omega) la_110 rfl ?_
    refine r_if_le C (tgt := 25) dX10_keyAt_20 (by decide) h (fun _ h => ?_) (fun _ h => ?_)
    · skip
      refine r_iload_n C dX10_keyAt_25 rfl 1 rfl ?_
      refine r_istore_n C dX10_keyAt_26 rfl (by decide) (show _ = [(2, .int p1), (0, .ref (ad 110)), (1, .int p1)] from rfl) ?_
      refine r_iconst C (v := 0) dX10_keyAt_27 (by decide) ?_
      refine r_istore_n C dX10_keyAt_28 rfl (by decide) (show _ = [(3, .int 0), (2, .int p1), (0, .ref (ad 110)), (1, .int p1)] from rfl) ?_
      refine s_join h (fun e63_29 => e63_29  = some res → V 0 63 [(0, .ref (ad 110))] [] m1) ?_ (fun e63_29 he63_29 h => ?_)
      · intro  h
        refine r_aload_n C dX10_keyAt_63 rfl 0 rfl ?_
        refine r_iconst C (v := 2) dX10_keyAt_64 (by decide) ?_
        refine r_callV C (c_X10_fails nw hnw 2) (As := [.int 2]) (nn := 1) (stk := [.int 2, .ref (ad 110)]) (ci := 10) dX10_keyAt_65 gX10_keyAt_X10_fails ⟨rfl, by decide, by decide, by decide +kernel⟩ (by omega) la_110 rfl rfl rfl (by decide) rfl rfl (Nat.le_of_ble_eq_true rfl) (by decide) h (fun r2 m3 h => ?_)
        show V 0 68 [(0, .ref (ad 110))] [.int r2] m3
        exact r_iret C dX10_keyAt_68 rfl h
      refine s_join h (fun e52_29 => ∀ (x3_52 : Int32), e52_29 x3_52 = some res → V 0 52 [(3, .int x3_52)] [] m1) ?_ (fun e52_29 he52_29 h => ?_)
      · intro x3_52 h
        refine r_iload_n C dX10_keyAt_52 rfl 0 rfl ?_
        exact r_iret C dX10_keyAt_53 rfl h
      have L29 : ∀ (n : Nat) (x2_29 : Int32) (x3_29 : Int32), f_X10_keyAt_L29 m1 e63_29 e52_29 n x2_29 x3_29 = some res → V 0 29 [(0, .ref (ad 110)), (2, .int x2_29), (3, .int x3_29)] [] m1 := by
        intro n
        induction n with
        | zero => intro x2_29 x3_29 h; rw [f_X10_keyAt_L29] at h; cases h
        | succ n ih =>
          intro x2_29 x3_29 h
          rw [f_X10_keyAt_L29] at h
          refine r_iload_n C dX10_keyAt_29 rfl 2 rfl ?_
          refine r_bipush C (v := 64) dX10_keyAt_30 (by decide) ?_
          refine r_icmp_ge C (tgt := 63) dX10_keyAt_32 (by decide) h (fun _ h => ?_) (fun _ h => ?_)
          · skip
            refine r_sub C [0] (show _ = [(0, .ref (ad 110))] from rfl) ?_
            exact he63_29 h
          · skip
            refine r_iload_n C dX10_keyAt_35 rfl 1 rfl ?_
            refine r_if_lt C (tgt := 63) dX10_keyAt_36 (by decide) h (fun _ h => ?_) (fun _ h => ?_)
            · skip
              refine r_sub C [0] (show _ = [(0, .ref (ad 110))] from rfl) ?_
              exact he63_29 h
            · skip
              refine r_aload_n C dX10_keyAt_39 rfl 0 rfl ?_
              refine r_getr C (ci := 10) (k9 := 7) dX10_keyAt_40 rfl F_i10 (by decide) F_k22 (by omega) la_110 rfl ?_
              refine r_iload_n C dX10_keyAt_43 rfl 2 rfl ?_
              refine r_zald C dX10_keyAt_44 (by omega) la_115 h (fun j4 hj4 h => ?_)
              refine s_join h (fun k57 => ∀ (x2_57 : Int32), k57 x2_57 = some res → V 0 57 [(0, .ref (ad 110)), (2, .int x2_57), (3, .int x3_29)] [] m1) ?_ (fun k57 hk57 h => ?_)
              · intro x2_57 h
                refine r_iinc C (v := x3_29 + 1) dX10_keyAt_57 2 rfl rfl (by decide) (show _ = [(3, .int (x3_29 + 1)), (0, .ref (ad 110)), (2, .int x2_57)] from rfl) ?_
                refine r_goto C (tgt := 29) dX10_keyAt_60 (by decide) ?_
                refine r_sub C [1, 2, 0] (show _ = [(0, .ref (ad 110)), (2, .int x2_57), (3, .int (x3_29 + 1))] from rfl) ?_
                exact ih x2_57 (x3_29 + 1) h
              refine r_if_eq C (tgt := 57) dX10_keyAt_45 (by decide) h (fun _ h => ?_) (fun _ h => ?_)
              · skip
                exact hk57 x2_29 h
              · skip
                refine r_iload_n C dX10_keyAt_48 rfl 1 rfl ?_
                refine r_if_ne C (tgt := 54) dX10_keyAt_49 (by decide) h (fun _ h => ?_) (fun _ h => ?_)
                · skip
                  refine r_sub C [2] (show _ = [(3, .int x3_29)] from rfl) ?_
                  exact he52_29 x3_29 h
                · skip
                  refine r_iinc C (v := x2_29 + (-1)) dX10_keyAt_54 1 rfl rfl (by decide) (show _ = [(2, .int (x2_29 + (-1))), (0, .ref (ad 110)), (3, .int x3_29)] from rfl) ?_
                  refine r_sub C [1, 0, 2] (show _ = [(0, .ref (ad 110)), (2, .int (x2_29 + (-1))), (3, .int x3_29)] from rfl) ?_
                  exact hk57 (x2_29 + (-1)) h
      refine r_sub C [2, 1, 0] (show _ = [(0, .ref (ad 110)), (2, .int p1), (3, .int 0)] from rfl) ?_
      exact L29 5000 p1 0 h
    · skip
      refine r_iconst C (v := 0) dX10_keyAt_23 (by decide) ?_
      exact r_iret C dX10_keyAt_24 rfl h
  refine r_if_eq C (tgt := 12) dX10_keyAt_5 (by decide) h (fun _ h => ?_) (fun _ h => ?_)
  · skip
    refine r_iconst C (v := 1) dX10_keyAt_12 (by decide) ?_
    exact hk13 1 h
  · skip
    refine r_iconst C (v := 0) dX10_keyAt_8 (by decide) ?_
    refine r_goto C (tgt := 13) dX10_keyAt_9 (by decide) ?_
    exact hk13 0 h
noncomputable def f_X10_sum_L44 (y2_44 : Int32) (m1 : sM) (e87_44 : Int32 → Option (sR Int32)) : Nat → Int32 → Int32 → Option (sR Int32)
  | 0, _, _ => none
  | n + 1, x3_44, x4_44 =>
    if (m1.1 110 0) = 0 then (if y2_44 < x4_44 then (e87_44 x3_44) else (s_ix x4_44 192 fun j2 => s_jn (fun (s0_79 : Int32) => f_X10_sum_L44 y2_44 m1 e87_44 n (x3_44 + s0_79) (x4_44 + 1)) fun k79 => if (m1.1 115 j2) = 0 then (k79 0) else (s_ix x4_44 192 fun j3 => k79 (m1.1 116 j3)))) else (e87_44 x3_44)
noncomputable def f_X10_sum (p1 : Int32) (p2 : Int32) (m : sM) : Option (sR Int32) :=
  s_jn (fun (s0_36 : Int32) (m36_ : sM) => s_md (s_up m36_ 110 0 s0_36) fun m1 => s_jn (fun (x3_87 : Int32) => some (.inl x3_87, m1)) fun e87_44 => f_X10_sum_L44 p2 m1 e87_44 5000 0 p1) fun k36 => if (m.1 110 2) = 0 then (k36 1 m) else (s_bd (f_X10_isKey p1 m) fun r4 m5 => s_jn (fun (m31_ : sM) => k36 2 m31_) fun k31 => if r4 = 0 then (k31  m5) else (s_bd (f_X10_isKey p2 m5) fun r6 m7 => if r6 = 0 then (k31  m7) else (if p1 ≤ p2 then (k36 0 m7) else (k31  m7))))
set_option maxRecDepth 20000 in
set_option maxHeartbeats 4000000 in
theorem c_X10_sum (nw : Nat) (hnw : 29 ≤ nw) (p1 : Int32) (p2 : Int32) : s_Con s_i 110 nw yX10_sum wsX10_sum 16 230 0 (f_X10_sum p1 p2) (fun ad => [.ref (ad 110), .int p1, .int p2]) := by
  refine s_con_of cX10_sum 5 (some .int) RX10 (by decide) rfl rfl (fun _ => Nat.le_of_ble_eq_true rfl) (fun ad m res V C h => ?_)
  unfold f_X10_sum at h
  have F_i10 : ∀ w ∈ wsX100, w ∈ wsX10_sum := by decide +kernel
  have F_k116 : Cond.fieldLink RX10 116 "ShadowFileModel" "isOpen" "Z" ∈ wsX10_sum := by decide +kernel
  have F_k100 : Cond.fieldLink RX10 100 "ShadowFileModel" "thrown" "I" ∈ wsX10_sum := by decide +kernel
  have F_k22 : Cond.fieldLink RX10 22 "ShadowFileModel" "has" "[Z" ∈ wsX10_sum := by decide +kernel
  have F_k26 : Cond.fieldLink RX10 26 "ShadowFileModel" "values" "[I" ∈ wsX10_sum := by decide +kernel
  show V 0 0 [(0, .ref (ad 110)), (1, .int p1), (2, .int p2)] [] m
  refine r_aload_n C dX10_sum_0 rfl 0 rfl ?_
  refine r_aload_n C dX10_sum_1 rfl 0 rfl ?_
  refine r_geti C (ci := 10) (k9 := 2) dX10_sum_2 rfl F_i10 (by decide) F_k116 (by omega) la_110 rfl ?_
  refine s_join h (fun k36 => ∀ (s0_36 : Int32) (m36_ : sM), k36 s0_36 m36_ = some res → V 0 36 [(0, .ref (ad 110)), (1, .int p1), (2, .int p2)] [.int s0_36, .ref (ad 110)] m36_) ?_ (fun k36 hk36 h => ?_)
  · intro s0_36 m36_ h
    refine r_puti C (ci := 10) (k9 := 0) dX10_sum_36 rfl F_i10 (by decide) F_k100 (by omega) la_110 rfl tyX10 tyX10_ok nmX10 rfl (tyX10_ok 0 (by decide)) rfl rfl h (fun m1 _ h => ?_)
    refine r_iconst C (v := 0) dX10_sum_39 (by decide) ?_
    refine r_istore_n C dX10_sum_40 rfl (by decide) (show _ = [(3, .int 0), (0, .ref (ad 110)), (1, .int p1), (2, .int p2)] from rfl) ?_
    refine r_iload_n C dX10_sum_41 rfl 2 rfl ?_
    refine r_istore C dX10_sum_42 (by decide) (show _ = [(4, .int p1), (3, .int 0), (0, .ref (ad 110)), (1, .int p1), (2, .int p2)] from rfl) ?_
    refine s_join h (fun e87_44 => ∀ (x3_87 : Int32), e87_44 x3_87 = some res → V 0 87 [(3, .int x3_87)] [] m1) ?_ (fun e87_44 he87_44 h => ?_)
    · intro x3_87 h
      refine r_iload_n C dX10_sum_87 rfl 0 rfl ?_
      exact r_iret C dX10_sum_88 rfl h
    have L44 : ∀ (n : Nat) (x3_44 : Int32) (x4_44 : Int32), f_X10_sum_L44 p2 m1 e87_44 n x3_44 x4_44 = some res → V 0 44 [(0, .ref (ad 110)), (2, .int p2), (3, .int x3_44), (4, .int x4_44)] [] m1 := by
      intro n
      induction n with
      | zero => intro x3_44 x4_44 h; rw [f_X10_sum_L44] at h; cases h
      | succ n ih =>
        intro x3_44 x4_44 h
        rw [f_X10_sum_L44] at h
        refine r_aload_n C dX10_sum_44 rfl 0 rfl ?_
        refine r_geti C (ci := 10) (k9 := 0) dX10_sum_45 rfl F_i10 (by decide) F_k100 (by omega) la_110 rfl ?_
        refine r_if_ne C (tgt := 87) dX10_sum_48 (by decide) h (fun _ h => ?_) (fun _ h => ?_)
        · skip
          refine r_iload C dX10_sum_51 3 rfl ?_
          refine r_iload_n C dX10_sum_53 rfl 1 rfl ?_
          refine r_icmp_gt C (tgt := 87) dX10_sum_54 (by decide) h (fun _ h => ?_) (fun _ h => ?_)
          · skip
            refine r_sub C [2] (show _ = [(3, .int x3_44)] from rfl) ?_
            exact he87_44 x3_44 h
          · skip
            refine r_iload_n C dX10_sum_57 rfl 2 rfl ?_
            refine r_aload_n C dX10_sum_58 rfl 0 rfl ?_
            refine r_getr C (ci := 10) (k9 := 7) dX10_sum_59 rfl F_i10 (by decide) F_k22 (by omega) la_110 rfl ?_
            refine r_iload C dX10_sum_62 3 rfl ?_
            refine r_zald C dX10_sum_64 (by omega) la_115 h (fun j2 hj2 h => ?_)
            refine s_join h (fun k79 => ∀ (s0_79 : Int32), k79 s0_79 = some res → V 0 79 [(0, .ref (ad 110)), (2, .int p2), (4, .int x4_44)] [.int s0_79, .int x3_44] m1) ?_ (fun k79 hk79 h => ?_)
            · intro s0_79 h
              refine r_iadd C dX10_sum_79 ?_
              refine r_istore_n C dX10_sum_80 rfl (by decide) (show _ = [(3, .int (x3_44 + s0_79)), (0, .ref (ad 110)), (2, .int p2), (4, .int x4_44)] from rfl) ?_
              refine r_iinc C (v := x4_44 + 1) dX10_sum_81 3 rfl rfl (by decide) (show _ = [(4, .int (x4_44 + 1)), (3, .int (x3_44 + s0_79)), (0, .ref (ad 110)), (2, .int p2)] from rfl) ?_
              refine r_goto C (tgt := 44) dX10_sum_84 (by decide) ?_
              refine r_sub C [2, 3, 1, 0] (show _ = [(0, .ref (ad 110)), (2, .int p2), (3, .int (x3_44 + s0_79)), (4, .int (x4_44 + 1))] from rfl) ?_
              exact ih (x3_44 + s0_79) (x4_44 + 1) h
            refine r_if_eq C (tgt := 78) dX10_sum_65 (by decide) h (fun _ h => ?_) (fun _ h => ?_)
            · skip
              refine r_iconst C (v := 0) dX10_sum_78 (by decide) ?_
              refine r_sub C [0, 1, 3] (show _ = [(0, .ref (ad 110)), (2, .int p2), (4, .int x4_44)] from rfl) ?_
              exact hk79 0 h
            · skip
              refine r_aload_n C dX10_sum_68 rfl 0 rfl ?_
              refine r_getr C (ci := 10) (k9 := 8) dX10_sum_69 rfl F_i10 (by decide) F_k26 (by omega) la_110 rfl ?_
              refine r_iload C dX10_sum_72 3 rfl ?_
              refine r_iald C dX10_sum_74 (by omega) la_116 h (fun j3 hj3 h => ?_)
              refine r_goto C (tgt := 79) dX10_sum_75 (by decide) ?_
              refine r_sub C [0, 1, 3] (show _ = [(0, .ref (ad 110)), (2, .int p2), (4, .int x4_44)] from rfl) ?_
              exact hk79 (m1.1 116 j3) h
        · skip
          refine r_sub C [2] (show _ = [(3, .int x3_44)] from rfl) ?_
          exact he87_44 x3_44 h
    refine r_sub C [2, 4, 1, 0] (show _ = [(0, .ref (ad 110)), (2, .int p2), (3, .int 0), (4, .int p1)] from rfl) ?_
    exact L44 5000 0 p1 h
  refine r_if_ne C (tgt := 12) dX10_sum_5 (by decide) h (fun _ h => ?_) (fun _ h => ?_)
  · skip
    refine r_iconst C (v := 1) dX10_sum_8 (by decide) ?_
    refine r_goto C (tgt := 36) dX10_sum_9 (by decide) ?_
    exact hk36 1 m h
  · skip
    refine r_iload_n C dX10_sum_12 rfl 1 rfl ?_
    refine r_callS C (c_X10_isKey nw hnw p1) (As := [.int p1]) (nn := 1) (stk := [.int p1, .ref (ad 110)]) dX10_sum_13 gX10_sum_X10_isKey ⟨by decide, by decide, by decide +kernel⟩ rfl rfl (by decide) rfl rfl (Nat.le_of_ble_eq_true rfl) (by decide) h (fun r4 m5 h => ?_)
    show V 0 16 [(0, .ref (ad 110)), (1, .int p1), (2, .int p2)] [.int r4, .ref (ad 110)] m5
    refine s_join h (fun k31 => ∀ (m31_ : sM), k31 m31_ = some res → V 0 31 [(0, .ref (ad 110)), (1, .int p1), (2, .int p2)] [.ref (ad 110)] m31_) ?_ (fun k31 hk31 h => ?_)
    · intro m31_ h
      refine r_iconst C (v := 2) dX10_sum_31 (by decide) ?_
      refine r_goto C (tgt := 36) dX10_sum_32 (by decide) ?_
      exact hk36 2 m31_ h
    refine r_if_eq C (tgt := 31) dX10_sum_16 (by decide) h (fun _ h => ?_) (fun _ h => ?_)
    · skip
      exact hk31 m5 h
    · skip
      refine r_iload_n C dX10_sum_19 rfl 2 rfl ?_
      refine r_callS C (c_X10_isKey nw hnw p2) (As := [.int p2]) (nn := 1) (stk := [.int p2, .ref (ad 110)]) dX10_sum_20 gX10_sum_X10_isKey ⟨by decide, by decide, by decide +kernel⟩ rfl rfl (by decide) rfl rfl (Nat.le_of_ble_eq_true rfl) (by decide) h (fun r6 m7 h => ?_)
      show V 0 23 [(0, .ref (ad 110)), (1, .int p1), (2, .int p2)] [.int r6, .ref (ad 110)] m7
      refine r_if_eq C (tgt := 31) dX10_sum_23 (by decide) h (fun _ h => ?_) (fun _ h => ?_)
      · skip
        exact hk31 m7 h
      · skip
        refine r_iload_n C dX10_sum_26 rfl 1 rfl ?_
        refine r_iload_n C dX10_sum_27 rfl 2 rfl ?_
        refine r_icmp_le C (tgt := 35) dX10_sum_28 (by decide) h (fun _ h => ?_) (fun _ h => ?_)
        · skip
          refine r_iconst C (v := 0) dX10_sum_35 (by decide) ?_
          exact hk36 0 m7 h
        · skip
          exact hk31 m7 h
noncomputable def f_X10_pageBlock (p1 : Int32) (m : sM) : Option (sR Int32) :=
  s_jn (fun (s0_27 : Int32) (m27_ : sM) => s_md (s_up m27_ 110 0 s0_27) fun m1 => s_jn (fun (s0_47 : Int32) => some (.inl s0_47, m1)) fun k47 => if (m1.1 110 0) ≤ 0 then (s_ix p1 24 fun j2 => k47 (m1.1 114 j2)) else (k47 0)) fun k27 => if (m.1 110 2) = 0 then (k27 1 m) else (s_bd (f_X10_in p1 0 7 m) fun r3 m4 => if r3 = 0 then (k27 2 m4) else (k27 0 m4))
set_option maxRecDepth 20000 in
set_option maxHeartbeats 4000000 in
theorem c_X10_pageBlock (nw : Nat) (hnw : 29 ≤ nw) (p1 : Int32) : s_Con s_i 110 nw yX10_pageBlock wsX10_pageBlock 14 185 0 (f_X10_pageBlock p1) (fun ad => [.ref (ad 110), .int p1]) := by
  refine s_con_of cX10_pageBlock 2 (some .int) RX10 (by decide) rfl rfl (fun _ => Nat.le_of_ble_eq_true rfl) (fun ad m res V C h => ?_)
  unfold f_X10_pageBlock at h
  have F_i10 : ∀ w ∈ wsX100, w ∈ wsX10_pageBlock := by decide +kernel
  have F_k116 : Cond.fieldLink RX10 116 "ShadowFileModel" "isOpen" "Z" ∈ wsX10_pageBlock := by decide +kernel
  have F_k100 : Cond.fieldLink RX10 100 "ShadowFileModel" "thrown" "I" ∈ wsX10_pageBlock := by decide +kernel
  have F_k19 : Cond.fieldLink RX10 19 "ShadowFileModel" "pageOf" "[I" ∈ wsX10_pageBlock := by decide +kernel
  show V 0 0 [(0, .ref (ad 110)), (1, .int p1)] [] m
  refine r_aload_n C dX10_pageBlock_0 rfl 0 rfl ?_
  refine r_aload_n C dX10_pageBlock_1 rfl 0 rfl ?_
  refine r_geti C (ci := 10) (k9 := 2) dX10_pageBlock_2 rfl F_i10 (by decide) F_k116 (by omega) la_110 rfl ?_
  refine s_join h (fun k27 => ∀ (s0_27 : Int32) (m27_ : sM), k27 s0_27 m27_ = some res → V 0 27 [(0, .ref (ad 110)), (1, .int p1)] [.int s0_27, .ref (ad 110)] m27_) ?_ (fun k27 hk27 h => ?_)
  · intro s0_27 m27_ h
    refine r_puti C (ci := 10) (k9 := 0) dX10_pageBlock_27 rfl F_i10 (by decide) F_k100 (by omega) la_110 rfl tyX10 tyX10_ok nmX10 rfl (tyX10_ok 0 (by decide)) rfl rfl h (fun m1 _ h => ?_)
    refine r_aload_n C dX10_pageBlock_30 rfl 0 rfl ?_
    refine r_geti C (ci := 10) (k9 := 0) dX10_pageBlock_31 rfl F_i10 (by decide) F_k100 (by omega) la_110 rfl ?_
    refine s_join h (fun k47 => ∀ (s0_47 : Int32), k47 s0_47 = some res → V 0 47 [] [.int s0_47] m1) ?_ (fun k47 hk47 h => ?_)
    · intro s0_47 h
      exact r_iret C dX10_pageBlock_47 rfl h
    refine r_if_le C (tgt := 41) dX10_pageBlock_34 (by decide) h (fun _ h => ?_) (fun _ h => ?_)
    · skip
      refine r_aload_n C dX10_pageBlock_41 rfl 0 rfl ?_
      refine r_getr C (ci := 10) (k9 := 6) dX10_pageBlock_42 rfl F_i10 (by decide) F_k19 (by omega) la_110 rfl ?_
      refine r_iload_n C dX10_pageBlock_45 rfl 1 rfl ?_
      refine r_iald C dX10_pageBlock_46 (by omega) la_114 h (fun j2 hj2 h => ?_)
      refine r_sub C [] (show _ = [] from rfl) ?_
      exact hk47 (m1.1 114 j2) h
    · skip
      refine r_iconst C (v := 0) dX10_pageBlock_37 (by decide) ?_
      refine r_goto C (tgt := 47) dX10_pageBlock_38 (by decide) ?_
      refine r_sub C [] (show _ = [] from rfl) ?_
      exact hk47 0 h
  refine r_if_ne C (tgt := 12) dX10_pageBlock_5 (by decide) h (fun _ h => ?_) (fun _ h => ?_)
  · skip
    refine r_iconst C (v := 1) dX10_pageBlock_8 (by decide) ?_
    refine r_goto C (tgt := 27) dX10_pageBlock_9 (by decide) ?_
    exact hk27 1 m h
  · skip
    refine r_iload_n C dX10_pageBlock_12 rfl 1 rfl ?_
    refine r_iconst C (v := 0) dX10_pageBlock_13 (by decide) ?_
    refine r_bipush C (v := 7) dX10_pageBlock_14 (by decide) ?_
    refine r_callS C (c_X10_in nw hnw p1 0 7) (As := [.int p1, .int 0, .int 7]) (nn := 3) (stk := [.int 7, .int 0, .int p1, .ref (ad 110)]) dX10_pageBlock_16 gX10_pageBlock_X10_in ⟨by decide, by decide, by decide +kernel⟩ rfl rfl (by decide) rfl rfl (Nat.le_of_ble_eq_true rfl) (by decide) h (fun r3 m4 h => ?_)
    show V 0 19 [(0, .ref (ad 110)), (1, .int p1)] [.int r3, .ref (ad 110)] m4
    refine r_if_ne C (tgt := 26) dX10_pageBlock_19 (by decide) h (fun _ h => ?_) (fun _ h => ?_)
    · skip
      refine r_iconst C (v := 2) dX10_pageBlock_22 (by decide) ?_
      refine r_goto C (tgt := 27) dX10_pageBlock_23 (by decide) ?_
      exact hk27 2 m4 h
    · skip
      refine r_iconst C (v := 0) dX10_pageBlock_26 (by decide) ?_
      exact hk27 0 m4 h
noncomputable def f_X10_freeCount (m : sM) : Option (sR Int32) :=
  s_jn (fun (s0_13 : Int32) => s_md (s_up m 110 0 s0_13) fun m1 => s_jn (fun (s0_31 : Int32) (m31_ : sM) => some (.inl s0_31, m31_)) fun k31 => if (m1.1 110 0) ≤ 0 then (s_bd (f_X10_freeBlocks m1) fun r2 m3 => k31 r2 m3) else (k31 0 m1)) fun k13 => if (m.1 110 2) = 0 then (k13 1) else (k13 0)
set_option maxRecDepth 20000 in
set_option maxHeartbeats 4000000 in
theorem c_X10_freeCount (nw : Nat) (hnw : 29 ≤ nw) : s_Con s_i 110 nw yX10_freeCount wsX10_freeCount 18 275 0 (f_X10_freeCount) (fun ad => [.ref (ad 110)]) := by
  refine s_con_of cX10_freeCount 1 (some .int) RX10 (by decide) rfl rfl (fun _ => Nat.le_of_ble_eq_true rfl) (fun ad m res V C h => ?_)
  unfold f_X10_freeCount at h
  have F_i10 : ∀ w ∈ wsX100, w ∈ wsX10_freeCount := by decide +kernel
  have F_k116 : Cond.fieldLink RX10 116 "ShadowFileModel" "isOpen" "Z" ∈ wsX10_freeCount := by decide +kernel
  have F_k100 : Cond.fieldLink RX10 100 "ShadowFileModel" "thrown" "I" ∈ wsX10_freeCount := by decide +kernel
  show V 0 0 [(0, .ref (ad 110))] [] m
  refine r_aload_n C dX10_freeCount_0 rfl 0 rfl ?_
  refine r_aload_n C dX10_freeCount_1 rfl 0 rfl ?_
  refine r_geti C (ci := 10) (k9 := 2) dX10_freeCount_2 rfl F_i10 (by decide) F_k116 (by omega) la_110 rfl ?_
  refine s_join h (fun k13 => ∀ (s0_13 : Int32), k13 s0_13 = some res → V 0 13 [(0, .ref (ad 110))] [.int s0_13, .ref (ad 110)] m) ?_ (fun k13 hk13 h => ?_)
  · intro s0_13 h
    refine r_puti C (ci := 10) (k9 := 0) dX10_freeCount_13 rfl F_i10 (by decide) F_k100 (by omega) la_110 rfl tyX10 tyX10_ok nmX10 rfl (tyX10_ok 0 (by decide)) rfl rfl h (fun m1 _ h => ?_)
    refine r_aload_n C dX10_freeCount_16 rfl 0 rfl ?_
    refine r_geti C (ci := 10) (k9 := 0) dX10_freeCount_17 rfl F_i10 (by decide) F_k100 (by omega) la_110 rfl ?_
    refine s_join h (fun k31 => ∀ (s0_31 : Int32) (m31_ : sM), k31 s0_31 m31_ = some res → V 0 31 [] [.int s0_31] m31_) ?_ (fun k31 hk31 h => ?_)
    · intro s0_31 m31_ h
      exact r_iret C dX10_freeCount_31 rfl h
    refine r_if_le C (tgt := 27) dX10_freeCount_20 (by decide) h (fun _ h => ?_) (fun _ h => ?_)
    · skip
      refine r_aload_n C dX10_freeCount_27 rfl 0 rfl ?_
      refine r_callV C (c_X10_freeBlocks nw hnw) (As := []) (nn := 0) (stk := [.ref (ad 110)]) (ci := 10) dX10_freeCount_28 gX10_freeCount_X10_freeBlocks ⟨rfl, by decide, by decide, by decide +kernel⟩ (by omega) la_110 rfl rfl rfl (by decide) rfl rfl (Nat.le_of_ble_eq_true rfl) (by decide) h (fun r2 m3 h => ?_)
      show V 0 31 [(0, .ref (ad 110))] [.int r2] m3
      refine r_sub C [] (show _ = [] from rfl) ?_
      exact hk31 r2 m3 h
    · skip
      refine r_iconst C (v := 0) dX10_freeCount_23 (by decide) ?_
      refine r_goto C (tgt := 31) dX10_freeCount_24 (by decide) ?_
      refine r_sub C [] (show _ = [] from rfl) ?_
      exact hk31 0 m1 h
  refine r_if_eq C (tgt := 12) dX10_freeCount_5 (by decide) h (fun _ h => ?_) (fun _ h => ?_)
  · skip
    refine r_iconst C (v := 1) dX10_freeCount_12 (by decide) ?_
    exact hk13 1 h
  · skip
    refine r_iconst C (v := 0) dX10_freeCount_8 (by decide) ?_
    refine r_goto C (tgt := 13) dX10_freeCount_9 (by decide) ?_
    exact hk13 0 h
noncomputable def f_X10_freeBlock_L29 (e62_29 : sM → Option (sR Int32)) (e51_29 : Int32 → sM → Option (sR Int32)) : Nat → Int32 → Int32 → sM → Option (sR Int32)
  | 0, _, _, _ => none
  | n + 1, x2_29, x3_29, m29_ =>
    if 32 ≤ x3_29 then (e62_29  m29_) else (if x2_29 < 0 then (e62_29  m29_) else (s_bd (f_X10_isFree x3_29 m29_) fun r4 m5 => s_jn (fun (x2_56 : Int32) => f_X10_freeBlock_L29 e62_29 e51_29 n x2_56 (x3_29 + 1) m5) fun k56 => if r4 = 0 then (k56 x2_29) else (if x2_29 = 0 then (e51_29 x3_29 m5) else (k56 (x2_29 + (-1))))))
noncomputable def f_X10_freeBlock (p1 : Int32) (m : sM) : Option (sR Int32) :=
  s_jn (fun (s0_13 : Int32) => s_md (s_up m 110 0 s0_13) fun m1 => if (m1.1 110 0) ≤ 0 then (s_jn (fun (m62_ : sM) => s_bd (f_X10_fails 2 m62_) fun r2 m3 => some (.inl r2, m3)) fun e62_29 => s_jn (fun (x3_51 : Int32) (m51_ : sM) => some (.inl x3_51, m51_)) fun e51_29 => f_X10_freeBlock_L29 e62_29 e51_29 5000 p1 2 m1) else (some (.inl 0, m1))) fun k13 => if (m.1 110 2) = 0 then (k13 1) else (k13 0)
set_option maxRecDepth 20000 in
set_option maxHeartbeats 4000000 in
theorem c_X10_freeBlock (nw : Nat) (hnw : 29 ≤ nw) (p1 : Int32) : s_Con s_i 110 nw yX10_freeBlock wsX10_freeBlock 16 230 0 (f_X10_freeBlock p1) (fun ad => [.ref (ad 110), .int p1]) := by
  refine s_con_of cX10_freeBlock 4 (some .int) RX10 (by decide) rfl rfl (fun _ => Nat.le_of_ble_eq_true rfl) (fun ad m res V C h => ?_)
  unfold f_X10_freeBlock at h
  have F_i10 : ∀ w ∈ wsX100, w ∈ wsX10_freeBlock := by decide +kernel
  have F_k116 : Cond.fieldLink RX10 116 "ShadowFileModel" "isOpen" "Z" ∈ wsX10_freeBlock := by decide +kernel
  have F_k100 : Cond.fieldLink RX10 100 "ShadowFileModel" "thrown" "I" ∈ wsX10_freeBlock := by decide +kernel
  show V 0 0 [(0, .ref (ad 110)), (1, .int p1)] [] m
  refine r_aload_n C dX10_freeBlock_0 rfl 0 rfl ?_
  refine r_aload_n C dX10_freeBlock_1 rfl 0 rfl ?_
  refine r_geti C (ci := 10) (k9 := 2) dX10_freeBlock_2 rfl F_i10 (by decide) F_k116 (by omega) la_110 rfl ?_
  refine s_join h (fun k13 => ∀ (s0_13 : Int32), k13 s0_13 = some res → V 0 13 [(0, .ref (ad 110)), (1, .int p1)] [.int s0_13, .ref (ad 110)] m) ?_ (fun k13 hk13 h => ?_)
  · intro s0_13 h
    refine r_puti C (ci := 10) (k9 := 0) dX10_freeBlock_13 rfl F_i10 (by decide) F_k100 (by omega) la_110 rfl tyX10 tyX10_ok nmX10 rfl (tyX10_ok 0 (by decide)) rfl rfl h (fun m1 _ h => ?_)
    refine r_aload_n C dX10_freeBlock_16 rfl 0 rfl ?_
    refine r_geti C (ci := 10) (k9 := 0) dX10_freeBlock_17 rfl F_i10 (by decide) F_k100 (by omega) la_110 rfl ?_
    refine r_if_le C (tgt := 25) dX10_freeBlock_20 (by decide) h (fun _ h => ?_) (fun _ h => ?_)
    · skip
      refine r_iload_n C dX10_freeBlock_25 rfl 1 rfl ?_
      refine r_istore_n C dX10_freeBlock_26 rfl (by decide) (show _ = [(2, .int p1), (0, .ref (ad 110)), (1, .int p1)] from rfl) ?_
      refine r_iconst C (v := 2) dX10_freeBlock_27 (by decide) ?_
      refine r_istore_n C dX10_freeBlock_28 rfl (by decide) (show _ = [(3, .int 2), (2, .int p1), (0, .ref (ad 110)), (1, .int p1)] from rfl) ?_
      refine s_join h (fun e62_29 => ∀ (m62_ : sM), e62_29 m62_ = some res → V 0 62 [(0, .ref (ad 110))] [] m62_) ?_ (fun e62_29 he62_29 h => ?_)
      · intro m62_ h
        refine r_aload_n C dX10_freeBlock_62 rfl 0 rfl ?_
        refine r_iconst C (v := 2) dX10_freeBlock_63 (by decide) ?_
        refine r_callV C (c_X10_fails nw hnw 2) (As := [.int 2]) (nn := 1) (stk := [.int 2, .ref (ad 110)]) (ci := 10) dX10_freeBlock_64 gX10_freeBlock_X10_fails ⟨rfl, by decide, by decide, by decide +kernel⟩ (by omega) la_110 rfl rfl rfl (by decide) rfl rfl (Nat.le_of_ble_eq_true rfl) (by decide) h (fun r2 m3 h => ?_)
        show V 0 67 [(0, .ref (ad 110))] [.int r2] m3
        exact r_iret C dX10_freeBlock_67 rfl h
      refine s_join h (fun e51_29 => ∀ (x3_51 : Int32) (m51_ : sM), e51_29 x3_51 m51_ = some res → V 0 51 [(3, .int x3_51)] [] m51_) ?_ (fun e51_29 he51_29 h => ?_)
      · intro x3_51 m51_ h
        refine r_iload_n C dX10_freeBlock_51 rfl 0 rfl ?_
        exact r_iret C dX10_freeBlock_52 rfl h
      have L29 : ∀ (n : Nat) (x2_29 : Int32) (x3_29 : Int32) (m29_ : sM), f_X10_freeBlock_L29 e62_29 e51_29 n x2_29 x3_29 m29_ = some res → V 0 29 [(0, .ref (ad 110)), (2, .int x2_29), (3, .int x3_29)] [] m29_ := by
        intro n
        induction n with
        | zero => intro x2_29 x3_29 m29_ h; rw [f_X10_freeBlock_L29] at h; cases h
        | succ n ih =>
          intro x2_29 x3_29 m29_ h
          rw [f_X10_freeBlock_L29] at h
          refine r_iload_n C dX10_freeBlock_29 rfl 2 rfl ?_
          refine r_bipush C (v := 32) dX10_freeBlock_30 (by decide) ?_
          refine r_icmp_ge C (tgt := 62) dX10_freeBlock_32 (by decide) h (fun _ h => ?_) (fun _ h => ?_)
          · skip
            refine r_sub C [0] (show _ = [(0, .ref (ad 110))] from rfl) ?_
            exact he62_29 m29_ h
          · skip
            refine r_iload_n C dX10_freeBlock_35 rfl 1 rfl ?_
            refine r_if_lt C (tgt := 62) dX10_freeBlock_36 (by decide) h (fun _ h => ?_) (fun _ h => ?_)
            · skip
              refine r_sub C [0] (show _ = [(0, .ref (ad 110))] from rfl) ?_
              exact he62_29 m29_ h
            · skip
              refine r_aload_n C dX10_freeBlock_39 rfl 0 rfl ?_
              refine r_iload_n C dX10_freeBlock_40 rfl 2 rfl ?_
              refine r_callV C (c_X10_isFree nw hnw x3_29) (As := [.int x3_29]) (nn := 1) (stk := [.int x3_29, .ref (ad 110)]) (ci := 10) dX10_freeBlock_41 gX10_freeBlock_X10_isFree ⟨rfl, by decide, by decide, by decide +kernel⟩ (by omega) la_110 rfl rfl rfl (by decide) rfl rfl (Nat.le_of_ble_eq_true rfl) (by decide) h (fun r4 m5 h => ?_)
              show V 0 44 [(0, .ref (ad 110)), (2, .int x2_29), (3, .int x3_29)] [.int r4] m5
              refine s_join h (fun k56 => ∀ (x2_56 : Int32), k56 x2_56 = some res → V 0 56 [(0, .ref (ad 110)), (2, .int x2_56), (3, .int x3_29)] [] m5) ?_ (fun k56 hk56 h => ?_)
              · intro x2_56 h
                refine r_iinc C (v := x3_29 + 1) dX10_freeBlock_56 2 rfl rfl (by decide) (show _ = [(3, .int (x3_29 + 1)), (0, .ref (ad 110)), (2, .int x2_56)] from rfl) ?_
                refine r_goto C (tgt := 29) dX10_freeBlock_59 (by decide) ?_
                refine r_sub C [1, 2, 0] (show _ = [(0, .ref (ad 110)), (2, .int x2_56), (3, .int (x3_29 + 1))] from rfl) ?_
                exact ih x2_56 (x3_29 + 1) m5 h
              refine r_if_eq C (tgt := 56) dX10_freeBlock_44 (by decide) h (fun _ h => ?_) (fun _ h => ?_)
              · skip
                exact hk56 x2_29 h
              · skip
                refine r_iload_n C dX10_freeBlock_47 rfl 1 rfl ?_
                refine r_if_ne C (tgt := 53) dX10_freeBlock_48 (by decide) h (fun _ h => ?_) (fun _ h => ?_)
                · skip
                  refine r_sub C [2] (show _ = [(3, .int x3_29)] from rfl) ?_
                  exact he51_29 x3_29 m5 h
                · skip
                  refine r_iinc C (v := x2_29 + (-1)) dX10_freeBlock_53 1 rfl rfl (by decide) (show _ = [(2, .int (x2_29 + (-1))), (0, .ref (ad 110)), (3, .int x3_29)] from rfl) ?_
                  refine r_sub C [1, 0, 2] (show _ = [(0, .ref (ad 110)), (2, .int (x2_29 + (-1))), (3, .int x3_29)] from rfl) ?_
                  exact hk56 (x2_29 + (-1)) h
      refine r_sub C [2, 1, 0] (show _ = [(0, .ref (ad 110)), (2, .int p1), (3, .int 2)] from rfl) ?_
      exact L29 5000 p1 2 m1 h
    · skip
      refine r_iconst C (v := 0) dX10_freeBlock_23 (by decide) ?_
      exact r_iret C dX10_freeBlock_24 rfl h
  refine r_if_eq C (tgt := 12) dX10_freeBlock_5 (by decide) h (fun _ h => ?_) (fun _ h => ?_)
  · skip
    refine r_iconst C (v := 1) dX10_freeBlock_12 (by decide) ?_
    exact hk13 1 h
  · skip
    refine r_iconst C (v := 0) dX10_freeBlock_8 (by decide) ?_
    refine r_goto C (tgt := 13) dX10_freeBlock_9 (by decide) ?_
    exact hk13 0 h
noncomputable def f_X10_isWrongPage_L29 (y1_29 : Int32) (y2_29 : Int32) (e119_29 : Int32 → sM → Option (sR Int32)) : Nat → Int32 → Int32 → sM → Option (sR Int32)
  | 0, _, _, _ => none
  | n + 1, x3_29, x4_29, m29_ =>
    if 8 ≤ x4_29 then (e119_29 x3_29 m29_) else (s_bd (f_X10_at y2_29 3 m29_) fun r3 m4 => s_jn (fun (s0_65 : Int32) => s_jn (fun (s0_112 : Int32) (m112_ : sM) => f_X10_isWrongPage_L29 y1_29 y2_29 e119_29 n s0_112 (x4_29 + 1) m112_) fun k112 => s_jn (fun (m107_ : sM) => k112 1 m107_) fun k107 => if x3_29 = 0 then (s_ix (y1_29 + (8 * x4_29)) 192 fun j5 => if s0_65 = (m4.1 115 j5) then (s_jn (fun (m111_ : sM) => k112 0 m111_) fun k111 => if s0_65 = 0 then (k111  m4) else (s_bd (f_X10_at y2_29 (4 + x4_29) m4) fun r6 m7 => s_ix (y1_29 + (8 * x4_29)) 192 fun j8 => if r6 = (m7.1 116 j8) then (k111  m7) else (k107  m7))) else (k107  m4)) else (k107  m4)) fun k65 => if ((r3 >>> (x4_29 &&& 31)) &&& 1) = 1 then (k65 1) else (k65 0))
noncomputable def f_X10_isWrongPage (p1 : Int32) (p2 : Int32) (m : sM) : Option (sR Int32) :=
  s_bd (f_X10_at p2 0 m) fun r1 m2 => s_jn (fun (s0_25 : Int32) (m25_ : sM) => s_jn (fun (x3_119 : Int32) (m119_ : sM) => s_gd (x3_119 = 0 ∨ x3_119 = 1) (some (.inl x3_119, m119_))) fun e119_29 => f_X10_isWrongPage_L29 p1 p2 e119_29 5000 s0_25 0 m25_) fun k25 => s_jn (fun (m20_ : sM) => k25 1 m20_) fun k20 => if r1 = 3 then (s_bd (f_X10_at p2 2 m2) fun r9 m10 => if r9 = p1 then (k25 0 m10) else (k20  m10)) else (k20  m2)
set_option maxRecDepth 20000 in
set_option maxHeartbeats 4000000 in
theorem c_X10_isWrongPage (nw : Nat) (hnw : 29 ≤ nw) (p1 : Int32) (p2 : Int32) : s_Con s_i 110 nw yX10_isWrongPage wsX10_isWrongPage 14 185 0 (f_X10_isWrongPage p1 p2) (fun ad => [.ref (ad 110), .int p1, .int p2]) := by
  refine s_con_of cX10_isWrongPage 7 (some .boolean) RX10 (by decide) rfl rfl (fun _ => Nat.le_of_ble_eq_true rfl) (fun ad m res V C h => ?_)
  unfold f_X10_isWrongPage at h
  have F_i10 : ∀ w ∈ wsX100, w ∈ wsX10_isWrongPage := by decide +kernel
  have F_k22 : Cond.fieldLink RX10 22 "ShadowFileModel" "has" "[Z" ∈ wsX10_isWrongPage := by decide +kernel
  have F_k26 : Cond.fieldLink RX10 26 "ShadowFileModel" "values" "[I" ∈ wsX10_isWrongPage := by decide +kernel
  show V 0 0 [(0, .ref (ad 110)), (1, .int p1), (2, .int p2)] [] m
  refine r_aload_n C dX10_isWrongPage_0 rfl 0 rfl ?_
  refine r_iload_n C dX10_isWrongPage_1 rfl 2 rfl ?_
  refine r_iconst C (v := 0) dX10_isWrongPage_2 (by decide) ?_
  refine r_callV C (c_X10_at nw hnw p2 0) (As := [.int p2, .int 0]) (nn := 2) (stk := [.int 0, .int p2, .ref (ad 110)]) (ci := 10) dX10_isWrongPage_3 gX10_isWrongPage_X10_at ⟨rfl, by decide, by decide, by decide +kernel⟩ (by omega) la_110 rfl rfl rfl (by decide) rfl rfl (Nat.le_of_ble_eq_true rfl) (by decide) h (fun r1 m2 h => ?_)
  show V 0 6 [(0, .ref (ad 110)), (1, .int p1), (2, .int p2)] [.int r1] m2
  refine r_iconst C (v := 3) dX10_isWrongPage_6 (by decide) ?_
  refine s_join h (fun k25 => ∀ (s0_25 : Int32) (m25_ : sM), k25 s0_25 m25_ = some res → V 0 25 [(0, .ref (ad 110)), (1, .int p1), (2, .int p2)] [.int s0_25] m25_) ?_ (fun k25 hk25 h => ?_)
  · intro s0_25 m25_ h
    refine r_istore_n C dX10_isWrongPage_25 rfl (by decide) (show _ = [(3, .int s0_25), (0, .ref (ad 110)), (1, .int p1), (2, .int p2)] from rfl) ?_
    refine r_iconst C (v := 0) dX10_isWrongPage_26 (by decide) ?_
    refine r_istore C dX10_isWrongPage_27 (by decide) (show _ = [(4, .int 0), (3, .int s0_25), (0, .ref (ad 110)), (1, .int p1), (2, .int p2)] from rfl) ?_
    refine s_join h (fun e119_29 => ∀ (x3_119 : Int32) (m119_ : sM), e119_29 x3_119 m119_ = some res → V 0 119 [(3, .int x3_119)] [] m119_) ?_ (fun e119_29 he119_29 h => ?_)
    · intro x3_119 m119_ h
      refine r_iload_n C dX10_isWrongPage_119 rfl 0 rfl ?_
      obtain ⟨hg, h⟩ := s_gd_of h
      exact r_zret C dX10_isWrongPage_120 rfl (s_z hg) h
    have L29 : ∀ (n : Nat) (x3_29 : Int32) (x4_29 : Int32) (m29_ : sM), f_X10_isWrongPage_L29 p1 p2 e119_29 n x3_29 x4_29 m29_ = some res → V 0 29 [(0, .ref (ad 110)), (1, .int p1), (2, .int p2), (3, .int x3_29), (4, .int x4_29)] [] m29_ := by
      intro n
      induction n with
      | zero => intro x3_29 x4_29 m29_ h; rw [f_X10_isWrongPage_L29] at h; cases h
      | succ n ih =>
        intro x3_29 x4_29 m29_ h
        rw [f_X10_isWrongPage_L29] at h
        refine r_iload C dX10_isWrongPage_29 4 rfl ?_
        refine r_bipush C (v := 8) dX10_isWrongPage_31 (by decide) ?_
        refine r_icmp_ge C (tgt := 119) dX10_isWrongPage_33 (by decide) h (fun _ h => ?_) (fun _ h => ?_)
        · skip
          refine r_sub C [3] (show _ = [(3, .int x3_29)] from rfl) ?_
          exact he119_29 x3_29 m29_ h
        · skip
          refine r_iload_n C dX10_isWrongPage_36 rfl 1 rfl ?_
          refine r_bipush C (v := 8) dX10_isWrongPage_37 (by decide) ?_
          refine r_iload C dX10_isWrongPage_39 4 rfl ?_
          refine r_imul C dX10_isWrongPage_41 ?_
          refine r_iadd C dX10_isWrongPage_42 ?_
          refine r_istore C dX10_isWrongPage_43 (by decide) (show _ = [(5, .int (p1 + (8 * x4_29))), (0, .ref (ad 110)), (1, .int p1), (2, .int p2), (3, .int x3_29), (4, .int x4_29)] from rfl) ?_
          refine r_aload_n C dX10_isWrongPage_45 rfl 1 rfl ?_
          refine r_iload_n C dX10_isWrongPage_46 rfl 3 rfl ?_
          refine r_iconst C (v := 3) dX10_isWrongPage_47 (by decide) ?_
          refine r_callV C (c_X10_at nw hnw p2 3) (As := [.int p2, .int 3]) (nn := 2) (stk := [.int 3, .int p2, .ref (ad 110)]) (ci := 10) dX10_isWrongPage_48 gX10_isWrongPage_X10_at ⟨rfl, by decide, by decide, by decide +kernel⟩ (by omega) la_110 rfl rfl rfl (by decide) rfl rfl (Nat.le_of_ble_eq_true rfl) (by decide) h (fun r3 m4 h => ?_)
          show V 0 51 [(5, .int (p1 + (8 * x4_29))), (0, .ref (ad 110)), (1, .int p1), (2, .int p2), (3, .int x3_29), (4, .int x4_29)] [.int r3] m4
          refine r_iload C dX10_isWrongPage_51 5 rfl ?_
          refine r_ishr C dX10_isWrongPage_53 ?_
          refine r_iconst C (v := 1) dX10_isWrongPage_54 (by decide) ?_
          refine r_iand C dX10_isWrongPage_55 ?_
          refine r_iconst C (v := 1) dX10_isWrongPage_56 (by decide) ?_
          refine s_join h (fun k65 => ∀ (s0_65 : Int32), k65 s0_65 = some res → V 0 65 [(0, .ref (ad 110)), (1, .int p1), (2, .int p2), (3, .int x3_29), (4, .int x4_29), (5, .int (p1 + (8 * x4_29)))] [.int s0_65] m4) ?_ (fun k65 hk65 h => ?_)
          · intro s0_65 h
            refine r_istore C dX10_isWrongPage_65 (by decide) (show _ = [(6, .int s0_65), (0, .ref (ad 110)), (1, .int p1), (2, .int p2), (3, .int x3_29), (4, .int x4_29), (5, .int (p1 + (8 * x4_29)))] from rfl) ?_
            refine r_iload_n C dX10_isWrongPage_67 rfl 4 rfl ?_
            refine s_join h (fun k112 => ∀ (s0_112 : Int32) (m112_ : sM), k112 s0_112 m112_ = some res → V 0 112 [(0, .ref (ad 110)), (1, .int p1), (2, .int p2), (4, .int x4_29)] [.int s0_112] m112_) ?_ (fun k112 hk112 h => ?_)
            · intro s0_112 m112_ h
              refine r_istore_n C dX10_isWrongPage_112 rfl (by decide) (show _ = [(3, .int s0_112), (0, .ref (ad 110)), (1, .int p1), (2, .int p2), (4, .int x4_29)] from rfl) ?_
              refine r_iinc C (v := x4_29 + 1) dX10_isWrongPage_113 4 rfl rfl (by decide) (show _ = [(4, .int (x4_29 + 1)), (3, .int s0_112), (0, .ref (ad 110)), (1, .int p1), (2, .int p2)] from rfl) ?_
              refine r_goto C (tgt := 29) dX10_isWrongPage_116 (by decide) ?_
              refine r_sub C [2, 3, 4, 1, 0] (show _ = [(0, .ref (ad 110)), (1, .int p1), (2, .int p2), (3, .int s0_112), (4, .int (x4_29 + 1))] from rfl) ?_
              exact ih s0_112 (x4_29 + 1) m112_ h
            refine s_join h (fun k107 => ∀ (m107_ : sM), k107 m107_ = some res → V 0 107 [(0, .ref (ad 110)), (1, .int p1), (2, .int p2), (4, .int x4_29)] [] m107_) ?_ (fun k107 hk107 h => ?_)
            · intro m107_ h
              refine r_iconst C (v := 1) dX10_isWrongPage_107 (by decide) ?_
              refine r_goto C (tgt := 112) dX10_isWrongPage_108 (by decide) ?_
              exact hk112 1 m107_ h
            refine r_if_ne C (tgt := 107) dX10_isWrongPage_68 (by decide) h (fun _ h => ?_) (fun _ h => ?_)
            · skip
              refine r_iload C dX10_isWrongPage_71 0 rfl ?_
              refine r_aload_n C dX10_isWrongPage_73 rfl 1 rfl ?_
              refine r_getr C (ci := 10) (k9 := 7) dX10_isWrongPage_74 rfl F_i10 (by decide) F_k22 (by omega) la_110 rfl ?_
              refine r_iload C dX10_isWrongPage_77 6 rfl ?_
              refine r_zald C dX10_isWrongPage_79 (by omega) la_115 h (fun j5 hj5 h => ?_)
              refine r_icmp_ne C (tgt := 107) dX10_isWrongPage_80 (by decide) h (fun _ h => ?_) (fun _ h => ?_)
              · skip
                refine r_iload C dX10_isWrongPage_83 0 rfl ?_
                refine s_join h (fun k111 => ∀ (m111_ : sM), k111 m111_ = some res → V 0 111 [(0, .ref (ad 110)), (1, .int p1), (2, .int p2), (4, .int x4_29)] [] m111_) ?_ (fun k111 hk111 h => ?_)
                · intro m111_ h
                  refine r_iconst C (v := 0) dX10_isWrongPage_111 (by decide) ?_
                  exact hk112 0 m111_ h
                refine r_if_eq C (tgt := 111) dX10_isWrongPage_85 (by decide) h (fun _ h => ?_) (fun _ h => ?_)
                · skip
                  refine r_sub C [1, 2, 3, 5] (show _ = [(0, .ref (ad 110)), (1, .int p1), (2, .int p2), (4, .int x4_29)] from rfl) ?_
                  exact hk111 m4 h
                · skip
                  refine r_aload_n C dX10_isWrongPage_88 rfl 1 rfl ?_
                  refine r_iload_n C dX10_isWrongPage_89 rfl 3 rfl ?_
                  refine r_iconst C (v := 4) dX10_isWrongPage_90 (by decide) ?_
                  refine r_iload C dX10_isWrongPage_91 5 rfl ?_
                  refine r_iadd C dX10_isWrongPage_93 ?_
                  refine r_callV C (c_X10_at nw hnw p2 (4 + x4_29)) (As := [.int p2, .int (4 + x4_29)]) (nn := 2) (stk := [.int (4 + x4_29), .int p2, .ref (ad 110)]) (ci := 10) dX10_isWrongPage_94 gX10_isWrongPage_X10_at ⟨rfl, by decide, by decide, by decide +kernel⟩ (by omega) la_110 rfl rfl rfl (by decide) rfl rfl (Nat.le_of_ble_eq_true rfl) (by decide) h (fun r6 m7 h => ?_)
                  show V 0 97 [(6, .int s0_65), (0, .ref (ad 110)), (1, .int p1), (2, .int p2), (3, .int x3_29), (4, .int x4_29), (5, .int (p1 + (8 * x4_29)))] [.int r6] m7
                  refine r_aload_n C dX10_isWrongPage_97 rfl 1 rfl ?_
                  refine r_getr C (ci := 10) (k9 := 8) dX10_isWrongPage_98 rfl F_i10 (by decide) F_k26 (by omega) la_110 rfl ?_
                  refine r_iload C dX10_isWrongPage_101 6 rfl ?_
                  refine r_iald C dX10_isWrongPage_103 (by omega) la_116 h (fun j8 hj8 h => ?_)
                  refine r_icmp_eq C (tgt := 111) dX10_isWrongPage_104 (by decide) h (fun _ h => ?_) (fun _ h => ?_)
                  · skip
                    refine r_sub C [1, 2, 3, 5] (show _ = [(0, .ref (ad 110)), (1, .int p1), (2, .int p2), (4, .int x4_29)] from rfl) ?_
                    exact hk111 m7 h
                  · skip
                    refine r_sub C [1, 2, 3, 5] (show _ = [(0, .ref (ad 110)), (1, .int p1), (2, .int p2), (4, .int x4_29)] from rfl) ?_
                    exact hk107 m7 h
              · skip
                refine r_sub C [1, 2, 3, 5] (show _ = [(0, .ref (ad 110)), (1, .int p1), (2, .int p2), (4, .int x4_29)] from rfl) ?_
                exact hk107 m4 h
            · skip
              refine r_sub C [1, 2, 3, 5] (show _ = [(0, .ref (ad 110)), (1, .int p1), (2, .int p2), (4, .int x4_29)] from rfl) ?_
              exact hk107 m4 h
          refine r_icmp_ne C (tgt := 64) dX10_isWrongPage_57 (by decide) h (fun _ h => ?_) (fun _ h => ?_)
          · skip
            refine r_iconst C (v := 1) dX10_isWrongPage_60 (by decide) ?_
            refine r_goto C (tgt := 65) dX10_isWrongPage_61 (by decide) ?_
            refine r_sub C [1, 2, 3, 4, 5, 0] (show _ = [(0, .ref (ad 110)), (1, .int p1), (2, .int p2), (3, .int x3_29), (4, .int x4_29), (5, .int (p1 + (8 * x4_29)))] from rfl) ?_
            exact hk65 1 h
          · skip
            refine r_iconst C (v := 0) dX10_isWrongPage_64 (by decide) ?_
            refine r_sub C [1, 2, 3, 4, 5, 0] (show _ = [(0, .ref (ad 110)), (1, .int p1), (2, .int p2), (3, .int x3_29), (4, .int x4_29), (5, .int (p1 + (8 * x4_29)))] from rfl) ?_
            exact hk65 0 h
    refine r_sub C [2, 3, 4, 1, 0] (show _ = [(0, .ref (ad 110)), (1, .int p1), (2, .int p2), (3, .int s0_25), (4, .int 0)] from rfl) ?_
    exact L29 5000 s0_25 0 m25_ h
  refine s_join h (fun k20 => ∀ (m20_ : sM), k20 m20_ = some res → V 0 20 [(0, .ref (ad 110)), (1, .int p1), (2, .int p2)] [] m20_) ?_ (fun k20 hk20 h => ?_)
  · intro m20_ h
    refine r_iconst C (v := 1) dX10_isWrongPage_20 (by decide) ?_
    refine r_goto C (tgt := 25) dX10_isWrongPage_21 (by decide) ?_
    exact hk25 1 m20_ h
  refine r_icmp_ne C (tgt := 20) dX10_isWrongPage_7 (by decide) h (fun _ h => ?_) (fun _ h => ?_)
  · skip
    refine r_aload_n C dX10_isWrongPage_10 rfl 0 rfl ?_
    refine r_iload_n C dX10_isWrongPage_11 rfl 2 rfl ?_
    refine r_iconst C (v := 2) dX10_isWrongPage_12 (by decide) ?_
    refine r_callV C (c_X10_at nw hnw p2 2) (As := [.int p2, .int 2]) (nn := 2) (stk := [.int 2, .int p2, .ref (ad 110)]) (ci := 10) dX10_isWrongPage_13 gX10_isWrongPage_X10_at ⟨rfl, by decide, by decide, by decide +kernel⟩ (by omega) la_110 rfl rfl rfl (by decide) rfl rfl (Nat.le_of_ble_eq_true rfl) (by decide) h (fun r9 m10 h => ?_)
    show V 0 16 [(0, .ref (ad 110)), (1, .int p1), (2, .int p2)] [.int r9] m10
    refine r_iload_n C dX10_isWrongPage_16 rfl 1 rfl ?_
    refine r_icmp_eq C (tgt := 24) dX10_isWrongPage_17 (by decide) h (fun _ h => ?_) (fun _ h => ?_)
    · skip
      refine r_iconst C (v := 0) dX10_isWrongPage_24 (by decide) ?_
      exact hk25 0 m10 h
    · skip
      exact hk20 m10 h
  · skip
    exact hk20 m2 h
noncomputable def f_X10_isWrong_L132 (y1_132 : Int32) (e215_132 : Int32 → sM → Option (sR Int32)) : Nat → Int32 → Int32 → sM → Option (sR Int32)
  | 0, _, _, _ => none
  | n + 1, x3_132, x4_132, m132_ =>
    if 8 ≤ x4_132 then (e215_132 x3_132 m132_) else (s_jn (fun (s0_177 : Int32) (m177_ : sM) => s_jn (fun (s0_208 : Int32) (m208_ : sM) => f_X10_isWrong_L132 y1_132 e215_132 n s0_208 (x4_132 + 1) m208_) fun k208 => s_jn (fun (m203_ : sM) => k208 1 m203_) fun k203 => if s0_177 = 0 then (s_ix x4_132 24 fun j1 => s_jn (fun (m207_ : sM) => k208 0 m207_) fun k207 => if y1_132 = (m177_.1 114 j1) then (s_bd (f_X10_isWrongPage x4_132 y1_132 m177_) fun r2 m3 => if r2 = 0 then (k207  m3) else (k203  m3)) else (k207  m177_)) else (k203  m177_)) fun k177 => s_jn (fun (m172_ : sM) => k177 1 m172_) fun k172 => if x3_132 = 0 then (s_ix 0 3 fun j4 => s_jn (fun (m176_ : sM) => k177 0 m176_) fun k176 => if y1_132 = (m132_.1 113 j4) then (s_bd (f_X10_at y1_132 (4 + x4_132) m132_) fun r5 m6 => s_ix x4_132 24 fun j7 => if r5 = (m6.1 114 j7) then (k176  m6) else (k172  m6)) else (k176  m132_)) else (k172  m132_))
noncomputable def f_X10_isWrong (p1 : Int32) (m : sM) : Option (sR Int32) :=
  s_jn (fun (s0_22 : Int32) (m22_ : sM) => s_jn (fun (s0_40 : Int32) (m40_ : sM) => s_jn (fun (x3_99 : Int32) (m99_ : sM) => s_jn (fun (s0_128 : Int32) (m128_ : sM) => s_jn (fun (x3_215 : Int32) (m215_ : sM) => s_gd (x3_215 = 0 ∨ x3_215 = 1) (some (.inl x3_215, m215_))) fun e215_132 => f_X10_isWrong_L132 p1 e215_132 5000 s0_128 0 m128_) fun k128 => s_jn (fun (m123_ : sM) => k128 1 m123_) fun k123 => if x3_99 = 0 then (s_ix 0 3 fun j8 => s_jn (fun (m127_ : sM) => k128 0 m127_) fun k127 => if p1 = (m99_.1 113 j8) then (s_bd (f_X10_at p1 0 m99_) fun r9 m10 => if r9 = 2 then (k127  m10) else (k123  m10)) else (k127  m99_)) else (k123  m99_)) fun k99 => if p1 = (m40_.1 110 3) then (s_jn (fun (s0_98 : Int32) (m98_ : sM) => k99 s0_98 m98_) fun k98 => s_jn (fun (m93_ : sM) => k98 1 m93_) fun k93 => if s0_40 = 0 then (s_bd (f_X10_at p1 0 m40_) fun r11 m12 => if r11 = 1 then (s_bd (f_X10_at p1 1 m12) fun r13 m14 => s_ix 0 3 fun j15 => if r13 = (m14.1 112 j15) then (s_bd (f_X10_at p1 2 m14) fun r16 m17 => s_ix 0 3 fun j18 => if r16 = (m17.1 113 j18) then (k98 0 m17) else (k93  m17)) else (k93  m14)) else (k93  m12)) else (k93  m40_)) else (k99 s0_40 m40_)) fun k40 => s_jn (fun (m39_ : sM) => k40 0 m39_) fun k39 => if s0_22 = 0 then (k39  m22_) else (s_bd (f_X10_valid p1 m22_) fun r19 m20 => if r19 = 0 then (k40 1 m20) else (k39  m20))) fun k22 => s_jn (fun (m17_ : sM) => k22 1 m17_) fun k17 => if p1 = (m.1 110 3) then (k17  m) else (s_bd (f_X10_isUsedBy 0 p1 m) fun r21 m22 => if r21 = 0 then (k22 0 m22) else (k17  m22))
set_option maxRecDepth 20000 in
set_option maxHeartbeats 4000000 in
theorem c_X10_isWrong (nw : Nat) (hnw : 29 ≤ nw) (p1 : Int32) : s_Con s_i 110 nw yX10_isWrong wsX10_isWrong 18 275 0 (f_X10_isWrong p1) (fun ad => [.ref (ad 110), .int p1]) := by
  refine s_con_of cX10_isWrong 5 (some .boolean) RX10 (by decide) rfl rfl (fun _ => Nat.le_of_ble_eq_true rfl) (fun ad m res V C h => ?_)
  unfold f_X10_isWrong at h
  have F_i10 : ∀ w ∈ wsX100, w ∈ wsX10_isWrong := by decide +kernel
  have F_k127 : Cond.fieldLink RX10 127 "ShadowFileModel" "rootBlock" "I" ∈ wsX10_isWrong := by decide +kernel
  have F_k19 : Cond.fieldLink RX10 19 "ShadowFileModel" "pageOf" "[I" ∈ wsX10_isWrong := by decide +kernel
  have F_k16 : Cond.fieldLink RX10 16 "ShadowFileModel" "tableOf" "[I" ∈ wsX10_isWrong := by decide +kernel
  have F_k13 : Cond.fieldLink RX10 13 "ShadowFileModel" "number" "[I" ∈ wsX10_isWrong := by decide +kernel
  show V 0 0 [(0, .ref (ad 110)), (1, .int p1)] [] m
  refine r_iload_n C dX10_isWrong_0 rfl 1 rfl ?_
  refine r_aload_n C dX10_isWrong_1 rfl 0 rfl ?_
  refine r_geti C (ci := 10) (k9 := 3) dX10_isWrong_2 rfl F_i10 (by decide) F_k127 (by omega) la_110 rfl ?_
  refine s_join h (fun k22 => ∀ (s0_22 : Int32) (m22_ : sM), k22 s0_22 m22_ = some res → V 0 22 [(0, .ref (ad 110)), (1, .int p1)] [.int s0_22] m22_) ?_ (fun k22 hk22 h => ?_)
  · intro s0_22 m22_ h
    refine r_istore_n C dX10_isWrong_22 rfl (by decide) (show _ = [(2, .int s0_22), (0, .ref (ad 110)), (1, .int p1)] from rfl) ?_
    refine r_iload_n C dX10_isWrong_23 rfl 0 rfl ?_
    refine s_join h (fun k40 => ∀ (s0_40 : Int32) (m40_ : sM), k40 s0_40 m40_ = some res → V 0 40 [(0, .ref (ad 110)), (1, .int p1)] [.int s0_40] m40_) ?_ (fun k40 hk40 h => ?_)
    · intro s0_40 m40_ h
      refine r_istore_n C dX10_isWrong_40 rfl (by decide) (show _ = [(3, .int s0_40), (0, .ref (ad 110)), (1, .int p1)] from rfl) ?_
      refine r_iload_n C dX10_isWrong_41 rfl 2 rfl ?_
      refine r_aload_n C dX10_isWrong_42 rfl 1 rfl ?_
      refine r_geti C (ci := 10) (k9 := 3) dX10_isWrong_43 rfl F_i10 (by decide) F_k127 (by omega) la_110 rfl ?_
      refine s_join h (fun k99 => ∀ (x3_99 : Int32) (m99_ : sM), k99 x3_99 m99_ = some res → V 0 99 [(0, .ref (ad 110)), (1, .int p1), (3, .int x3_99)] [] m99_) ?_ (fun k99 hk99 h => ?_)
      · intro x3_99 m99_ h
        refine r_iload_n C dX10_isWrong_99 rfl 2 rfl ?_
        refine s_join h (fun k128 => ∀ (s0_128 : Int32) (m128_ : sM), k128 s0_128 m128_ = some res → V 0 128 [(0, .ref (ad 110)), (1, .int p1)] [.int s0_128] m128_) ?_ (fun k128 hk128 h => ?_)
        · intro s0_128 m128_ h
          refine r_istore_n C dX10_isWrong_128 rfl (by decide) (show _ = [(3, .int s0_128), (0, .ref (ad 110)), (1, .int p1)] from rfl) ?_
          refine r_iconst C (v := 0) dX10_isWrong_129 (by decide) ?_
          refine r_istore C dX10_isWrong_130 (by decide) (show _ = [(4, .int 0), (3, .int s0_128), (0, .ref (ad 110)), (1, .int p1)] from rfl) ?_
          refine s_join h (fun e215_132 => ∀ (x3_215 : Int32) (m215_ : sM), e215_132 x3_215 m215_ = some res → V 0 215 [(3, .int x3_215)] [] m215_) ?_ (fun e215_132 he215_132 h => ?_)
          · intro x3_215 m215_ h
            refine r_iload_n C dX10_isWrong_215 rfl 0 rfl ?_
            obtain ⟨hg, h⟩ := s_gd_of h
            exact r_zret C dX10_isWrong_216 rfl (s_z hg) h
          have L132 : ∀ (n : Nat) (x3_132 : Int32) (x4_132 : Int32) (m132_ : sM), f_X10_isWrong_L132 p1 e215_132 n x3_132 x4_132 m132_ = some res → V 0 132 [(0, .ref (ad 110)), (1, .int p1), (3, .int x3_132), (4, .int x4_132)] [] m132_ := by
            intro n
            induction n with
            | zero => intro x3_132 x4_132 m132_ h; rw [f_X10_isWrong_L132] at h; cases h
            | succ n ih =>
              intro x3_132 x4_132 m132_ h
              rw [f_X10_isWrong_L132] at h
              refine r_iload C dX10_isWrong_132 3 rfl ?_
              refine r_bipush C (v := 8) dX10_isWrong_134 (by decide) ?_
              refine r_icmp_ge C (tgt := 215) dX10_isWrong_136 (by decide) h (fun _ h => ?_) (fun _ h => ?_)
              · skip
                refine r_sub C [2] (show _ = [(3, .int x3_132)] from rfl) ?_
                exact he215_132 x3_132 m132_ h
              · skip
                refine r_iload_n C dX10_isWrong_139 rfl 2 rfl ?_
                refine s_join h (fun k177 => ∀ (s0_177 : Int32) (m177_ : sM), k177 s0_177 m177_ = some res → V 0 177 [(0, .ref (ad 110)), (1, .int p1), (4, .int x4_132)] [.int s0_177] m177_) ?_ (fun k177 hk177 h => ?_)
                · intro s0_177 m177_ h
                  refine r_istore_n C dX10_isWrong_177 rfl (by decide) (show _ = [(3, .int s0_177), (0, .ref (ad 110)), (1, .int p1), (4, .int x4_132)] from rfl) ?_
                  refine r_iload_n C dX10_isWrong_178 rfl 0 rfl ?_
                  refine s_join h (fun k208 => ∀ (s0_208 : Int32) (m208_ : sM), k208 s0_208 m208_ = some res → V 0 208 [(0, .ref (ad 110)), (1, .int p1), (4, .int x4_132)] [.int s0_208] m208_) ?_ (fun k208 hk208 h => ?_)
                  · intro s0_208 m208_ h
                    refine r_istore_n C dX10_isWrong_208 rfl (by decide) (show _ = [(3, .int s0_208), (0, .ref (ad 110)), (1, .int p1), (4, .int x4_132)] from rfl) ?_
                    refine r_iinc C (v := x4_132 + 1) dX10_isWrong_209 3 rfl rfl (by decide) (show _ = [(4, .int (x4_132 + 1)), (3, .int s0_208), (0, .ref (ad 110)), (1, .int p1)] from rfl) ?_
                    refine r_goto C (tgt := 132) dX10_isWrong_212 (by decide) ?_
                    refine r_sub C [2, 3, 1, 0] (show _ = [(0, .ref (ad 110)), (1, .int p1), (3, .int s0_208), (4, .int (x4_132 + 1))] from rfl) ?_
                    exact ih s0_208 (x4_132 + 1) m208_ h
                  refine s_join h (fun k203 => ∀ (m203_ : sM), k203 m203_ = some res → V 0 203 [(0, .ref (ad 110)), (1, .int p1), (4, .int x4_132)] [] m203_) ?_ (fun k203 hk203 h => ?_)
                  · intro m203_ h
                    refine r_iconst C (v := 1) dX10_isWrong_203 (by decide) ?_
                    refine r_goto C (tgt := 208) dX10_isWrong_204 (by decide) ?_
                    exact hk208 1 m203_ h
                  refine r_if_ne C (tgt := 203) dX10_isWrong_179 (by decide) h (fun _ h => ?_) (fun _ h => ?_)
                  · skip
                    refine r_iload_n C dX10_isWrong_182 rfl 2 rfl ?_
                    refine r_aload_n C dX10_isWrong_183 rfl 1 rfl ?_
                    refine r_getr C (ci := 10) (k9 := 6) dX10_isWrong_184 rfl F_i10 (by decide) F_k19 (by omega) la_110 rfl ?_
                    refine r_iload C dX10_isWrong_187 3 rfl ?_
                    refine r_iald C dX10_isWrong_189 (by omega) la_114 h (fun j1 hj1 h => ?_)
                    refine s_join h (fun k207 => ∀ (m207_ : sM), k207 m207_ = some res → V 0 207 [(0, .ref (ad 110)), (1, .int p1), (4, .int x4_132)] [] m207_) ?_ (fun k207 hk207 h => ?_)
                    · intro m207_ h
                      refine r_iconst C (v := 0) dX10_isWrong_207 (by decide) ?_
                      exact hk208 0 m207_ h
                    refine r_icmp_ne C (tgt := 207) dX10_isWrong_190 (by decide) h (fun _ h => ?_) (fun _ h => ?_)
                    · skip
                      refine r_aload_n C dX10_isWrong_193 rfl 1 rfl ?_
                      refine r_iload C dX10_isWrong_194 3 rfl ?_
                      refine r_iload_n C dX10_isWrong_196 rfl 2 rfl ?_
                      refine r_callV C (c_X10_isWrongPage nw hnw x4_132 p1) (As := [.int x4_132, .int p1]) (nn := 2) (stk := [.int p1, .int x4_132, .ref (ad 110)]) (ci := 10) dX10_isWrong_197 gX10_isWrong_X10_isWrongPage ⟨rfl, by decide, by decide, by decide +kernel⟩ (by omega) la_110 rfl rfl rfl (by decide) rfl rfl (Nat.le_of_ble_eq_true rfl) (by decide) h (fun r2 m3 h => ?_)
                      show V 0 200 [(3, .int s0_177), (0, .ref (ad 110)), (1, .int p1), (4, .int x4_132)] [.int r2] m3
                      refine r_if_eq C (tgt := 207) dX10_isWrong_200 (by decide) h (fun _ h => ?_) (fun _ h => ?_)
                      · skip
                        refine r_sub C [1, 2, 3] (show _ = [(0, .ref (ad 110)), (1, .int p1), (4, .int x4_132)] from rfl) ?_
                        exact hk207 m3 h
                      · skip
                        refine r_sub C [1, 2, 3] (show _ = [(0, .ref (ad 110)), (1, .int p1), (4, .int x4_132)] from rfl) ?_
                        exact hk203 m3 h
                    · skip
                      refine r_sub C [1, 2, 3] (show _ = [(0, .ref (ad 110)), (1, .int p1), (4, .int x4_132)] from rfl) ?_
                      exact hk207 m177_ h
                  · skip
                    refine r_sub C [1, 2, 3] (show _ = [(0, .ref (ad 110)), (1, .int p1), (4, .int x4_132)] from rfl) ?_
                    exact hk203 m177_ h
                refine s_join h (fun k172 => ∀ (m172_ : sM), k172 m172_ = some res → V 0 172 [(0, .ref (ad 110)), (1, .int p1), (4, .int x4_132)] [] m172_) ?_ (fun k172 hk172 h => ?_)
                · intro m172_ h
                  refine r_iconst C (v := 1) dX10_isWrong_172 (by decide) ?_
                  refine r_goto C (tgt := 177) dX10_isWrong_173 (by decide) ?_
                  exact hk177 1 m172_ h
                refine r_if_ne C (tgt := 172) dX10_isWrong_140 (by decide) h (fun _ h => ?_) (fun _ h => ?_)
                · skip
                  refine r_iload_n C dX10_isWrong_143 rfl 1 rfl ?_
                  refine r_aload_n C dX10_isWrong_144 rfl 0 rfl ?_
                  refine r_getr C (ci := 10) (k9 := 5) dX10_isWrong_145 rfl F_i10 (by decide) F_k16 (by omega) la_110 rfl ?_
                  refine r_iconst C (v := 0) dX10_isWrong_148 (by decide) ?_
                  refine r_iald C dX10_isWrong_149 (by omega) la_113 h (fun j4 hj4 h => ?_)
                  refine s_join h (fun k176 => ∀ (m176_ : sM), k176 m176_ = some res → V 0 176 [(0, .ref (ad 110)), (1, .int p1), (4, .int x4_132)] [] m176_) ?_ (fun k176 hk176 h => ?_)
                  · intro m176_ h
                    refine r_iconst C (v := 0) dX10_isWrong_176 (by decide) ?_
                    exact hk177 0 m176_ h
                  refine r_icmp_ne C (tgt := 176) dX10_isWrong_150 (by decide) h (fun _ h => ?_) (fun _ h => ?_)
                  · skip
                    refine r_aload_n C dX10_isWrong_153 rfl 0 rfl ?_
                    refine r_iload_n C dX10_isWrong_154 rfl 1 rfl ?_
                    refine r_iconst C (v := 4) dX10_isWrong_155 (by decide) ?_
                    refine r_iload C dX10_isWrong_156 3 rfl ?_
                    refine r_iadd C dX10_isWrong_158 ?_
                    refine r_callV C (c_X10_at nw hnw p1 (4 + x4_132)) (As := [.int p1, .int (4 + x4_132)]) (nn := 2) (stk := [.int (4 + x4_132), .int p1, .ref (ad 110)]) (ci := 10) dX10_isWrong_159 gX10_isWrong_X10_at ⟨rfl, by decide, by decide, by decide +kernel⟩ (by omega) la_110 rfl rfl rfl (by decide) rfl rfl (Nat.le_of_ble_eq_true rfl) (by decide) h (fun r5 m6 h => ?_)
                    show V 0 162 [(0, .ref (ad 110)), (1, .int p1), (3, .int x3_132), (4, .int x4_132)] [.int r5] m6
                    refine r_aload_n C dX10_isWrong_162 rfl 0 rfl ?_
                    refine r_getr C (ci := 10) (k9 := 6) dX10_isWrong_163 rfl F_i10 (by decide) F_k19 (by omega) la_110 rfl ?_
                    refine r_iload C dX10_isWrong_166 3 rfl ?_
                    refine r_iald C dX10_isWrong_168 (by omega) la_114 h (fun j7 hj7 h => ?_)
                    refine r_icmp_eq C (tgt := 176) dX10_isWrong_169 (by decide) h (fun _ h => ?_) (fun _ h => ?_)
                    · skip
                      refine r_sub C [0, 1, 3] (show _ = [(0, .ref (ad 110)), (1, .int p1), (4, .int x4_132)] from rfl) ?_
                      exact hk176 m6 h
                    · skip
                      refine r_sub C [0, 1, 3] (show _ = [(0, .ref (ad 110)), (1, .int p1), (4, .int x4_132)] from rfl) ?_
                      exact hk172 m6 h
                  · skip
                    refine r_sub C [0, 1, 3] (show _ = [(0, .ref (ad 110)), (1, .int p1), (4, .int x4_132)] from rfl) ?_
                    exact hk176 m132_ h
                · skip
                  refine r_sub C [0, 1, 3] (show _ = [(0, .ref (ad 110)), (1, .int p1), (4, .int x4_132)] from rfl) ?_
                  exact hk172 m132_ h
          refine r_sub C [2, 3, 1, 0] (show _ = [(0, .ref (ad 110)), (1, .int p1), (3, .int s0_128), (4, .int 0)] from rfl) ?_
          exact L132 5000 s0_128 0 m128_ h
        refine s_join h (fun k123 => ∀ (m123_ : sM), k123 m123_ = some res → V 0 123 [(0, .ref (ad 110)), (1, .int p1)] [] m123_) ?_ (fun k123 hk123 h => ?_)
        · intro m123_ h
          refine r_iconst C (v := 1) dX10_isWrong_123 (by decide) ?_
          refine r_goto C (tgt := 128) dX10_isWrong_124 (by decide) ?_
          exact hk128 1 m123_ h
        refine r_if_ne C (tgt := 123) dX10_isWrong_100 (by decide) h (fun _ h => ?_) (fun _ h => ?_)
        · skip
          refine r_iload_n C dX10_isWrong_103 rfl 1 rfl ?_
          refine r_aload_n C dX10_isWrong_104 rfl 0 rfl ?_
          refine r_getr C (ci := 10) (k9 := 5) dX10_isWrong_105 rfl F_i10 (by decide) F_k16 (by omega) la_110 rfl ?_
          refine r_iconst C (v := 0) dX10_isWrong_108 (by decide) ?_
          refine r_iald C dX10_isWrong_109 (by omega) la_113 h (fun j8 hj8 h => ?_)
          refine s_join h (fun k127 => ∀ (m127_ : sM), k127 m127_ = some res → V 0 127 [(0, .ref (ad 110)), (1, .int p1)] [] m127_) ?_ (fun k127 hk127 h => ?_)
          · intro m127_ h
            refine r_iconst C (v := 0) dX10_isWrong_127 (by decide) ?_
            exact hk128 0 m127_ h
          refine r_icmp_ne C (tgt := 127) dX10_isWrong_110 (by decide) h (fun _ h => ?_) (fun _ h => ?_)
          · skip
            refine r_aload_n C dX10_isWrong_113 rfl 0 rfl ?_
            refine r_iload_n C dX10_isWrong_114 rfl 1 rfl ?_
            refine r_iconst C (v := 0) dX10_isWrong_115 (by decide) ?_
            refine r_callV C (c_X10_at nw hnw p1 0) (As := [.int p1, .int 0]) (nn := 2) (stk := [.int 0, .int p1, .ref (ad 110)]) (ci := 10) dX10_isWrong_116 gX10_isWrong_X10_at ⟨rfl, by decide, by decide, by decide +kernel⟩ (by omega) la_110 rfl rfl rfl (by decide) rfl rfl (Nat.le_of_ble_eq_true rfl) (by decide) h (fun r9 m10 h => ?_)
            show V 0 119 [(0, .ref (ad 110)), (1, .int p1), (3, .int x3_99)] [.int r9] m10
            refine r_iconst C (v := 2) dX10_isWrong_119 (by decide) ?_
            refine r_icmp_eq C (tgt := 127) dX10_isWrong_120 (by decide) h (fun _ h => ?_) (fun _ h => ?_)
            · skip
              refine r_sub C [0, 1] (show _ = [(0, .ref (ad 110)), (1, .int p1)] from rfl) ?_
              exact hk127 m10 h
            · skip
              refine r_sub C [0, 1] (show _ = [(0, .ref (ad 110)), (1, .int p1)] from rfl) ?_
              exact hk123 m10 h
          · skip
            refine r_sub C [0, 1] (show _ = [(0, .ref (ad 110)), (1, .int p1)] from rfl) ?_
            exact hk127 m99_ h
        · skip
          refine r_sub C [0, 1] (show _ = [(0, .ref (ad 110)), (1, .int p1)] from rfl) ?_
          exact hk123 m99_ h
      refine r_icmp_ne C (tgt := 99) dX10_isWrong_46 (by decide) h (fun _ h => ?_) (fun _ h => ?_)
      · skip
        refine r_iload_n C dX10_isWrong_49 rfl 0 rfl ?_
        refine s_join h (fun k98 => ∀ (s0_98 : Int32) (m98_ : sM), k98 s0_98 m98_ = some res → V 0 98 [(0, .ref (ad 110)), (1, .int p1)] [.int s0_98] m98_) ?_ (fun k98 hk98 h => ?_)
        · intro s0_98 m98_ h
          refine r_istore_n C dX10_isWrong_98 rfl (by decide) (show _ = [(3, .int s0_98), (0, .ref (ad 110)), (1, .int p1)] from rfl) ?_
          refine r_sub C [1, 2, 0] (show _ = [(0, .ref (ad 110)), (1, .int p1), (3, .int s0_98)] from rfl) ?_
          exact hk99 s0_98 m98_ h
        refine s_join h (fun k93 => ∀ (m93_ : sM), k93 m93_ = some res → V 0 93 [(0, .ref (ad 110)), (1, .int p1)] [] m93_) ?_ (fun k93 hk93 h => ?_)
        · intro m93_ h
          refine r_iconst C (v := 1) dX10_isWrong_93 (by decide) ?_
          refine r_goto C (tgt := 98) dX10_isWrong_94 (by decide) ?_
          exact hk98 1 m93_ h
        refine r_if_ne C (tgt := 93) dX10_isWrong_50 (by decide) h (fun _ h => ?_) (fun _ h => ?_)
        · skip
          refine r_aload_n C dX10_isWrong_53 rfl 1 rfl ?_
          refine r_iload_n C dX10_isWrong_54 rfl 2 rfl ?_
          refine r_iconst C (v := 0) dX10_isWrong_55 (by decide) ?_
          refine r_callV C (c_X10_at nw hnw p1 0) (As := [.int p1, .int 0]) (nn := 2) (stk := [.int 0, .int p1, .ref (ad 110)]) (ci := 10) dX10_isWrong_56 gX10_isWrong_X10_at ⟨rfl, by decide, by decide, by decide +kernel⟩ (by omega) la_110 rfl rfl rfl (by decide) rfl rfl (Nat.le_of_ble_eq_true rfl) (by decide) h (fun r11 m12 h => ?_)
          show V 0 59 [(3, .int s0_40), (0, .ref (ad 110)), (1, .int p1)] [.int r11] m12
          refine r_iconst C (v := 1) dX10_isWrong_59 (by decide) ?_
          refine r_icmp_ne C (tgt := 93) dX10_isWrong_60 (by decide) h (fun _ h => ?_) (fun _ h => ?_)
          · skip
            refine r_aload_n C dX10_isWrong_63 rfl 1 rfl ?_
            refine r_iload_n C dX10_isWrong_64 rfl 2 rfl ?_
            refine r_iconst C (v := 1) dX10_isWrong_65 (by decide) ?_
            refine r_callV C (c_X10_at nw hnw p1 1) (As := [.int p1, .int 1]) (nn := 2) (stk := [.int 1, .int p1, .ref (ad 110)]) (ci := 10) dX10_isWrong_66 gX10_isWrong_X10_at ⟨rfl, by decide, by decide, by decide +kernel⟩ (by omega) la_110 rfl rfl rfl (by decide) rfl rfl (Nat.le_of_ble_eq_true rfl) (by decide) h (fun r13 m14 h => ?_)
            show V 0 69 [(3, .int s0_40), (0, .ref (ad 110)), (1, .int p1)] [.int r13] m14
            refine r_aload_n C dX10_isWrong_69 rfl 1 rfl ?_
            refine r_getr C (ci := 10) (k9 := 4) dX10_isWrong_70 rfl F_i10 (by decide) F_k13 (by omega) la_110 rfl ?_
            refine r_iconst C (v := 0) dX10_isWrong_73 (by decide) ?_
            refine r_iald C dX10_isWrong_74 (by omega) la_112 h (fun j15 hj15 h => ?_)
            refine r_icmp_ne C (tgt := 93) dX10_isWrong_75 (by decide) h (fun _ h => ?_) (fun _ h => ?_)
            · skip
              refine r_aload_n C dX10_isWrong_78 rfl 1 rfl ?_
              refine r_iload_n C dX10_isWrong_79 rfl 2 rfl ?_
              refine r_iconst C (v := 2) dX10_isWrong_80 (by decide) ?_
              refine r_callV C (c_X10_at nw hnw p1 2) (As := [.int p1, .int 2]) (nn := 2) (stk := [.int 2, .int p1, .ref (ad 110)]) (ci := 10) dX10_isWrong_81 gX10_isWrong_X10_at ⟨rfl, by decide, by decide, by decide +kernel⟩ (by omega) la_110 rfl rfl rfl (by decide) rfl rfl (Nat.le_of_ble_eq_true rfl) (by decide) h (fun r16 m17 h => ?_)
              show V 0 84 [(3, .int s0_40), (0, .ref (ad 110)), (1, .int p1)] [.int r16] m17
              refine r_aload_n C dX10_isWrong_84 rfl 1 rfl ?_
              refine r_getr C (ci := 10) (k9 := 5) dX10_isWrong_85 rfl F_i10 (by decide) F_k16 (by omega) la_110 rfl ?_
              refine r_iconst C (v := 0) dX10_isWrong_88 (by decide) ?_
              refine r_iald C dX10_isWrong_89 (by omega) la_113 h (fun j18 hj18 h => ?_)
              refine r_icmp_eq C (tgt := 97) dX10_isWrong_90 (by decide) h (fun _ h => ?_) (fun _ h => ?_)
              · skip
                refine r_iconst C (v := 0) dX10_isWrong_97 (by decide) ?_
                refine r_sub C [1, 2] (show _ = [(0, .ref (ad 110)), (1, .int p1)] from rfl) ?_
                exact hk98 0 m17 h
              · skip
                refine r_sub C [1, 2] (show _ = [(0, .ref (ad 110)), (1, .int p1)] from rfl) ?_
                exact hk93 m17 h
            · skip
              refine r_sub C [1, 2] (show _ = [(0, .ref (ad 110)), (1, .int p1)] from rfl) ?_
              exact hk93 m14 h
          · skip
            refine r_sub C [1, 2] (show _ = [(0, .ref (ad 110)), (1, .int p1)] from rfl) ?_
            exact hk93 m12 h
        · skip
          refine r_sub C [1, 2] (show _ = [(0, .ref (ad 110)), (1, .int p1)] from rfl) ?_
          exact hk93 m40_ h
      · skip
        refine r_sub C [1, 2, 0] (show _ = [(0, .ref (ad 110)), (1, .int p1), (3, .int s0_40)] from rfl) ?_
        exact hk99 s0_40 m40_ h
    refine s_join h (fun k39 => ∀ (m39_ : sM), k39 m39_ = some res → V 0 39 [(0, .ref (ad 110)), (1, .int p1)] [] m39_) ?_ (fun k39 hk39 h => ?_)
    · intro m39_ h
      refine r_iconst C (v := 0) dX10_isWrong_39 (by decide) ?_
      exact hk40 0 m39_ h
    refine r_if_eq C (tgt := 39) dX10_isWrong_24 (by decide) h (fun _ h => ?_) (fun _ h => ?_)
    · skip
      refine r_sub C [1, 2] (show _ = [(0, .ref (ad 110)), (1, .int p1)] from rfl) ?_
      exact hk39 m22_ h
    · skip
      refine r_aload_n C dX10_isWrong_27 rfl 1 rfl ?_
      refine r_iload_n C dX10_isWrong_28 rfl 2 rfl ?_
      refine r_callV C (c_X10_valid nw hnw p1) (As := [.int p1]) (nn := 1) (stk := [.int p1, .ref (ad 110)]) (ci := 10) dX10_isWrong_29 gX10_isWrong_X10_valid ⟨rfl, by decide, by decide, by decide +kernel⟩ (by omega) la_110 rfl rfl rfl (by decide) rfl rfl (Nat.le_of_ble_eq_true rfl) (by decide) h (fun r19 m20 h => ?_)
      show V 0 32 [(2, .int s0_22), (0, .ref (ad 110)), (1, .int p1)] [.int r19] m20
      refine r_if_ne C (tgt := 39) dX10_isWrong_32 (by decide) h (fun _ h => ?_) (fun _ h => ?_)
      · skip
        refine r_iconst C (v := 1) dX10_isWrong_35 (by decide) ?_
        refine r_goto C (tgt := 40) dX10_isWrong_36 (by decide) ?_
        refine r_sub C [1, 2] (show _ = [(0, .ref (ad 110)), (1, .int p1)] from rfl) ?_
        exact hk40 1 m20 h
      · skip
        refine r_sub C [1, 2] (show _ = [(0, .ref (ad 110)), (1, .int p1)] from rfl) ?_
        exact hk39 m20 h
  refine s_join h (fun k17 => ∀ (m17_ : sM), k17 m17_ = some res → V 0 17 [(0, .ref (ad 110)), (1, .int p1)] [] m17_) ?_ (fun k17 hk17 h => ?_)
  · intro m17_ h
    refine r_iconst C (v := 1) dX10_isWrong_17 (by decide) ?_
    refine r_goto C (tgt := 22) dX10_isWrong_18 (by decide) ?_
    exact hk22 1 m17_ h
  refine r_icmp_eq C (tgt := 17) dX10_isWrong_5 (by decide) h (fun _ h => ?_) (fun _ h => ?_)
  · skip
    exact hk17 m h
  · skip
    refine r_aload_n C dX10_isWrong_8 rfl 0 rfl ?_
    refine r_iconst C (v := 0) dX10_isWrong_9 (by decide) ?_
    refine r_iload_n C dX10_isWrong_10 rfl 1 rfl ?_
    refine r_callV C (c_X10_isUsedBy nw hnw 0 p1) (As := [.int 0, .int p1]) (nn := 2) (stk := [.int p1, .int 0, .ref (ad 110)]) (ci := 10) dX10_isWrong_11 gX10_isWrong_X10_isUsedBy ⟨rfl, by decide, by decide, by decide +kernel⟩ (by omega) la_110 rfl rfl rfl (by decide) rfl rfl (Nat.le_of_ble_eq_true rfl) (by decide) h (fun r21 m22 h => ?_)
    show V 0 14 [(0, .ref (ad 110)), (1, .int p1)] [.int r21] m22
    refine r_if_eq C (tgt := 21) dX10_isWrong_14 (by decide) h (fun _ h => ?_) (fun _ h => ?_)
    · skip
      refine r_iconst C (v := 0) dX10_isWrong_21 (by decide) ?_
      exact hk22 0 m22 h
    · skip
      exact hk17 m22 h
