noncomputable def f_X10_cell (p1 : Int32) (p2 : Int32) (m : sM) : Option (sR Int32) :=
  s_bd (f_X10_isBlock p1 m) fun r1 m2 => s_jn (fun (s0_23 : Int32) (m23_ : sM) => s_md (s_up m23_ 110 0 s0_23) fun m3 => s_jn (fun (s0_43 : Int32) (m43_ : sM) => some (.inl s0_43, m43_)) fun k43 => if (m3.1 110 0) ≤ 0 then (s_bd (f_X10_at p1 p2 m3) fun r4 m5 => k43 r4 m5) else (k43 0 m3)) fun k23 => s_jn (fun (m22_ : sM) => k23 1 m22_) fun k22 => if r1 = 0 then (k22  m2) else (s_bd (f_X10_in p2 0 12 m2) fun r6 m7 => if r6 = 0 then (k22  m7) else (k23 0 m7))
set_option maxRecDepth 20000 in
set_option maxHeartbeats 4000000 in
theorem c_X10_cell (nw : Nat) (hnw : 29 ≤ nw) (p1 : Int32) (p2 : Int32) : s_Con s_i 110 nw yX10_cell wsX10_cell 16 230 0 (f_X10_cell p1 p2) (fun ad => [.ref (ad 110), .int p1, .int p2]) := by
  refine s_con_of cX10_cell 3 (some .int) RX10 (by decide) rfl rfl (fun _ => Nat.le_of_ble_eq_true rfl) (fun ad m res V C h => ?_)
  unfold f_X10_cell at h
  have F_i10 : ∀ w ∈ wsX100, w ∈ wsX10_cell := by decide +kernel
  have F_k100 : Cond.fieldLink RX10 100 "ShadowFileModel" "thrown" "I" ∈ wsX10_cell := by decide +kernel
  show V 0 0 [(0, .ref (ad 110)), (1, .int p1), (2, .int p2)] [] m
  refine r_aload_n C dX10_cell_0 rfl 0 rfl ?_
  refine r_iload_n C dX10_cell_1 rfl 1 rfl ?_
  refine r_callS C (c_X10_isBlock nw hnw p1) (As := [.int p1]) (nn := 1) (stk := [.int p1, .ref (ad 110)]) dX10_cell_2 gX10_cell_X10_isBlock ⟨by decide, by decide, by decide +kernel⟩ rfl rfl (by decide) rfl rfl (Nat.le_of_ble_eq_true rfl) (by decide) h (fun r1 m2 h => ?_)
  show V 0 5 [(0, .ref (ad 110)), (1, .int p1), (2, .int p2)] [.int r1, .ref (ad 110)] m2
  refine s_join h (fun k23 => ∀ (s0_23 : Int32) (m23_ : sM), k23 s0_23 m23_ = some res → V 0 23 [(0, .ref (ad 110)), (1, .int p1), (2, .int p2)] [.int s0_23, .ref (ad 110)] m23_) ?_ (fun k23 hk23 h => ?_)
  · intro s0_23 m23_ h
    refine r_puti C (ci := 10) (k9 := 0) dX10_cell_23 rfl F_i10 (by decide) F_k100 (by omega) la_110 rfl tyX10 tyX10_ok nmX10 rfl (tyX10_ok 0 (by decide)) rfl rfl h (fun m3 _ h => ?_)
    refine r_aload_n C dX10_cell_26 rfl 0 rfl ?_
    refine r_geti C (ci := 10) (k9 := 0) dX10_cell_27 rfl F_i10 (by decide) F_k100 (by omega) la_110 rfl ?_
    refine s_join h (fun k43 => ∀ (s0_43 : Int32) (m43_ : sM), k43 s0_43 m43_ = some res → V 0 43 [] [.int s0_43] m43_) ?_ (fun k43 hk43 h => ?_)
    · intro s0_43 m43_ h
      exact r_iret C dX10_cell_43 rfl h
    refine r_if_le C (tgt := 37) dX10_cell_30 (by decide) h (fun _ h => ?_) (fun _ h => ?_)
    · skip
      refine r_aload_n C dX10_cell_37 rfl 0 rfl ?_
      refine r_iload_n C dX10_cell_38 rfl 1 rfl ?_
      refine r_iload_n C dX10_cell_39 rfl 2 rfl ?_
      refine r_callV C (c_X10_at nw hnw p1 p2) (As := [.int p1, .int p2]) (nn := 2) (stk := [.int p2, .int p1, .ref (ad 110)]) (ci := 10) dX10_cell_40 gX10_cell_X10_at ⟨rfl, by decide, by decide, by decide +kernel⟩ (by omega) la_110 rfl rfl rfl (by decide) rfl rfl (Nat.le_of_ble_eq_true rfl) (by decide) h (fun r4 m5 h => ?_)
      show V 0 43 [(0, .ref (ad 110)), (1, .int p1), (2, .int p2)] [.int r4] m5
      refine r_sub C [] (show _ = [] from rfl) ?_
      exact hk43 r4 m5 h
    · skip
      refine r_iconst C (v := 0) dX10_cell_33 (by decide) ?_
      refine r_goto C (tgt := 43) dX10_cell_34 (by decide) ?_
      refine r_sub C [] (show _ = [] from rfl) ?_
      exact hk43 0 m3 h
  refine s_join h (fun k22 => ∀ (m22_ : sM), k22 m22_ = some res → V 0 22 [(0, .ref (ad 110)), (1, .int p1), (2, .int p2)] [.ref (ad 110)] m22_) ?_ (fun k22 hk22 h => ?_)
  · intro m22_ h
    refine r_iconst C (v := 1) dX10_cell_22 (by decide) ?_
    exact hk23 1 m22_ h
  refine r_if_eq C (tgt := 22) dX10_cell_5 (by decide) h (fun _ h => ?_) (fun _ h => ?_)
  · skip
    exact hk22 m2 h
  · skip
    refine r_iload_n C dX10_cell_8 rfl 2 rfl ?_
    refine r_iconst C (v := 0) dX10_cell_9 (by decide) ?_
    refine r_bipush C (v := 12) dX10_cell_10 (by decide) ?_
    refine r_callS C (c_X10_in nw hnw p2 0 12) (As := [.int p2, .int 0, .int 12]) (nn := 3) (stk := [.int 12, .int 0, .int p2, .ref (ad 110)]) dX10_cell_12 gX10_cell_X10_in ⟨by decide, by decide, by decide +kernel⟩ rfl rfl (by decide) rfl rfl (Nat.le_of_ble_eq_true rfl) (by decide) h (fun r6 m7 h => ?_)
    show V 0 15 [(0, .ref (ad 110)), (1, .int p1), (2, .int p2)] [.int r6, .ref (ad 110)] m7
    refine r_if_eq C (tgt := 22) dX10_cell_15 (by decide) h (fun _ h => ?_) (fun _ h => ?_)
    · skip
      exact hk22 m7 h
    · skip
      refine r_iconst C (v := 0) dX10_cell_18 (by decide) ?_
      refine r_goto C (tgt := 23) dX10_cell_19 (by decide) ?_
      exact hk23 0 m7 h
noncomputable def f_X10_damage (p1 : Int32) (p2 : Int32) (p3 : Int32) (m : sM) : Option (sR Int32) :=
  s_bd (f_X10_isBlock p1 m) fun r1 m2 => s_jn (fun (s0_23 : Int32) (m23_ : sM) => s_md (s_up m23_ 110 0 s0_23) fun m3 => if (m3.1 110 0) ≤ 0 then (s_bd (f_X10_at p1 p2 m3) fun r4 m5 => s_ix 7 8 fun j6 => s_jn (fun (s0_62 : Int32) => s_ix 7 8 fun j7 => s_md (s_up m5 130 j7 ((m5.1 130 j6) + s0_62)) fun m8 => s_ix ((13 * p1) + p2) 416 fun j9 => s_md (s_up m8 111 j9 p3) fun m10 => some (.inl r4, m10)) fun k62 => if r4 = p3 then (k62 0) else (k62 1)) else (some (.inl 0, m3))) fun k23 => s_jn (fun (m22_ : sM) => k23 1 m22_) fun k22 => if r1 = 0 then (k22  m2) else (s_bd (f_X10_in p2 0 12 m2) fun r11 m12 => if r11 = 0 then (k22  m12) else (k23 0 m12))
set_option maxRecDepth 20000 in
set_option maxHeartbeats 4000000 in
theorem c_X10_damage (nw : Nat) (hnw : 29 ≤ nw) (p1 : Int32) (p2 : Int32) (p3 : Int32) : s_Con s_i 110 nw yX10_damage wsX10_damage 16 230 0 (f_X10_damage p1 p2 p3) (fun ad => [.ref (ad 110), .int p1, .int p2, .int p3]) := by
  refine s_con_of cX10_damage 5 (some .int) RX10 (by decide) rfl rfl (fun _ => Nat.le_of_ble_eq_true rfl) (fun ad m res V C h => ?_)
  unfold f_X10_damage at h
  have F_i10 : ∀ w ∈ wsX100, w ∈ wsX10_damage := by decide +kernel
  have F_k100 : Cond.fieldLink RX10 100 "ShadowFileModel" "thrown" "I" ∈ wsX10_damage := by decide +kernel
  have F_k69 : Cond.fieldLink RX10 69 "ShadowFileModel" "statistics" "[I" ∈ wsX10_damage := by decide +kernel
  have F_k9 : Cond.fieldLink RX10 9 "ShadowFileModel" "disk" "[I" ∈ wsX10_damage := by decide +kernel
  show V 0 0 [(0, .ref (ad 110)), (1, .int p1), (2, .int p2), (3, .int p3)] [] m
  refine r_aload_n C dX10_damage_0 rfl 0 rfl ?_
  refine r_iload_n C dX10_damage_1 rfl 1 rfl ?_
  refine r_callS C (c_X10_isBlock nw hnw p1) (As := [.int p1]) (nn := 1) (stk := [.int p1, .ref (ad 110)]) dX10_damage_2 gX10_damage_X10_isBlock ⟨by decide, by decide, by decide +kernel⟩ rfl rfl (by decide) rfl rfl (Nat.le_of_ble_eq_true rfl) (by decide) h (fun r1 m2 h => ?_)
  show V 0 5 [(0, .ref (ad 110)), (1, .int p1), (2, .int p2), (3, .int p3)] [.int r1, .ref (ad 110)] m2
  refine s_join h (fun k23 => ∀ (s0_23 : Int32) (m23_ : sM), k23 s0_23 m23_ = some res → V 0 23 [(0, .ref (ad 110)), (1, .int p1), (2, .int p2), (3, .int p3)] [.int s0_23, .ref (ad 110)] m23_) ?_ (fun k23 hk23 h => ?_)
  · intro s0_23 m23_ h
    refine r_puti C (ci := 10) (k9 := 0) dX10_damage_23 rfl F_i10 (by decide) F_k100 (by omega) la_110 rfl tyX10 tyX10_ok nmX10 rfl (tyX10_ok 0 (by decide)) rfl rfl h (fun m3 _ h => ?_)
    refine r_aload_n C dX10_damage_26 rfl 0 rfl ?_
    refine r_geti C (ci := 10) (k9 := 0) dX10_damage_27 rfl F_i10 (by decide) F_k100 (by omega) la_110 rfl ?_
    refine r_if_le C (tgt := 35) dX10_damage_30 (by decide) h (fun _ h => ?_) (fun _ h => ?_)
    · skip
      refine r_aload_n C dX10_damage_35 rfl 0 rfl ?_
      refine r_iload_n C dX10_damage_36 rfl 1 rfl ?_
      refine r_iload_n C dX10_damage_37 rfl 2 rfl ?_
      refine r_callV C (c_X10_at nw hnw p1 p2) (As := [.int p1, .int p2]) (nn := 2) (stk := [.int p2, .int p1, .ref (ad 110)]) (ci := 10) dX10_damage_38 gX10_damage_X10_at ⟨rfl, by decide, by decide, by decide +kernel⟩ (by omega) la_110 rfl rfl rfl (by decide) rfl rfl (Nat.le_of_ble_eq_true rfl) (by decide) h (fun r4 m5 h => ?_)
      show V 0 41 [(0, .ref (ad 110)), (1, .int p1), (2, .int p2), (3, .int p3)] [.int r4] m5
      refine r_istore C dX10_damage_41 (by decide) (show _ = [(4, .int r4), (0, .ref (ad 110)), (1, .int p1), (2, .int p2), (3, .int p3)] from rfl) ?_
      refine r_aload_n C dX10_damage_43 rfl 1 rfl ?_
      refine r_getr C (ci := 10) (k9 := 26) dX10_damage_44 rfl F_i10 (by decide) F_k69 (by omega) la_110 rfl ?_
      refine r_bipush C (v := 7) dX10_damage_47 (by decide) ?_
      refine r_dup2 C dX10_damage_49 rfl rfl ?_
      refine r_iald C dX10_damage_50 (by omega) la_130 h (fun j6 hj6 h => ?_)
      refine r_iload C dX10_damage_51 0 rfl ?_
      refine r_iload_n C dX10_damage_53 rfl 4 rfl ?_
      refine s_join h (fun k62 => ∀ (s0_62 : Int32), k62 s0_62 = some res → V 0 62 [(0, .ref (ad 110)), (1, .int p1), (2, .int p2), (3, .int p3), (4, .int r4)] [.int s0_62, .int (m5.1 130 j6), .int 7, .ref (ad 130)] m5) ?_ (fun k62 hk62 h => ?_)
      · intro s0_62 h
        refine r_iadd C dX10_damage_62 ?_
        refine r_iast C dX10_damage_63 (by omega) la_130 h (fun j7 m8 hj7 _ h => ?_)
        refine r_aload_n C dX10_damage_64 rfl 0 rfl ?_
        refine r_getr C (ci := 10) (k9 := 1) dX10_damage_65 rfl F_i10 (by decide) F_k9 (by omega) la_110 rfl ?_
        refine r_bipush C (v := 13) dX10_damage_68 (by decide) ?_
        refine r_iload_n C dX10_damage_70 rfl 1 rfl ?_
        refine r_imul C dX10_damage_71 ?_
        refine r_iload_n C dX10_damage_72 rfl 2 rfl ?_
        refine r_iadd C dX10_damage_73 ?_
        refine r_iload_n C dX10_damage_74 rfl 3 rfl ?_
        refine r_iast C dX10_damage_75 (by omega) la_111 h (fun j9 m10 hj9 _ h => ?_)
        refine r_iload C dX10_damage_76 4 rfl ?_
        exact r_iret C dX10_damage_78 rfl h
      refine r_icmp_eq C (tgt := 61) dX10_damage_54 (by decide) h (fun _ h => ?_) (fun _ h => ?_)
      · skip
        refine r_iconst C (v := 0) dX10_damage_61 (by decide) ?_
        refine r_sub C [1, 2, 3, 4, 0] (show _ = [(0, .ref (ad 110)), (1, .int p1), (2, .int p2), (3, .int p3), (4, .int r4)] from rfl) ?_
        exact hk62 0 h
      · skip
        refine r_iconst C (v := 1) dX10_damage_57 (by decide) ?_
        refine r_goto C (tgt := 62) dX10_damage_58 (by decide) ?_
        refine r_sub C [1, 2, 3, 4, 0] (show _ = [(0, .ref (ad 110)), (1, .int p1), (2, .int p2), (3, .int p3), (4, .int r4)] from rfl) ?_
        exact hk62 1 h
    · skip
      refine r_iconst C (v := 0) dX10_damage_33 (by decide) ?_
      exact r_iret C dX10_damage_34 rfl h
  refine s_join h (fun k22 => ∀ (m22_ : sM), k22 m22_ = some res → V 0 22 [(0, .ref (ad 110)), (1, .int p1), (2, .int p2), (3, .int p3)] [.ref (ad 110)] m22_) ?_ (fun k22 hk22 h => ?_)
  · intro m22_ h
    refine r_iconst C (v := 1) dX10_damage_22 (by decide) ?_
    exact hk23 1 m22_ h
  refine r_if_eq C (tgt := 22) dX10_damage_5 (by decide) h (fun _ h => ?_) (fun _ h => ?_)
  · skip
    exact hk22 m2 h
  · skip
    refine r_iload_n C dX10_damage_8 rfl 2 rfl ?_
    refine r_iconst C (v := 0) dX10_damage_9 (by decide) ?_
    refine r_bipush C (v := 12) dX10_damage_10 (by decide) ?_
    refine r_callS C (c_X10_in nw hnw p2 0 12) (As := [.int p2, .int 0, .int 12]) (nn := 3) (stk := [.int 12, .int 0, .int p2, .ref (ad 110)]) dX10_damage_12 gX10_damage_X10_in ⟨by decide, by decide, by decide +kernel⟩ rfl rfl (by decide) rfl rfl (Nat.le_of_ble_eq_true rfl) (by decide) h (fun r11 m12 h => ?_)
    show V 0 15 [(0, .ref (ad 110)), (1, .int p1), (2, .int p2), (3, .int p3)] [.int r11, .ref (ad 110)] m12
    refine r_if_eq C (tgt := 22) dX10_damage_15 (by decide) h (fun _ h => ?_) (fun _ h => ?_)
    · skip
      exact hk22 m12 h
    · skip
      refine r_iconst C (v := 0) dX10_damage_18 (by decide) ?_
      refine r_goto C (tgt := 23) dX10_damage_19 (by decide) ?_
      exact hk23 0 m12 h
noncomputable def f_X10_checksum (p1 : Int32) (m : sM) : Option (sR Int32) :=
  s_bd (f_X10_isBlock p1 m) fun r1 m2 => s_jn (fun (s0_13 : Int32) => s_md (s_up m2 110 0 s0_13) fun m3 => s_jn (fun (s0_32 : Int32) (m32_ : sM) => some (.inl s0_32, m32_)) fun k32 => if (m3.1 110 0) ≤ 0 then (s_bd (f_X10_sumOf p1 m3) fun r4 m5 => k32 r4 m5) else (k32 0 m3)) fun k13 => if r1 = 0 then (k13 1) else (k13 0)
set_option maxRecDepth 20000 in
set_option maxHeartbeats 4000000 in
theorem c_X10_checksum (nw : Nat) (hnw : 29 ≤ nw) (p1 : Int32) : s_Con s_i 110 nw yX10_checksum wsX10_checksum 16 230 0 (f_X10_checksum p1) (fun ad => [.ref (ad 110), .int p1]) := by
  refine s_con_of cX10_checksum 2 (some .int) RX10 (by decide) rfl rfl (fun _ => Nat.le_of_ble_eq_true rfl) (fun ad m res V C h => ?_)
  unfold f_X10_checksum at h
  have F_i10 : ∀ w ∈ wsX100, w ∈ wsX10_checksum := by decide +kernel
  have F_k100 : Cond.fieldLink RX10 100 "ShadowFileModel" "thrown" "I" ∈ wsX10_checksum := by decide +kernel
  show V 0 0 [(0, .ref (ad 110)), (1, .int p1)] [] m
  refine r_aload_n C dX10_checksum_0 rfl 0 rfl ?_
  refine r_iload_n C dX10_checksum_1 rfl 1 rfl ?_
  refine r_callS C (c_X10_isBlock nw hnw p1) (As := [.int p1]) (nn := 1) (stk := [.int p1, .ref (ad 110)]) dX10_checksum_2 gX10_checksum_X10_isBlock ⟨by decide, by decide, by decide +kernel⟩ rfl rfl (by decide) rfl rfl (Nat.le_of_ble_eq_true rfl) (by decide) h (fun r1 m2 h => ?_)
  show V 0 5 [(0, .ref (ad 110)), (1, .int p1)] [.int r1, .ref (ad 110)] m2
  refine s_join h (fun k13 => ∀ (s0_13 : Int32), k13 s0_13 = some res → V 0 13 [(0, .ref (ad 110)), (1, .int p1)] [.int s0_13, .ref (ad 110)] m2) ?_ (fun k13 hk13 h => ?_)
  · intro s0_13 h
    refine r_puti C (ci := 10) (k9 := 0) dX10_checksum_13 rfl F_i10 (by decide) F_k100 (by omega) la_110 rfl tyX10 tyX10_ok nmX10 rfl (tyX10_ok 0 (by decide)) rfl rfl h (fun m3 _ h => ?_)
    refine r_aload_n C dX10_checksum_16 rfl 0 rfl ?_
    refine r_geti C (ci := 10) (k9 := 0) dX10_checksum_17 rfl F_i10 (by decide) F_k100 (by omega) la_110 rfl ?_
    refine s_join h (fun k32 => ∀ (s0_32 : Int32) (m32_ : sM), k32 s0_32 m32_ = some res → V 0 32 [] [.int s0_32] m32_) ?_ (fun k32 hk32 h => ?_)
    · intro s0_32 m32_ h
      exact r_iret C dX10_checksum_32 rfl h
    refine r_if_le C (tgt := 27) dX10_checksum_20 (by decide) h (fun _ h => ?_) (fun _ h => ?_)
    · skip
      refine r_aload_n C dX10_checksum_27 rfl 0 rfl ?_
      refine r_iload_n C dX10_checksum_28 rfl 1 rfl ?_
      refine r_callV C (c_X10_sumOf nw hnw p1) (As := [.int p1]) (nn := 1) (stk := [.int p1, .ref (ad 110)]) (ci := 10) dX10_checksum_29 gX10_checksum_X10_sumOf ⟨rfl, by decide, by decide, by decide +kernel⟩ (by omega) la_110 rfl rfl rfl (by decide) rfl rfl (Nat.le_of_ble_eq_true rfl) (by decide) h (fun r4 m5 h => ?_)
      show V 0 32 [(0, .ref (ad 110)), (1, .int p1)] [.int r4] m5
      refine r_sub C [] (show _ = [] from rfl) ?_
      exact hk32 r4 m5 h
    · skip
      refine r_iconst C (v := 0) dX10_checksum_23 (by decide) ?_
      refine r_goto C (tgt := 32) dX10_checksum_24 (by decide) ?_
      refine r_sub C [] (show _ = [] from rfl) ?_
      exact hk32 0 m3 h
  refine r_if_eq C (tgt := 12) dX10_checksum_5 (by decide) h (fun _ h => ?_) (fun _ h => ?_)
  · skip
    refine r_iconst C (v := 1) dX10_checksum_12 (by decide) ?_
    exact hk13 1 h
  · skip
    refine r_iconst C (v := 0) dX10_checksum_8 (by decide) ?_
    refine r_goto C (tgt := 13) dX10_checksum_9 (by decide) ?_
    exact hk13 0 h
noncomputable def f_X10_isValid (p1 : Int32) (m : sM) : Option (sR Int32) :=
  s_bd (f_X10_isBlock p1 m) fun r1 m2 => s_jn (fun (s0_13 : Int32) => s_md (s_up m2 110 0 s0_13) fun m3 => s_jn (fun (s0_36 : Int32) (m36_ : sM) => s_gd (s0_36 = 0 ∨ s0_36 = 1) (some (.inl s0_36, m36_))) fun k36 => s_jn (fun (m35_ : sM) => k36 0 m35_) fun k35 => if (m3.1 110 0) = 0 then (s_bd (f_X10_valid p1 m3) fun r4 m5 => if r4 = 0 then (k35  m5) else (k36 1 m5)) else (k35  m3)) fun k13 => if r1 = 0 then (k13 1) else (k13 0)
set_option maxRecDepth 20000 in
set_option maxHeartbeats 4000000 in
theorem c_X10_isValid (nw : Nat) (hnw : 29 ≤ nw) (p1 : Int32) : s_Con s_i 110 nw yX10_isValid wsX10_isValid 18 275 0 (f_X10_isValid p1) (fun ad => [.ref (ad 110), .int p1]) := by
  refine s_con_of cX10_isValid 2 (some .boolean) RX10 (by decide) rfl rfl (fun _ => Nat.le_of_ble_eq_true rfl) (fun ad m res V C h => ?_)
  unfold f_X10_isValid at h
  have F_i10 : ∀ w ∈ wsX100, w ∈ wsX10_isValid := by decide +kernel
  have F_k100 : Cond.fieldLink RX10 100 "ShadowFileModel" "thrown" "I" ∈ wsX10_isValid := by decide +kernel
  show V 0 0 [(0, .ref (ad 110)), (1, .int p1)] [] m
  refine r_aload_n C dX10_isValid_0 rfl 0 rfl ?_
  refine r_iload_n C dX10_isValid_1 rfl 1 rfl ?_
  refine r_callS C (c_X10_isBlock nw hnw p1) (As := [.int p1]) (nn := 1) (stk := [.int p1, .ref (ad 110)]) dX10_isValid_2 gX10_isValid_X10_isBlock ⟨by decide, by decide, by decide +kernel⟩ rfl rfl (by decide) rfl rfl (Nat.le_of_ble_eq_true rfl) (by decide) h (fun r1 m2 h => ?_)
  show V 0 5 [(0, .ref (ad 110)), (1, .int p1)] [.int r1, .ref (ad 110)] m2
  refine s_join h (fun k13 => ∀ (s0_13 : Int32), k13 s0_13 = some res → V 0 13 [(0, .ref (ad 110)), (1, .int p1)] [.int s0_13, .ref (ad 110)] m2) ?_ (fun k13 hk13 h => ?_)
  · intro s0_13 h
    refine r_puti C (ci := 10) (k9 := 0) dX10_isValid_13 rfl F_i10 (by decide) F_k100 (by omega) la_110 rfl tyX10 tyX10_ok nmX10 rfl (tyX10_ok 0 (by decide)) rfl rfl h (fun m3 _ h => ?_)
    refine r_aload_n C dX10_isValid_16 rfl 0 rfl ?_
    refine r_geti C (ci := 10) (k9 := 0) dX10_isValid_17 rfl F_i10 (by decide) F_k100 (by omega) la_110 rfl ?_
    refine s_join h (fun k36 => ∀ (s0_36 : Int32) (m36_ : sM), k36 s0_36 m36_ = some res → V 0 36 [] [.int s0_36] m36_) ?_ (fun k36 hk36 h => ?_)
    · intro s0_36 m36_ h
      obtain ⟨hg, h⟩ := s_gd_of h
      exact r_zret C dX10_isValid_36 rfl (s_z hg) h
    refine s_join h (fun k35 => ∀ (m35_ : sM), k35 m35_ = some res → V 0 35 [] [] m35_) ?_ (fun k35 hk35 h => ?_)
    · intro m35_ h
      refine r_iconst C (v := 0) dX10_isValid_35 (by decide) ?_
      exact hk36 0 m35_ h
    refine r_if_ne C (tgt := 35) dX10_isValid_20 (by decide) h (fun _ h => ?_) (fun _ h => ?_)
    · skip
      refine r_aload_n C dX10_isValid_23 rfl 0 rfl ?_
      refine r_iload_n C dX10_isValid_24 rfl 1 rfl ?_
      refine r_callV C (c_X10_valid nw hnw p1) (As := [.int p1]) (nn := 1) (stk := [.int p1, .ref (ad 110)]) (ci := 10) dX10_isValid_25 gX10_isValid_X10_valid ⟨rfl, by decide, by decide, by decide +kernel⟩ (by omega) la_110 rfl rfl rfl (by decide) rfl rfl (Nat.le_of_ble_eq_true rfl) (by decide) h (fun r4 m5 h => ?_)
      show V 0 28 [(0, .ref (ad 110)), (1, .int p1)] [.int r4] m5
      refine r_if_eq C (tgt := 35) dX10_isValid_28 (by decide) h (fun _ h => ?_) (fun _ h => ?_)
      · skip
        refine r_sub C [] (show _ = [] from rfl) ?_
        exact hk35 m5 h
      · skip
        refine r_iconst C (v := 1) dX10_isValid_31 (by decide) ?_
        refine r_goto C (tgt := 36) dX10_isValid_32 (by decide) ?_
        refine r_sub C [] (show _ = [] from rfl) ?_
        exact hk36 1 m5 h
    · skip
      refine r_sub C [] (show _ = [] from rfl) ?_
      exact hk35 m3 h
  refine r_if_eq C (tgt := 12) dX10_isValid_5 (by decide) h (fun _ h => ?_) (fun _ h => ?_)
  · skip
    refine r_iconst C (v := 1) dX10_isValid_12 (by decide) ?_
    exact hk13 1 h
  · skip
    refine r_iconst C (v := 0) dX10_isValid_8 (by decide) ?_
    refine r_goto C (tgt := 13) dX10_isValid_9 (by decide) ?_
    exact hk13 0 h
noncomputable def f_X10_salvage_L78 (y2_78 : Int32) (y3_78 : Int32) (e213_78 : Int32 → sM → Option (sR Int32)) : Nat → Int32 → Int32 → sM → Option (sR Int32)
  | 0, _, _, _ => none
  | n + 1, x1_78, x4_78, m78_ =>
    if 8 ≤ x4_78 then (e213_78 x1_78 m78_) else (if y3_78 = 0 then (e213_78 x1_78 m78_) else (s_bd (f_X10_at y2_78 2 m78_) fun r7 m8 => s_bd (f_X10_at y2_78 3 m8) fun r9 m10 => s_jn (fun (x1_207 : Int32) (m207_ : sM) => f_X10_salvage_L78 y2_78 y3_78 e213_78 n x1_207 (x4_78 + 1) m207_) fun k207 => if ((r9 >>> (x4_78 &&& 31)) &&& 1) = 1 then (s_ix (r7 + (8 * x4_78)) 64 fun j11 => s_jn (fun (m144_ : sM) => s_ix (r7 + (8 * x4_78)) 64 fun j12 => s_jn (fun (s0_160 : Int32) => s_ix (r7 + (8 * x4_78)) 64 fun j13 => s_md (s_up m144_ 131 j13 (vp_nar .boolean 1)) fun m14 => s_bd (f_X10_at y2_78 (4 + x4_78) m14) fun r15 m16 => s_ix (r7 + (8 * x4_78)) 64 fun j17 => s_md (s_up m16 132 j17 r15) fun m18 => s_bd (f_X10_at y2_78 1 m18) fun r19 m20 => s_ix (r7 + (8 * x4_78)) 64 fun j21 => s_md (s_up m20 133 j21 r19) fun m22 => s_ix (r7 + (8 * x4_78)) 64 fun j23 => s_md (s_up m22 134 j23 y2_78) fun m24 => k207 (x1_78 + s0_160) m24) fun k160 => if (m144_.1 131 j12) = 0 then (k160 1) else (k160 0)) fun k144 => if (m10.1 131 j11) = 0 then (k144  m10) else (s_bd (f_X10_at y2_78 1 m10) fun r25 m26 => s_ix (r7 + (8 * x4_78)) 64 fun j27 => if r25 ≤ (m26.1 133 j27) then (k207 x1_78 m26) else (k144  m26))) else (k207 x1_78 m10)))
noncomputable def f_X10_salvage_L30 (e219_30 : Int32 → sM → Option (sR Int32)) : Nat → Int32 → Int32 → sM → Option (sR Int32)
  | 0, _, _, _ => none
  | n + 1, x1_30, x2_30, m30_ =>
    if 32 ≤ x2_30 then (e219_30 x1_30 m30_) else (s_bd (f_X10_valid x2_30 m30_) fun r5 m6 => s_jn (fun (s0_74 : Int32) (m74_ : sM) => s_jn (fun (x1_213 : Int32) (m213_ : sM) => f_X10_salvage_L30 e219_30 n x1_213 (x2_30 + 1) m213_) fun e213_78 => f_X10_salvage_L78 x2_30 s0_74 e213_78 5000 x1_30 0 m74_) fun k74 => s_jn (fun (m73_ : sM) => k74 0 m73_) fun k73 => if r5 = 0 then (k73  m6) else (s_bd (f_X10_at x2_30 0 m6) fun r28 m29 => if r28 = 3 then (s_bd (f_X10_at x2_30 2 m29) fun r30 m31 => s_bd (f_X10_in r30 0 7 m31) fun r32 m33 => if r32 = 0 then (k73  m33) else (k74 1 m33)) else (k73  m29)))
noncomputable def f_X10_salvage_L7 (e26_7 : sM → Option (sR Int32)) : Nat → Int32 → sM → Option (sR Int32)
  | 0, _, _ => none
  | n + 1, x1_7, m7_ =>
    if 64 ≤ x1_7 then (e26_7  m7_) else (s_ix x1_7 64 fun j34 => s_md (s_up m7_ 131 j34 (vp_nar .boolean 0)) fun m35 => f_X10_salvage_L7 e26_7 n (x1_7 + 1) m35)
noncomputable def f_X10_salvage (m : sM) : Option (sR Int32) :=
  s_md (s_up m 110 0 0) fun m1 => s_jn (fun (m26_ : sM) => s_jn (fun (x1_219 : Int32) (m219_ : sM) => s_ix 6 8 fun j2 => s_ix 6 8 fun j3 => s_md (s_up m219_ 130 j3 ((m219_.1 130 j2) + x1_219)) fun m4 => some (.inl x1_219, m4)) fun e219_30 => f_X10_salvage_L30 e219_30 5000 0 2 m26_) fun e26_7 => f_X10_salvage_L7 e26_7 5000 0 m1
set_option maxRecDepth 20000 in
set_option maxHeartbeats 4000000 in
theorem c_X10_salvage (nw : Nat) (hnw : 29 ≤ nw) : s_Con s_i 110 nw yX10_salvage wsX10_salvage 18 275 0 (f_X10_salvage) (fun ad => [.ref (ad 110)]) := by
  refine s_con_of cX10_salvage 6 (some .int) RX10 (by decide) rfl rfl (fun _ => Nat.le_of_ble_eq_true rfl) (fun ad m res V C h => ?_)
  unfold f_X10_salvage at h
  have F_i10 : ∀ w ∈ wsX100, w ∈ wsX10_salvage := by decide +kernel
  have F_k100 : Cond.fieldLink RX10 100 "ShadowFileModel" "thrown" "I" ∈ wsX10_salvage := by decide +kernel
  have F_k69 : Cond.fieldLink RX10 69 "ShadowFileModel" "statistics" "[I" ∈ wsX10_salvage := by decide +kernel
  have F_k72 : Cond.fieldLink RX10 72 "ShadowFileModel" "isSalvaged" "[Z" ∈ wsX10_salvage := by decide +kernel
  have F_k75 : Cond.fieldLink RX10 75 "ShadowFileModel" "salvagedValue" "[I" ∈ wsX10_salvage := by decide +kernel
  have F_k78 : Cond.fieldLink RX10 78 "ShadowFileModel" "salvagedNumber" "[I" ∈ wsX10_salvage := by decide +kernel
  have F_k81 : Cond.fieldLink RX10 81 "ShadowFileModel" "salvagedBlock" "[I" ∈ wsX10_salvage := by decide +kernel
  show V 0 0 [(0, .ref (ad 110))] [] m
  refine r_aload_n C dX10_salvage_0 rfl 0 rfl ?_
  refine r_iconst C (v := 0) dX10_salvage_1 (by decide) ?_
  refine r_puti C (ci := 10) (k9 := 0) dX10_salvage_2 rfl F_i10 (by decide) F_k100 (by omega) la_110 rfl tyX10 tyX10_ok nmX10 rfl (tyX10_ok 0 (by decide)) rfl rfl h (fun m1 _ h => ?_)
  refine r_iconst C (v := 0) dX10_salvage_5 (by decide) ?_
  refine r_istore_n C dX10_salvage_6 rfl (by decide) (show _ = [(1, .int 0), (0, .ref (ad 110))] from rfl) ?_
  refine s_join h (fun e26_7 => ∀ (m26_ : sM), e26_7 m26_ = some res → V 0 26 [(0, .ref (ad 110))] [] m26_) ?_ (fun e26_7 he26_7 h => ?_)
  · intro m26_ h
    refine r_iconst C (v := 0) dX10_salvage_26 (by decide) ?_
    refine r_istore_n C dX10_salvage_27 rfl (by decide) (show _ = [(1, .int 0), (0, .ref (ad 110))] from rfl) ?_
    refine r_iconst C (v := 2) dX10_salvage_28 (by decide) ?_
    refine r_istore_n C dX10_salvage_29 rfl (by decide) (show _ = [(2, .int 2), (1, .int 0), (0, .ref (ad 110))] from rfl) ?_
    refine s_join h (fun e219_30 => ∀ (x1_219 : Int32) (m219_ : sM), e219_30 x1_219 m219_ = some res → V 0 219 [(0, .ref (ad 110)), (1, .int x1_219)] [] m219_) ?_ (fun e219_30 he219_30 h => ?_)
    · intro x1_219 m219_ h
      refine r_aload_n C dX10_salvage_219 rfl 0 rfl ?_
      refine r_getr C (ci := 10) (k9 := 26) dX10_salvage_220 rfl F_i10 (by decide) F_k69 (by omega) la_110 rfl ?_
      refine r_bipush C (v := 6) dX10_salvage_223 (by decide) ?_
      refine r_dup2 C dX10_salvage_225 rfl rfl ?_
      refine r_iald C dX10_salvage_226 (by omega) la_130 h (fun j2 hj2 h => ?_)
      refine r_iload_n C dX10_salvage_227 rfl 1 rfl ?_
      refine r_iadd C dX10_salvage_228 ?_
      refine r_iast C dX10_salvage_229 (by omega) la_130 h (fun j3 m4 hj3 _ h => ?_)
      refine r_iload_n C dX10_salvage_230 rfl 1 rfl ?_
      exact r_iret C dX10_salvage_231 rfl h
    have L30 : ∀ (n : Nat) (x1_30 : Int32) (x2_30 : Int32) (m30_ : sM), f_X10_salvage_L30 e219_30 n x1_30 x2_30 m30_ = some res → V 0 30 [(0, .ref (ad 110)), (1, .int x1_30), (2, .int x2_30)] [] m30_ := by
      intro n
      induction n with
      | zero => intro x1_30 x2_30 m30_ h; rw [f_X10_salvage_L30] at h; cases h
      | succ n ih =>
        intro x1_30 x2_30 m30_ h
        rw [f_X10_salvage_L30] at h
        refine r_iload_n C dX10_salvage_30 rfl 2 rfl ?_
        refine r_bipush C (v := 32) dX10_salvage_31 (by decide) ?_
        refine r_icmp_ge C (tgt := 219) dX10_salvage_33 (by decide) h (fun _ h => ?_) (fun _ h => ?_)
        · skip
          refine r_sub C [0, 1] (show _ = [(0, .ref (ad 110)), (1, .int x1_30)] from rfl) ?_
          exact he219_30 x1_30 m30_ h
        · skip
          refine r_aload_n C dX10_salvage_36 rfl 0 rfl ?_
          refine r_iload_n C dX10_salvage_37 rfl 2 rfl ?_
          refine r_callV C (c_X10_valid nw hnw x2_30) (As := [.int x2_30]) (nn := 1) (stk := [.int x2_30, .ref (ad 110)]) (ci := 10) dX10_salvage_38 gX10_salvage_X10_valid ⟨rfl, by decide, by decide, by decide +kernel⟩ (by omega) la_110 rfl rfl rfl (by decide) rfl rfl (Nat.le_of_ble_eq_true rfl) (by decide) h (fun r5 m6 h => ?_)
          show V 0 41 [(0, .ref (ad 110)), (1, .int x1_30), (2, .int x2_30)] [.int r5] m6
          refine s_join h (fun k74 => ∀ (s0_74 : Int32) (m74_ : sM), k74 s0_74 m74_ = some res → V 0 74 [(0, .ref (ad 110)), (1, .int x1_30), (2, .int x2_30)] [.int s0_74] m74_) ?_ (fun k74 hk74 h => ?_)
          · intro s0_74 m74_ h
            refine r_istore_n C dX10_salvage_74 rfl (by decide) (show _ = [(3, .int s0_74), (0, .ref (ad 110)), (1, .int x1_30), (2, .int x2_30)] from rfl) ?_
            refine r_iconst C (v := 0) dX10_salvage_75 (by decide) ?_
            refine r_istore C dX10_salvage_76 (by decide) (show _ = [(4, .int 0), (3, .int s0_74), (0, .ref (ad 110)), (1, .int x1_30), (2, .int x2_30)] from rfl) ?_
            refine s_join h (fun e213_78 => ∀ (x1_213 : Int32) (m213_ : sM), e213_78 x1_213 m213_ = some res → V 0 213 [(0, .ref (ad 110)), (1, .int x1_213), (2, .int x2_30)] [] m213_) ?_ (fun e213_78 he213_78 h => ?_)
            · intro x1_213 m213_ h
              refine r_iinc C (v := x2_30 + 1) dX10_salvage_213 2 rfl rfl (by decide) (show _ = [(2, .int (x2_30 + 1)), (0, .ref (ad 110)), (1, .int x1_213)] from rfl) ?_
              refine r_goto C (tgt := 30) dX10_salvage_216 (by decide) ?_
              refine r_sub C [1, 2, 0] (show _ = [(0, .ref (ad 110)), (1, .int x1_213), (2, .int (x2_30 + 1))] from rfl) ?_
              exact ih x1_213 (x2_30 + 1) m213_ h
            have L78 : ∀ (n : Nat) (x1_78 : Int32) (x4_78 : Int32) (m78_ : sM), f_X10_salvage_L78 x2_30 s0_74 e213_78 n x1_78 x4_78 m78_ = some res → V 0 78 [(0, .ref (ad 110)), (1, .int x1_78), (2, .int x2_30), (3, .int s0_74), (4, .int x4_78)] [] m78_ := by
              intro n
              induction n with
              | zero => intro x1_78 x4_78 m78_ h; rw [f_X10_salvage_L78] at h; cases h
              | succ n ih =>
                intro x1_78 x4_78 m78_ h
                rw [f_X10_salvage_L78] at h
                refine r_iload C dX10_salvage_78 4 rfl ?_
                refine r_bipush C (v := 8) dX10_salvage_80 (by decide) ?_
                refine r_icmp_ge C (tgt := 213) dX10_salvage_82 (by decide) h (fun _ h => ?_) (fun _ h => ?_)
                · skip
                  refine r_sub C [0, 1, 2] (show _ = [(0, .ref (ad 110)), (1, .int x1_78), (2, .int x2_30)] from rfl) ?_
                  exact he213_78 x1_78 m78_ h
                · skip
                  refine r_iload_n C dX10_salvage_85 rfl 3 rfl ?_
                  refine r_if_eq C (tgt := 213) dX10_salvage_86 (by decide) h (fun _ h => ?_) (fun _ h => ?_)
                  · skip
                    refine r_sub C [0, 1, 2] (show _ = [(0, .ref (ad 110)), (1, .int x1_78), (2, .int x2_30)] from rfl) ?_
                    exact he213_78 x1_78 m78_ h
                  · skip
                    refine r_aload_n C dX10_salvage_89 rfl 0 rfl ?_
                    refine r_iload_n C dX10_salvage_90 rfl 2 rfl ?_
                    refine r_iconst C (v := 2) dX10_salvage_91 (by decide) ?_
                    refine r_callV C (c_X10_at nw hnw x2_30 2) (As := [.int x2_30, .int 2]) (nn := 2) (stk := [.int 2, .int x2_30, .ref (ad 110)]) (ci := 10) dX10_salvage_92 gX10_salvage_X10_at ⟨rfl, by decide, by decide, by decide +kernel⟩ (by omega) la_110 rfl rfl rfl (by decide) rfl rfl (Nat.le_of_ble_eq_true rfl) (by decide) h (fun r7 m8 h => ?_)
                    show V 0 95 [(0, .ref (ad 110)), (1, .int x1_78), (2, .int x2_30), (3, .int s0_74), (4, .int x4_78)] [.int r7] m8
                    refine r_bipush C (v := 8) dX10_salvage_95 (by decide) ?_
                    refine r_iload C dX10_salvage_97 4 rfl ?_
                    refine r_imul C dX10_salvage_99 ?_
                    refine r_iadd C dX10_salvage_100 ?_
                    refine r_istore C dX10_salvage_101 (by decide) (show _ = [(5, .int (r7 + (8 * x4_78))), (0, .ref (ad 110)), (1, .int x1_78), (2, .int x2_30), (3, .int s0_74), (4, .int x4_78)] from rfl) ?_
                    refine r_aload_n C dX10_salvage_103 rfl 1 rfl ?_
                    refine r_iload_n C dX10_salvage_104 rfl 3 rfl ?_
                    refine r_iconst C (v := 3) dX10_salvage_105 (by decide) ?_
                    refine r_callV C (c_X10_at nw hnw x2_30 3) (As := [.int x2_30, .int 3]) (nn := 2) (stk := [.int 3, .int x2_30, .ref (ad 110)]) (ci := 10) dX10_salvage_106 gX10_salvage_X10_at ⟨rfl, by decide, by decide, by decide +kernel⟩ (by omega) la_110 rfl rfl rfl (by decide) rfl rfl (Nat.le_of_ble_eq_true rfl) (by decide) h (fun r9 m10 h => ?_)
                    show V 0 109 [(5, .int (r7 + (8 * x4_78))), (0, .ref (ad 110)), (1, .int x1_78), (2, .int x2_30), (3, .int s0_74), (4, .int x4_78)] [.int r9] m10
                    refine r_iload C dX10_salvage_109 5 rfl ?_
                    refine r_ishr C dX10_salvage_111 ?_
                    refine r_iconst C (v := 1) dX10_salvage_112 (by decide) ?_
                    refine r_iand C dX10_salvage_113 ?_
                    refine r_iconst C (v := 1) dX10_salvage_114 (by decide) ?_
                    refine s_join h (fun k207 => ∀ (x1_207 : Int32) (m207_ : sM), k207 x1_207 m207_ = some res → V 0 207 [(0, .ref (ad 110)), (1, .int x1_207), (2, .int x2_30), (3, .int s0_74), (4, .int x4_78)] [] m207_) ?_ (fun k207 hk207 h => ?_)
                    · intro x1_207 m207_ h
                      refine r_iinc C (v := x4_78 + 1) dX10_salvage_207 4 rfl rfl (by decide) (show _ = [(4, .int (x4_78 + 1)), (0, .ref (ad 110)), (1, .int x1_207), (2, .int x2_30), (3, .int s0_74)] from rfl) ?_
                      refine r_goto C (tgt := 78) dX10_salvage_210 (by decide) ?_
                      refine r_sub C [1, 2, 3, 4, 0] (show _ = [(0, .ref (ad 110)), (1, .int x1_207), (2, .int x2_30), (3, .int s0_74), (4, .int (x4_78 + 1))] from rfl) ?_
                      exact ih x1_207 (x4_78 + 1) m207_ h
                    refine r_icmp_ne C (tgt := 207) dX10_salvage_115 (by decide) h (fun _ h => ?_) (fun _ h => ?_)
                    · skip
                      refine r_aload_n C dX10_salvage_118 rfl 1 rfl ?_
                      refine r_getr C (ci := 10) (k9 := 27) dX10_salvage_119 rfl F_i10 (by decide) F_k72 (by omega) la_110 rfl ?_
                      refine r_iload C dX10_salvage_122 0 rfl ?_
                      refine r_zald C dX10_salvage_124 (by omega) la_131 h (fun j11 hj11 h => ?_)
                      refine s_join h (fun k144 => ∀ (m144_ : sM), k144 m144_ = some res → V 0 144 [(0, .ref (ad 110)), (1, .int x1_78), (2, .int x2_30), (3, .int s0_74), (4, .int x4_78), (5, .int (r7 + (8 * x4_78)))] [] m144_) ?_ (fun k144 hk144 h => ?_)
                      · intro m144_ h
                        refine r_iload_n C dX10_salvage_144 rfl 1 rfl ?_
                        refine r_aload_n C dX10_salvage_145 rfl 0 rfl ?_
                        refine r_getr C (ci := 10) (k9 := 27) dX10_salvage_146 rfl F_i10 (by decide) F_k72 (by omega) la_110 rfl ?_
                        refine r_iload C dX10_salvage_149 5 rfl ?_
                        refine r_zald C dX10_salvage_151 (by omega) la_131 h (fun j12 hj12 h => ?_)
                        refine s_join h (fun k160 => ∀ (s0_160 : Int32), k160 s0_160 = some res → V 0 160 [(0, .ref (ad 110)), (2, .int x2_30), (3, .int s0_74), (4, .int x4_78), (5, .int (r7 + (8 * x4_78)))] [.int s0_160, .int x1_78] m144_) ?_ (fun k160 hk160 h => ?_)
                        · intro s0_160 h
                          refine r_iadd C dX10_salvage_160 ?_
                          refine r_istore_n C dX10_salvage_161 rfl (by decide) (show _ = [(1, .int (x1_78 + s0_160)), (0, .ref (ad 110)), (2, .int x2_30), (3, .int s0_74), (4, .int x4_78), (5, .int (r7 + (8 * x4_78)))] from rfl) ?_
                          refine r_aload_n C dX10_salvage_162 rfl 1 rfl ?_
                          refine r_getr C (ci := 10) (k9 := 27) dX10_salvage_163 rfl F_i10 (by decide) F_k72 (by omega) la_110 rfl ?_
                          refine r_iload C dX10_salvage_166 5 rfl ?_
                          refine r_iconst C (v := 1) dX10_salvage_168 (by decide) ?_
                          refine r_zast C dX10_salvage_169 (by omega) la_131 h (fun j13 m14 hj13 _ h => ?_)
                          refine r_aload_n C dX10_salvage_170 rfl 1 rfl ?_
                          refine r_getr C (ci := 10) (k9 := 28) dX10_salvage_171 rfl F_i10 (by decide) F_k75 (by omega) la_110 rfl ?_
                          refine r_iload C dX10_salvage_174 5 rfl ?_
                          refine r_aload_n C dX10_salvage_176 rfl 1 rfl ?_
                          refine r_iload_n C dX10_salvage_177 rfl 2 rfl ?_
                          refine r_iconst C (v := 4) dX10_salvage_178 (by decide) ?_
                          refine r_iload C dX10_salvage_179 4 rfl ?_
                          refine r_iadd C dX10_salvage_181 ?_
                          refine r_callV C (c_X10_at nw hnw x2_30 (4 + x4_78)) (As := [.int x2_30, .int (4 + x4_78)]) (nn := 2) (stk := [.int (4 + x4_78), .int x2_30, .ref (ad 110), .int (r7 + (8 * x4_78)), .ref (ad 132)]) (ci := 10) dX10_salvage_182 gX10_salvage_X10_at ⟨rfl, by decide, by decide, by decide +kernel⟩ (by omega) la_110 rfl rfl rfl (by decide) rfl rfl (Nat.le_of_ble_eq_true rfl) (by decide) h (fun r15 m16 h => ?_)
                          show V 0 185 [(1, .int (x1_78 + s0_160)), (0, .ref (ad 110)), (2, .int x2_30), (3, .int s0_74), (4, .int x4_78), (5, .int (r7 + (8 * x4_78)))] [.int r15, .int (r7 + (8 * x4_78)), .ref (ad 132)] m16
                          refine r_iast C dX10_salvage_185 (by omega) la_132 h (fun j17 m18 hj17 _ h => ?_)
                          refine r_aload_n C dX10_salvage_186 rfl 1 rfl ?_
                          refine r_getr C (ci := 10) (k9 := 29) dX10_salvage_187 rfl F_i10 (by decide) F_k78 (by omega) la_110 rfl ?_
                          refine r_iload C dX10_salvage_190 5 rfl ?_
                          refine r_aload_n C dX10_salvage_192 rfl 1 rfl ?_
                          refine r_iload_n C dX10_salvage_193 rfl 2 rfl ?_
                          refine r_iconst C (v := 1) dX10_salvage_194 (by decide) ?_
                          refine r_callV C (c_X10_at nw hnw x2_30 1) (As := [.int x2_30, .int 1]) (nn := 2) (stk := [.int 1, .int x2_30, .ref (ad 110), .int (r7 + (8 * x4_78)), .ref (ad 133)]) (ci := 10) dX10_salvage_195 gX10_salvage_X10_at ⟨rfl, by decide, by decide, by decide +kernel⟩ (by omega) la_110 rfl rfl rfl (by decide) rfl rfl (Nat.le_of_ble_eq_true rfl) (by decide) h (fun r19 m20 h => ?_)
                          show V 0 198 [(1, .int (x1_78 + s0_160)), (0, .ref (ad 110)), (2, .int x2_30), (3, .int s0_74), (4, .int x4_78), (5, .int (r7 + (8 * x4_78)))] [.int r19, .int (r7 + (8 * x4_78)), .ref (ad 133)] m20
                          refine r_iast C dX10_salvage_198 (by omega) la_133 h (fun j21 m22 hj21 _ h => ?_)
                          refine r_aload_n C dX10_salvage_199 rfl 1 rfl ?_
                          refine r_getr C (ci := 10) (k9 := 30) dX10_salvage_200 rfl F_i10 (by decide) F_k81 (by omega) la_110 rfl ?_
                          refine r_iload C dX10_salvage_203 5 rfl ?_
                          refine r_iload_n C dX10_salvage_205 rfl 2 rfl ?_
                          refine r_iast C dX10_salvage_206 (by omega) la_134 h (fun j23 m24 hj23 _ h => ?_)
                          refine r_sub C [1, 0, 2, 3, 4] (show _ = [(0, .ref (ad 110)), (1, .int (x1_78 + s0_160)), (2, .int x2_30), (3, .int s0_74), (4, .int x4_78)] from rfl) ?_
                          exact hk207 (x1_78 + s0_160) m24 h
                        refine r_if_eq C (tgt := 159) dX10_salvage_152 (by decide) h (fun _ h => ?_) (fun _ h => ?_)
                        · skip
                          refine r_iconst C (v := 1) dX10_salvage_159 (by decide) ?_
                          refine r_sub C [0, 2, 3, 4, 5] (show _ = [(0, .ref (ad 110)), (2, .int x2_30), (3, .int s0_74), (4, .int x4_78), (5, .int (r7 + (8 * x4_78)))] from rfl) ?_
                          exact hk160 1 h
                        · skip
                          refine r_iconst C (v := 0) dX10_salvage_155 (by decide) ?_
                          refine r_goto C (tgt := 160) dX10_salvage_156 (by decide) ?_
                          refine r_sub C [0, 2, 3, 4, 5] (show _ = [(0, .ref (ad 110)), (2, .int x2_30), (3, .int s0_74), (4, .int x4_78), (5, .int (r7 + (8 * x4_78)))] from rfl) ?_
                          exact hk160 0 h
                      refine r_if_eq C (tgt := 144) dX10_salvage_125 (by decide) h (fun _ h => ?_) (fun _ h => ?_)
                      · skip
                        refine r_sub C [1, 2, 3, 4, 5, 0] (show _ = [(0, .ref (ad 110)), (1, .int x1_78), (2, .int x2_30), (3, .int s0_74), (4, .int x4_78), (5, .int (r7 + (8 * x4_78)))] from rfl) ?_
                        exact hk144 m10 h
                      · skip
                        refine r_aload_n C dX10_salvage_128 rfl 1 rfl ?_
                        refine r_iload_n C dX10_salvage_129 rfl 3 rfl ?_
                        refine r_iconst C (v := 1) dX10_salvage_130 (by decide) ?_
                        refine r_callV C (c_X10_at nw hnw x2_30 1) (As := [.int x2_30, .int 1]) (nn := 2) (stk := [.int 1, .int x2_30, .ref (ad 110)]) (ci := 10) dX10_salvage_131 gX10_salvage_X10_at ⟨rfl, by decide, by decide, by decide +kernel⟩ (by omega) la_110 rfl rfl rfl (by decide) rfl rfl (Nat.le_of_ble_eq_true rfl) (by decide) h (fun r25 m26 h => ?_)
                        show V 0 134 [(5, .int (r7 + (8 * x4_78))), (0, .ref (ad 110)), (1, .int x1_78), (2, .int x2_30), (3, .int s0_74), (4, .int x4_78)] [.int r25] m26
                        refine r_aload_n C dX10_salvage_134 rfl 1 rfl ?_
                        refine r_getr C (ci := 10) (k9 := 29) dX10_salvage_135 rfl F_i10 (by decide) F_k78 (by omega) la_110 rfl ?_
                        refine r_iload C dX10_salvage_138 0 rfl ?_
                        refine r_iald C dX10_salvage_140 (by omega) la_133 h (fun j27 hj27 h => ?_)
                        refine r_icmp_le C (tgt := 207) dX10_salvage_141 (by decide) h (fun _ h => ?_) (fun _ h => ?_)
                        · skip
                          refine r_sub C [1, 2, 3, 4, 5] (show _ = [(0, .ref (ad 110)), (1, .int x1_78), (2, .int x2_30), (3, .int s0_74), (4, .int x4_78)] from rfl) ?_
                          exact hk207 x1_78 m26 h
                        · skip
                          refine r_sub C [1, 2, 3, 4, 5, 0] (show _ = [(0, .ref (ad 110)), (1, .int x1_78), (2, .int x2_30), (3, .int s0_74), (4, .int x4_78), (5, .int (r7 + (8 * x4_78)))] from rfl) ?_
                          exact hk144 m26 h
                    · skip
                      refine r_sub C [1, 2, 3, 4, 5] (show _ = [(0, .ref (ad 110)), (1, .int x1_78), (2, .int x2_30), (3, .int s0_74), (4, .int x4_78)] from rfl) ?_
                      exact hk207 x1_78 m10 h
            refine r_sub C [2, 3, 4, 1, 0] (show _ = [(0, .ref (ad 110)), (1, .int x1_30), (2, .int x2_30), (3, .int s0_74), (4, .int 0)] from rfl) ?_
            exact L78 5000 x1_30 0 m74_ h
          refine s_join h (fun k73 => ∀ (m73_ : sM), k73 m73_ = some res → V 0 73 [(0, .ref (ad 110)), (1, .int x1_30), (2, .int x2_30)] [] m73_) ?_ (fun k73 hk73 h => ?_)
          · intro m73_ h
            refine r_iconst C (v := 0) dX10_salvage_73 (by decide) ?_
            exact hk74 0 m73_ h
          refine r_if_eq C (tgt := 73) dX10_salvage_41 (by decide) h (fun _ h => ?_) (fun _ h => ?_)
          · skip
            exact hk73 m6 h
          · skip
            refine r_aload_n C dX10_salvage_44 rfl 0 rfl ?_
            refine r_iload_n C dX10_salvage_45 rfl 2 rfl ?_
            refine r_iconst C (v := 0) dX10_salvage_46 (by decide) ?_
            refine r_callV C (c_X10_at nw hnw x2_30 0) (As := [.int x2_30, .int 0]) (nn := 2) (stk := [.int 0, .int x2_30, .ref (ad 110)]) (ci := 10) dX10_salvage_47 gX10_salvage_X10_at ⟨rfl, by decide, by decide, by decide +kernel⟩ (by omega) la_110 rfl rfl rfl (by decide) rfl rfl (Nat.le_of_ble_eq_true rfl) (by decide) h (fun r28 m29 h => ?_)
            show V 0 50 [(0, .ref (ad 110)), (1, .int x1_30), (2, .int x2_30)] [.int r28] m29
            refine r_iconst C (v := 3) dX10_salvage_50 (by decide) ?_
            refine r_icmp_ne C (tgt := 73) dX10_salvage_51 (by decide) h (fun _ h => ?_) (fun _ h => ?_)
            · skip
              refine r_aload_n C dX10_salvage_54 rfl 0 rfl ?_
              refine r_iload_n C dX10_salvage_55 rfl 2 rfl ?_
              refine r_iconst C (v := 2) dX10_salvage_56 (by decide) ?_
              refine r_callV C (c_X10_at nw hnw x2_30 2) (As := [.int x2_30, .int 2]) (nn := 2) (stk := [.int 2, .int x2_30, .ref (ad 110)]) (ci := 10) dX10_salvage_57 gX10_salvage_X10_at ⟨rfl, by decide, by decide, by decide +kernel⟩ (by omega) la_110 rfl rfl rfl (by decide) rfl rfl (Nat.le_of_ble_eq_true rfl) (by decide) h (fun r30 m31 h => ?_)
              show V 0 60 [(0, .ref (ad 110)), (1, .int x1_30), (2, .int x2_30)] [.int r30] m31
              refine r_iconst C (v := 0) dX10_salvage_60 (by decide) ?_
              refine r_bipush C (v := 7) dX10_salvage_61 (by decide) ?_
              refine r_callS C (c_X10_in nw hnw r30 0 7) (As := [.int r30, .int 0, .int 7]) (nn := 3) (stk := [.int 7, .int 0, .int r30]) dX10_salvage_63 gX10_salvage_X10_in ⟨by decide, by decide, by decide +kernel⟩ rfl rfl (by decide) rfl rfl (Nat.le_of_ble_eq_true rfl) (by decide) h (fun r32 m33 h => ?_)
              show V 0 66 [(0, .ref (ad 110)), (1, .int x1_30), (2, .int x2_30)] [.int r32] m33
              refine r_if_eq C (tgt := 73) dX10_salvage_66 (by decide) h (fun _ h => ?_) (fun _ h => ?_)
              · skip
                exact hk73 m33 h
              · skip
                refine r_iconst C (v := 1) dX10_salvage_69 (by decide) ?_
                refine r_goto C (tgt := 74) dX10_salvage_70 (by decide) ?_
                exact hk74 1 m33 h
            · skip
              exact hk73 m29 h
    refine r_sub C [2, 1, 0] (show _ = [(0, .ref (ad 110)), (1, .int 0), (2, .int 2)] from rfl) ?_
    exact L30 5000 0 2 m26_ h
  have L7 : ∀ (n : Nat) (x1_7 : Int32) (m7_ : sM), f_X10_salvage_L7 e26_7 n x1_7 m7_ = some res → V 0 7 [(0, .ref (ad 110)), (1, .int x1_7)] [] m7_ := by
    intro n
    induction n with
    | zero => intro x1_7 m7_ h; rw [f_X10_salvage_L7] at h; cases h
    | succ n ih =>
      intro x1_7 m7_ h
      rw [f_X10_salvage_L7] at h
      refine r_iload_n C dX10_salvage_7 rfl 1 rfl ?_
      refine r_bipush C (v := 64) dX10_salvage_8 (by decide) ?_
      refine r_icmp_ge C (tgt := 26) dX10_salvage_10 (by decide) h (fun _ h => ?_) (fun _ h => ?_)
      · skip
        refine r_sub C [0] (show _ = [(0, .ref (ad 110))] from rfl) ?_
        exact he26_7 m7_ h
      · skip
        refine r_aload_n C dX10_salvage_13 rfl 0 rfl ?_
        refine r_getr C (ci := 10) (k9 := 27) dX10_salvage_14 rfl F_i10 (by decide) F_k72 (by omega) la_110 rfl ?_
        refine r_iload_n C dX10_salvage_17 rfl 1 rfl ?_
        refine r_iconst C (v := 0) dX10_salvage_18 (by decide) ?_
        refine r_zast C dX10_salvage_19 (by omega) la_131 h (fun j34 m35 hj34 _ h => ?_)
        refine r_iinc C (v := x1_7 + 1) dX10_salvage_20 1 rfl rfl (by decide) (show _ = [(1, .int (x1_7 + 1)), (0, .ref (ad 110))] from rfl) ?_
        refine r_goto C (tgt := 7) dX10_salvage_23 (by decide) ?_
        refine r_sub C [1, 0] (show _ = [(0, .ref (ad 110)), (1, .int (x1_7 + 1))] from rfl) ?_
        exact ih (x1_7 + 1) m35 h
  refine r_sub C [1, 0] (show _ = [(0, .ref (ad 110)), (1, .int 0)] from rfl) ?_
  exact L7 5000 0 m1 h
noncomputable def f_X10_salvaged_L8 (y2_8 : Int32) (m : sM) (e46_8 : Int32 → Option (sR Int32)) : Nat → Int32 → Int32 → Int32 → Option (sR Int32)
  | 0, _, _, _ => none
  | n + 1, x3_8, x4_8, x5_8 =>
    if 64 ≤ x5_8 then (e46_8 x3_8) else (s_ix x5_8 64 fun j7 => s_jn (fun (x3_40 : Int32) (x4_40 : Int32) => f_X10_salvaged_L8 y2_8 m e46_8 n x3_40 x4_40 (x5_8 + 1)) fun k40 => if (m.1 131 j7) = 0 then (k40 x3_8 x4_8) else (s_jn (fun (s0_36 : Int32) => k40 s0_36 (x4_8 + (-1))) fun k36 => if x4_8 = 0 then (k36 x5_8) else (k36 x3_8)))
noncomputable def f_X10_salvaged (p1 : Int32) (p2 : Int32) (m : sM) : Option (sR Int32) :=
  s_jn (fun (x3_46 : Int32) => s_jn (fun (s0_69 : Int32) (m69_ : sM) => s_md (s_up m69_ 110 0 s0_69) fun m1 => if (m1.1 110 0) ≤ 0 then (s_jn (fun (s0_123 : Int32) => some (.inl s0_123, m1)) fun k123 => if p2 = 0 then (k123 x3_46) else (if p2 = 1 then (s_ix x3_46 64 fun j2 => k123 (m1.1 132 j2)) else (if p2 = 2 then (s_ix x3_46 64 fun j3 => k123 (m1.1 133 j3)) else (s_ix x3_46 64 fun j4 => k123 (m1.1 134 j4))))) else (some (.inl 0, m1))) fun k69 => if 0 ≤ x3_46 then (s_bd (f_X10_in p2 0 3 m) fun r5 m6 => if r5 = 0 then (k69 2 m6) else (k69 0 m6)) else (k69 1 m)) fun e46_8 => f_X10_salvaged_L8 p2 m e46_8 5000 (-1) p1 0
set_option maxRecDepth 20000 in
set_option maxHeartbeats 4000000 in
theorem c_X10_salvaged (nw : Nat) (hnw : 29 ≤ nw) (p1 : Int32) (p2 : Int32) : s_Con s_i 110 nw yX10_salvaged wsX10_salvaged 14 185 0 (f_X10_salvaged p1 p2) (fun ad => [.ref (ad 110), .int p1, .int p2]) := by
  refine s_con_of cX10_salvaged 6 (some .int) RX10 (by decide) rfl rfl (fun _ => Nat.le_of_ble_eq_true rfl) (fun ad m res V C h => ?_)
  unfold f_X10_salvaged at h
  have F_i10 : ∀ w ∈ wsX100, w ∈ wsX10_salvaged := by decide +kernel
  have F_k100 : Cond.fieldLink RX10 100 "ShadowFileModel" "thrown" "I" ∈ wsX10_salvaged := by decide +kernel
  have F_k75 : Cond.fieldLink RX10 75 "ShadowFileModel" "salvagedValue" "[I" ∈ wsX10_salvaged := by decide +kernel
  have F_k78 : Cond.fieldLink RX10 78 "ShadowFileModel" "salvagedNumber" "[I" ∈ wsX10_salvaged := by decide +kernel
  have F_k81 : Cond.fieldLink RX10 81 "ShadowFileModel" "salvagedBlock" "[I" ∈ wsX10_salvaged := by decide +kernel
  have F_k72 : Cond.fieldLink RX10 72 "ShadowFileModel" "isSalvaged" "[Z" ∈ wsX10_salvaged := by decide +kernel
  show V 0 0 [(0, .ref (ad 110)), (1, .int p1), (2, .int p2)] [] m
  refine r_iconst C (v := -1) dX10_salvaged_0 (by decide) ?_
  refine r_istore_n C dX10_salvaged_1 rfl (by decide) (show _ = [(3, .int (-1)), (0, .ref (ad 110)), (1, .int p1), (2, .int p2)] from rfl) ?_
  refine r_iload_n C dX10_salvaged_2 rfl 2 rfl ?_
  refine r_istore C dX10_salvaged_3 (by decide) (show _ = [(4, .int p1), (3, .int (-1)), (0, .ref (ad 110)), (1, .int p1), (2, .int p2)] from rfl) ?_
  refine r_iconst C (v := 0) dX10_salvaged_5 (by decide) ?_
  refine r_istore C dX10_salvaged_6 (by decide) (show _ = [(5, .int 0), (4, .int p1), (3, .int (-1)), (0, .ref (ad 110)), (1, .int p1), (2, .int p2)] from rfl) ?_
  refine s_join h (fun e46_8 => ∀ (x3_46 : Int32), e46_8 x3_46 = some res → V 0 46 [(0, .ref (ad 110)), (2, .int p2), (3, .int x3_46)] [] m) ?_ (fun e46_8 he46_8 h => ?_)
  · intro x3_46 h
    refine r_aload_n C dX10_salvaged_46 rfl 0 rfl ?_
    refine r_iload_n C dX10_salvaged_47 rfl 2 rfl ?_
    refine s_join h (fun k69 => ∀ (s0_69 : Int32) (m69_ : sM), k69 s0_69 m69_ = some res → V 0 69 [(0, .ref (ad 110)), (2, .int p2), (3, .int x3_46)] [.int s0_69, .ref (ad 110)] m69_) ?_ (fun k69 hk69 h => ?_)
    · intro s0_69 m69_ h
      refine r_puti C (ci := 10) (k9 := 0) dX10_salvaged_69 rfl F_i10 (by decide) F_k100 (by omega) la_110 rfl tyX10 tyX10_ok nmX10 rfl (tyX10_ok 0 (by decide)) rfl rfl h (fun m1 _ h => ?_)
      refine r_aload_n C dX10_salvaged_72 rfl 0 rfl ?_
      refine r_geti C (ci := 10) (k9 := 0) dX10_salvaged_73 rfl F_i10 (by decide) F_k100 (by omega) la_110 rfl ?_
      refine r_if_le C (tgt := 81) dX10_salvaged_76 (by decide) h (fun _ h => ?_) (fun _ h => ?_)
      · skip
        refine r_iload_n C dX10_salvaged_81 rfl 1 rfl ?_
        refine s_join h (fun k123 => ∀ (s0_123 : Int32), k123 s0_123 = some res → V 0 123 [] [.int s0_123] m1) ?_ (fun k123 hk123 h => ?_)
        · intro s0_123 h
          exact r_iret C dX10_salvaged_123 rfl h
        refine r_if_ne C (tgt := 89) dX10_salvaged_82 (by decide) h (fun _ h => ?_) (fun _ h => ?_)
        · skip
          refine r_iload_n C dX10_salvaged_85 rfl 2 rfl ?_
          refine r_goto C (tgt := 123) dX10_salvaged_86 (by decide) ?_
          refine r_sub C [] (show _ = [] from rfl) ?_
          exact hk123 x3_46 h
        · skip
          refine r_iload_n C dX10_salvaged_89 rfl 1 rfl ?_
          refine r_iconst C (v := 1) dX10_salvaged_90 (by decide) ?_
          refine r_icmp_ne C (tgt := 103) dX10_salvaged_91 (by decide) h (fun _ h => ?_) (fun _ h => ?_)
          · skip
            refine r_aload_n C dX10_salvaged_94 rfl 0 rfl ?_
            refine r_getr C (ci := 10) (k9 := 28) dX10_salvaged_95 rfl F_i10 (by decide) F_k75 (by omega) la_110 rfl ?_
            refine r_iload_n C dX10_salvaged_98 rfl 2 rfl ?_
            refine r_iald C dX10_salvaged_99 (by omega) la_132 h (fun j2 hj2 h => ?_)
            refine r_goto C (tgt := 123) dX10_salvaged_100 (by decide) ?_
            refine r_sub C [] (show _ = [] from rfl) ?_
            exact hk123 (m1.1 132 j2) h
          · skip
            refine r_iload_n C dX10_salvaged_103 rfl 1 rfl ?_
            refine r_iconst C (v := 2) dX10_salvaged_104 (by decide) ?_
            refine r_icmp_ne C (tgt := 117) dX10_salvaged_105 (by decide) h (fun _ h => ?_) (fun _ h => ?_)
            · skip
              refine r_aload_n C dX10_salvaged_108 rfl 0 rfl ?_
              refine r_getr C (ci := 10) (k9 := 29) dX10_salvaged_109 rfl F_i10 (by decide) F_k78 (by omega) la_110 rfl ?_
              refine r_iload_n C dX10_salvaged_112 rfl 2 rfl ?_
              refine r_iald C dX10_salvaged_113 (by omega) la_133 h (fun j3 hj3 h => ?_)
              refine r_goto C (tgt := 123) dX10_salvaged_114 (by decide) ?_
              refine r_sub C [] (show _ = [] from rfl) ?_
              exact hk123 (m1.1 133 j3) h
            · skip
              refine r_aload_n C dX10_salvaged_117 rfl 0 rfl ?_
              refine r_getr C (ci := 10) (k9 := 30) dX10_salvaged_118 rfl F_i10 (by decide) F_k81 (by omega) la_110 rfl ?_
              refine r_iload_n C dX10_salvaged_121 rfl 2 rfl ?_
              refine r_iald C dX10_salvaged_122 (by omega) la_134 h (fun j4 hj4 h => ?_)
              refine r_sub C [] (show _ = [] from rfl) ?_
              exact hk123 (m1.1 134 j4) h
      · skip
        refine r_iconst C (v := 0) dX10_salvaged_79 (by decide) ?_
        exact r_iret C dX10_salvaged_80 rfl h
    refine r_if_ge C (tgt := 55) dX10_salvaged_48 (by decide) h (fun _ h => ?_) (fun _ h => ?_)
    · skip
      refine r_iload_n C dX10_salvaged_55 rfl 1 rfl ?_
      refine r_iconst C (v := 0) dX10_salvaged_56 (by decide) ?_
      refine r_iconst C (v := 3) dX10_salvaged_57 (by decide) ?_
      refine r_callS C (c_X10_in nw hnw p2 0 3) (As := [.int p2, .int 0, .int 3]) (nn := 3) (stk := [.int 3, .int 0, .int p2, .ref (ad 110)]) dX10_salvaged_58 gX10_salvaged_X10_in ⟨by decide, by decide, by decide +kernel⟩ rfl rfl (by decide) rfl rfl (Nat.le_of_ble_eq_true rfl) (by decide) h (fun r5 m6 h => ?_)
      show V 0 61 [(0, .ref (ad 110)), (2, .int p2), (3, .int x3_46)] [.int r5, .ref (ad 110)] m6
      refine r_if_ne C (tgt := 68) dX10_salvaged_61 (by decide) h (fun _ h => ?_) (fun _ h => ?_)
      · skip
        refine r_iconst C (v := 2) dX10_salvaged_64 (by decide) ?_
        refine r_goto C (tgt := 69) dX10_salvaged_65 (by decide) ?_
        exact hk69 2 m6 h
      · skip
        refine r_iconst C (v := 0) dX10_salvaged_68 (by decide) ?_
        exact hk69 0 m6 h
    · skip
      refine r_iconst C (v := 1) dX10_salvaged_51 (by decide) ?_
      refine r_goto C (tgt := 69) dX10_salvaged_52 (by decide) ?_
      exact hk69 1 m h
  have L8 : ∀ (n : Nat) (x3_8 : Int32) (x4_8 : Int32) (x5_8 : Int32), f_X10_salvaged_L8 p2 m e46_8 n x3_8 x4_8 x5_8 = some res → V 0 8 [(0, .ref (ad 110)), (2, .int p2), (3, .int x3_8), (4, .int x4_8), (5, .int x5_8)] [] m := by
    intro n
    induction n with
    | zero => intro x3_8 x4_8 x5_8 h; rw [f_X10_salvaged_L8] at h; cases h
    | succ n ih =>
      intro x3_8 x4_8 x5_8 h
      rw [f_X10_salvaged_L8] at h
      refine r_iload C dX10_salvaged_8 4 rfl ?_
      refine r_bipush C (v := 64) dX10_salvaged_10 (by decide) ?_
      refine r_icmp_ge C (tgt := 46) dX10_salvaged_12 (by decide) h (fun _ h => ?_) (fun _ h => ?_)
      · skip
        refine r_sub C [0, 1, 2] (show _ = [(0, .ref (ad 110)), (2, .int p2), (3, .int x3_8)] from rfl) ?_
        exact he46_8 x3_8 h
      · skip
        refine r_aload_n C dX10_salvaged_15 rfl 0 rfl ?_
        refine r_getr C (ci := 10) (k9 := 27) dX10_salvaged_16 rfl F_i10 (by decide) F_k72 (by omega) la_110 rfl ?_
        refine r_iload C dX10_salvaged_19 4 rfl ?_
        refine r_zald C dX10_salvaged_21 (by omega) la_131 h (fun j7 hj7 h => ?_)
        refine s_join h (fun k40 => ∀ (x3_40 : Int32) (x4_40 : Int32), k40 x3_40 x4_40 = some res → V 0 40 [(0, .ref (ad 110)), (2, .int p2), (3, .int x3_40), (4, .int x4_40), (5, .int x5_8)] [] m) ?_ (fun k40 hk40 h => ?_)
        · intro x3_40 x4_40 h
          refine r_iinc C (v := x5_8 + 1) dX10_salvaged_40 4 rfl rfl (by decide) (show _ = [(5, .int (x5_8 + 1)), (0, .ref (ad 110)), (2, .int p2), (3, .int x3_40), (4, .int x4_40)] from rfl) ?_
          refine r_goto C (tgt := 8) dX10_salvaged_43 (by decide) ?_
          refine r_sub C [1, 2, 3, 4, 0] (show _ = [(0, .ref (ad 110)), (2, .int p2), (3, .int x3_40), (4, .int x4_40), (5, .int (x5_8 + 1))] from rfl) ?_
          exact ih x3_40 x4_40 (x5_8 + 1) h
        refine r_if_eq C (tgt := 40) dX10_salvaged_22 (by decide) h (fun _ h => ?_) (fun _ h => ?_)
        · skip
          exact hk40 x3_8 x4_8 h
        · skip
          refine r_iload C dX10_salvaged_25 3 rfl ?_
          refine s_join h (fun k36 => ∀ (s0_36 : Int32), k36 s0_36 = some res → V 0 36 [(0, .ref (ad 110)), (2, .int p2), (4, .int x4_8), (5, .int x5_8)] [.int s0_36] m) ?_ (fun k36 hk36 h => ?_)
          · intro s0_36 h
            refine r_istore_n C dX10_salvaged_36 rfl (by decide) (show _ = [(3, .int s0_36), (0, .ref (ad 110)), (2, .int p2), (4, .int x4_8), (5, .int x5_8)] from rfl) ?_
            refine r_iinc C (v := x4_8 + (-1)) dX10_salvaged_37 3 rfl rfl (by decide) (show _ = [(4, .int (x4_8 + (-1))), (3, .int s0_36), (0, .ref (ad 110)), (2, .int p2), (5, .int x5_8)] from rfl) ?_
            refine r_sub C [2, 3, 1, 0, 4] (show _ = [(0, .ref (ad 110)), (2, .int p2), (3, .int s0_36), (4, .int (x4_8 + (-1))), (5, .int x5_8)] from rfl) ?_
            exact hk40 s0_36 (x4_8 + (-1)) h
          refine r_if_ne C (tgt := 35) dX10_salvaged_27 (by decide) h (fun _ h => ?_) (fun _ h => ?_)
          · skip
            refine r_iload C dX10_salvaged_30 4 rfl ?_
            refine r_goto C (tgt := 36) dX10_salvaged_32 (by decide) ?_
            refine r_sub C [0, 1, 3, 4] (show _ = [(0, .ref (ad 110)), (2, .int p2), (4, .int x4_8), (5, .int x5_8)] from rfl) ?_
            exact hk36 x5_8 h
          · skip
            refine r_iload_n C dX10_salvaged_35 rfl 2 rfl ?_
            refine r_sub C [0, 1, 3, 4] (show _ = [(0, .ref (ad 110)), (2, .int p2), (4, .int x4_8), (5, .int x5_8)] from rfl) ?_
            exact hk36 x3_8 h
  refine r_sub C [3, 5, 2, 1, 0] (show _ = [(0, .ref (ad 110)), (2, .int p2), (3, .int (-1)), (4, .int p1), (5, .int 0)] from rfl) ?_
  exact L8 5000 (-1) p1 0 h
noncomputable def f_X10_adopt_L34 (y1_34 : Int32) (e77_34 : Int32 → sM → Option (sR Int32)) : Nat → Int32 → Int32 → sM → Option (sR Int32)
  | 0, _, _, _ => none
  | n + 1, x2_34, x3_34, m34_ =>
    if 64 ≤ x3_34 then (e77_34 x2_34 m34_) else (if (m34_.1 110 0) = 0 then (s_ix x3_34 64 fun j4 => s_jn (fun (x2_71 : Int32) (m71_ : sM) => f_X10_adopt_L34 y1_34 e77_34 n x2_71 (x3_34 + 1) m71_) fun k71 => if (m34_.1 131 j4) = 0 then (k71 x2_34 m34_) else (s_ix x3_34 64 fun j5 => s_bd (f_X10_change y1_34 x3_34 (m34_.1 132 j5) m34_) fun r6 m7 => k71 (x2_34 + 1) m7)) else (e77_34 x2_34 m34_))
noncomputable def f_X10_adopt (p1 : Int32) (m : sM) : Option (sR Int32) :=
  s_bd (f_X10_isSlot p1 m) fun r1 m2 => s_jn (fun (s0_27 : Int32) => s_md (s_up m2 110 0 s0_27) fun m3 => s_jn (fun (x2_77 : Int32) (m77_ : sM) => some (.inl x2_77, m77_)) fun e77_34 => f_X10_adopt_L34 p1 e77_34 5000 0 0 m3) fun k27 => if r1 = 0 then (k27 1) else (s_ix p1 3 fun j8 => if (m2.1 118 j8) = 1 then (k27 0) else (k27 2))
set_option maxRecDepth 20000 in
set_option maxHeartbeats 4000000 in
theorem c_X10_adopt (nw : Nat) (hnw : 29 ≤ nw) (p1 : Int32) : s_Con s_i 110 nw yX10_adopt wsX10_adopt 16 230 0 (f_X10_adopt p1) (fun ad => [.ref (ad 110), .int p1]) := by
  refine s_con_of cX10_adopt 4 (some .int) RX10 (by decide) rfl rfl (fun _ => Nat.le_of_ble_eq_true rfl) (fun ad m res V C h => ?_)
  unfold f_X10_adopt at h
  have F_i10 : ∀ w ∈ wsX100, w ∈ wsX10_adopt := by decide +kernel
  have F_k100 : Cond.fieldLink RX10 100 "ShadowFileModel" "thrown" "I" ∈ wsX10_adopt := by decide +kernel
  have F_k72 : Cond.fieldLink RX10 72 "ShadowFileModel" "isSalvaged" "[Z" ∈ wsX10_adopt := by decide +kernel
  have F_k75 : Cond.fieldLink RX10 75 "ShadowFileModel" "salvagedValue" "[I" ∈ wsX10_adopt := by decide +kernel
  have F_k32 : Cond.fieldLink RX10 32 "ShadowFileModel" "state" "[I" ∈ wsX10_adopt := by decide +kernel
  show V 0 0 [(0, .ref (ad 110)), (1, .int p1)] [] m
  refine r_aload_n C dX10_adopt_0 rfl 0 rfl ?_
  refine r_iload_n C dX10_adopt_1 rfl 1 rfl ?_
  refine r_callS C (c_X10_isSlot nw hnw p1) (As := [.int p1]) (nn := 1) (stk := [.int p1, .ref (ad 110)]) dX10_adopt_2 gX10_adopt_X10_isSlot ⟨by decide, by decide, by decide +kernel⟩ rfl rfl (by decide) rfl rfl (Nat.le_of_ble_eq_true rfl) (by decide) h (fun r1 m2 h => ?_)
  show V 0 5 [(0, .ref (ad 110)), (1, .int p1)] [.int r1, .ref (ad 110)] m2
  refine s_join h (fun k27 => ∀ (s0_27 : Int32), k27 s0_27 = some res → V 0 27 [(0, .ref (ad 110)), (1, .int p1)] [.int s0_27, .ref (ad 110)] m2) ?_ (fun k27 hk27 h => ?_)
  · intro s0_27 h
    refine r_puti C (ci := 10) (k9 := 0) dX10_adopt_27 rfl F_i10 (by decide) F_k100 (by omega) la_110 rfl tyX10 tyX10_ok nmX10 rfl (tyX10_ok 0 (by decide)) rfl rfl h (fun m3 _ h => ?_)
    refine r_iconst C (v := 0) dX10_adopt_30 (by decide) ?_
    refine r_istore_n C dX10_adopt_31 rfl (by decide) (show _ = [(2, .int 0), (0, .ref (ad 110)), (1, .int p1)] from rfl) ?_
    refine r_iconst C (v := 0) dX10_adopt_32 (by decide) ?_
    refine r_istore_n C dX10_adopt_33 rfl (by decide) (show _ = [(3, .int 0), (2, .int 0), (0, .ref (ad 110)), (1, .int p1)] from rfl) ?_
    refine s_join h (fun e77_34 => ∀ (x2_77 : Int32) (m77_ : sM), e77_34 x2_77 m77_ = some res → V 0 77 [(2, .int x2_77)] [] m77_) ?_ (fun e77_34 he77_34 h => ?_)
    · intro x2_77 m77_ h
      refine r_iload_n C dX10_adopt_77 rfl 0 rfl ?_
      exact r_iret C dX10_adopt_78 rfl h
    have L34 : ∀ (n : Nat) (x2_34 : Int32) (x3_34 : Int32) (m34_ : sM), f_X10_adopt_L34 p1 e77_34 n x2_34 x3_34 m34_ = some res → V 0 34 [(0, .ref (ad 110)), (1, .int p1), (2, .int x2_34), (3, .int x3_34)] [] m34_ := by
      intro n
      induction n with
      | zero => intro x2_34 x3_34 m34_ h; rw [f_X10_adopt_L34] at h; cases h
      | succ n ih =>
        intro x2_34 x3_34 m34_ h
        rw [f_X10_adopt_L34] at h
        refine r_iload_n C dX10_adopt_34 rfl 3 rfl ?_
        refine r_bipush C (v := 64) dX10_adopt_35 (by decide) ?_
        refine r_icmp_ge C (tgt := 77) dX10_adopt_37 (by decide) h (fun _ h => ?_) (fun _ h => ?_)
        · skip
          refine r_sub C [2] (show _ = [(2, .int x2_34)] from rfl) ?_
          exact he77_34 x2_34 m34_ h
        · skip
          refine r_aload_n C dX10_adopt_40 rfl 0 rfl ?_
          refine r_geti C (ci := 10) (k9 := 0) dX10_adopt_41 rfl F_i10 (by decide) F_k100 (by omega) la_110 rfl ?_
          refine r_if_ne C (tgt := 77) dX10_adopt_44 (by decide) h (fun _ h => ?_) (fun _ h => ?_)
          · skip
            refine r_aload_n C dX10_adopt_47 rfl 0 rfl ?_
            refine r_getr C (ci := 10) (k9 := 27) dX10_adopt_48 rfl F_i10 (by decide) F_k72 (by omega) la_110 rfl ?_
            refine r_iload_n C dX10_adopt_51 rfl 3 rfl ?_
            refine r_zald C dX10_adopt_52 (by omega) la_131 h (fun j4 hj4 h => ?_)
            refine s_join h (fun k71 => ∀ (x2_71 : Int32) (m71_ : sM), k71 x2_71 m71_ = some res → V 0 71 [(0, .ref (ad 110)), (1, .int p1), (2, .int x2_71), (3, .int x3_34)] [] m71_) ?_ (fun k71 hk71 h => ?_)
            · intro x2_71 m71_ h
              refine r_iinc C (v := x3_34 + 1) dX10_adopt_71 3 rfl rfl (by decide) (show _ = [(3, .int (x3_34 + 1)), (0, .ref (ad 110)), (1, .int p1), (2, .int x2_71)] from rfl) ?_
              refine r_goto C (tgt := 34) dX10_adopt_74 (by decide) ?_
              refine r_sub C [1, 2, 3, 0] (show _ = [(0, .ref (ad 110)), (1, .int p1), (2, .int x2_71), (3, .int (x3_34 + 1))] from rfl) ?_
              exact ih x2_71 (x3_34 + 1) m71_ h
            refine r_if_eq C (tgt := 71) dX10_adopt_53 (by decide) h (fun _ h => ?_) (fun _ h => ?_)
            · skip
              exact hk71 x2_34 m34_ h
            · skip
              refine r_aload_n C dX10_adopt_56 rfl 0 rfl ?_
              refine r_iload_n C dX10_adopt_57 rfl 1 rfl ?_
              refine r_iload_n C dX10_adopt_58 rfl 3 rfl ?_
              refine r_aload_n C dX10_adopt_59 rfl 0 rfl ?_
              refine r_getr C (ci := 10) (k9 := 28) dX10_adopt_60 rfl F_i10 (by decide) F_k75 (by omega) la_110 rfl ?_
              refine r_iload_n C dX10_adopt_63 rfl 3 rfl ?_
              refine r_iald C dX10_adopt_64 (by omega) la_132 h (fun j5 hj5 h => ?_)
              refine r_callV C (c_X10_change nw hnw p1 x3_34 (m34_.1 132 j5)) (As := [.int p1, .int x3_34, .int (m34_.1 132 j5)]) (nn := 3) (stk := [.int (m34_.1 132 j5), .int x3_34, .int p1, .ref (ad 110)]) (ci := 10) dX10_adopt_65 gX10_adopt_X10_change ⟨rfl, by decide, by decide, by decide +kernel⟩ (by omega) la_110 rfl rfl rfl (by decide) rfl rfl (Nat.le_of_ble_eq_true rfl) (by decide) h (fun r6 m7 h => ?_)
              show V 0 68 [(0, .ref (ad 110)), (1, .int p1), (2, .int x2_34), (3, .int x3_34)] [] m7
              refine r_iinc C (v := x2_34 + 1) dX10_adopt_68 2 rfl rfl (by decide) (show _ = [(2, .int (x2_34 + 1)), (0, .ref (ad 110)), (1, .int p1), (3, .int x3_34)] from rfl) ?_
              refine r_sub C [1, 2, 0, 3] (show _ = [(0, .ref (ad 110)), (1, .int p1), (2, .int (x2_34 + 1)), (3, .int x3_34)] from rfl) ?_
              exact hk71 (x2_34 + 1) m7 h
          · skip
            refine r_sub C [2] (show _ = [(2, .int x2_34)] from rfl) ?_
            exact he77_34 x2_34 m34_ h
    refine r_sub C [2, 3, 1, 0] (show _ = [(0, .ref (ad 110)), (1, .int p1), (2, .int 0), (3, .int 0)] from rfl) ?_
    exact L34 5000 0 0 m3 h
  refine r_if_ne C (tgt := 12) dX10_adopt_5 (by decide) h (fun _ h => ?_) (fun _ h => ?_)
  · skip
    refine r_iconst C (v := 1) dX10_adopt_8 (by decide) ?_
    refine r_goto C (tgt := 27) dX10_adopt_9 (by decide) ?_
    exact hk27 1 h
  · skip
    refine r_aload_n C dX10_adopt_12 rfl 0 rfl ?_
    refine r_getr C (ci := 10) (k9 := 10) dX10_adopt_13 rfl F_i10 (by decide) F_k32 (by omega) la_110 rfl ?_
    refine r_iload_n C dX10_adopt_16 rfl 1 rfl ?_
    refine r_iald C dX10_adopt_17 (by omega) la_118 h (fun j8 hj8 h => ?_)
    refine r_iconst C (v := 1) dX10_adopt_18 (by decide) ?_
    refine r_icmp_eq C (tgt := 26) dX10_adopt_19 (by decide) h (fun _ h => ?_) (fun _ h => ?_)
    · skip
      refine r_iconst C (v := 0) dX10_adopt_26 (by decide) ?_
      exact hk27 0 h
    · skip
      refine r_iconst C (v := 2) dX10_adopt_22 (by decide) ?_
      refine r_goto C (tgt := 27) dX10_adopt_23 (by decide) ?_
      exact hk27 2 h
