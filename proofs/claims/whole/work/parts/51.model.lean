noncomputable def f_X10_put (p1 : Int32) (p2 : Int32) (p3 : Int32) (m : sM) : Option (sR Int32) :=
  s_bd (f_X10_isSlot p1 m) fun r1 m2 => s_jn (fun (s0_51 : Int32) (m51_ : sM) => s_md (s_up m51_ 110 0 s0_51) fun m3 => if (m3.1 110 0) ≤ 0 then (s_bd (f_X10_sees p1 p2 m3) fun r4 m5 => s_bd (f_X10_change p1 p2 p3 m5) fun r6 m7 => s_gd (r4 = 0 ∨ r4 = 1) (some (.inl r4, m7))) else (some (.inl 0, m3))) fun k51 => if r1 = 0 then (k51 1 m2) else (s_bd (f_X10_isKey p2 m2) fun r8 m9 => s_jn (fun (m32_ : sM) => k51 2 m32_) fun k32 => if r8 = 0 then (k32  m9) else (s_bd (f_X10_in p3 (-9999) 9999 m9) fun r10 m11 => if r10 = 0 then (k32  m11) else (s_ix p1 3 fun j12 => if (m11.1 118 j12) = 1 then (k51 0 m11) else (k51 3 m11))))
set_option maxRecDepth 20000 in
set_option maxHeartbeats 4000000 in
theorem c_X10_put (nw : Nat) (hnw : 29 ≤ nw) (p1 : Int32) (p2 : Int32) (p3 : Int32) : s_Con s_i 110 nw yX10_put wsX10_put 16 230 0 (f_X10_put p1 p2 p3) (fun ad => [.ref (ad 110), .int p1, .int p2, .int p3]) := by
  refine s_con_of cX10_put 5 (some .boolean) RX10 (by decide) rfl rfl (fun _ => Nat.le_of_ble_eq_true rfl) (fun ad m res V C h => ?_)
  unfold f_X10_put at h
  have F_i10 : ∀ w ∈ wsX100, w ∈ wsX10_put := by decide +kernel
  have F_k100 : Cond.fieldLink RX10 100 "ShadowFileModel" "thrown" "I" ∈ wsX10_put := by decide +kernel
  have F_k32 : Cond.fieldLink RX10 32 "ShadowFileModel" "state" "[I" ∈ wsX10_put := by decide +kernel
  show V 0 0 [(0, .ref (ad 110)), (1, .int p1), (2, .int p2), (3, .int p3)] [] m
  refine r_aload_n C dX10_put_0 rfl 0 rfl ?_
  refine r_iload_n C dX10_put_1 rfl 1 rfl ?_
  refine r_callS C (c_X10_isSlot nw hnw p1) (As := [.int p1]) (nn := 1) (stk := [.int p1, .ref (ad 110)]) dX10_put_2 gX10_put_X10_isSlot ⟨by decide, by decide, by decide +kernel⟩ rfl rfl (by decide) rfl rfl (Nat.le_of_ble_eq_true rfl) (by decide) h (fun r1 m2 h => ?_)
  show V 0 5 [(0, .ref (ad 110)), (1, .int p1), (2, .int p2), (3, .int p3)] [.int r1, .ref (ad 110)] m2
  refine s_join h (fun k51 => ∀ (s0_51 : Int32) (m51_ : sM), k51 s0_51 m51_ = some res → V 0 51 [(0, .ref (ad 110)), (1, .int p1), (2, .int p2), (3, .int p3)] [.int s0_51, .ref (ad 110)] m51_) ?_ (fun k51 hk51 h => ?_)
  · intro s0_51 m51_ h
    refine r_puti C (ci := 10) (k9 := 0) dX10_put_51 rfl F_i10 (by decide) F_k100 (by omega) la_110 rfl tyX10 tyX10_ok nmX10 rfl (tyX10_ok 0 (by decide)) rfl rfl h (fun m3 _ h => ?_)
    refine r_aload_n C dX10_put_54 rfl 0 rfl ?_
    refine r_geti C (ci := 10) (k9 := 0) dX10_put_55 rfl F_i10 (by decide) F_k100 (by omega) la_110 rfl ?_
    refine r_if_le C (tgt := 63) dX10_put_58 (by decide) h (fun _ h => ?_) (fun _ h => ?_)
    · skip
      refine r_aload_n C dX10_put_63 rfl 0 rfl ?_
      refine r_iload_n C dX10_put_64 rfl 1 rfl ?_
      refine r_iload_n C dX10_put_65 rfl 2 rfl ?_
      refine r_callV C (c_X10_sees nw hnw p1 p2) (As := [.int p1, .int p2]) (nn := 2) (stk := [.int p2, .int p1, .ref (ad 110)]) (ci := 10) dX10_put_66 gX10_put_X10_sees ⟨rfl, by decide, by decide, by decide +kernel⟩ (by omega) la_110 rfl rfl rfl (by decide) rfl rfl (Nat.le_of_ble_eq_true rfl) (by decide) h (fun r4 m5 h => ?_)
      show V 0 69 [(0, .ref (ad 110)), (1, .int p1), (2, .int p2), (3, .int p3)] [.int r4] m5
      refine r_istore C dX10_put_69 (by decide) (show _ = [(4, .int r4), (0, .ref (ad 110)), (1, .int p1), (2, .int p2), (3, .int p3)] from rfl) ?_
      refine r_aload_n C dX10_put_71 rfl 1 rfl ?_
      refine r_iload_n C dX10_put_72 rfl 2 rfl ?_
      refine r_iload_n C dX10_put_73 rfl 3 rfl ?_
      refine r_iload_n C dX10_put_74 rfl 4 rfl ?_
      refine r_callV C (c_X10_change nw hnw p1 p2 p3) (As := [.int p1, .int p2, .int p3]) (nn := 3) (stk := [.int p3, .int p2, .int p1, .ref (ad 110)]) (ci := 10) dX10_put_75 gX10_put_X10_change ⟨rfl, by decide, by decide, by decide +kernel⟩ (by omega) la_110 rfl rfl rfl (by decide) rfl rfl (Nat.le_of_ble_eq_true rfl) (by decide) h (fun r6 m7 h => ?_)
      show V 0 78 [(4, .int r4), (0, .ref (ad 110)), (1, .int p1), (2, .int p2), (3, .int p3)] [] m7
      refine r_iload C dX10_put_78 0 rfl ?_
      obtain ⟨hg, h⟩ := s_gd_of h
      exact r_zret C dX10_put_80 rfl (s_z hg) h
    · skip
      refine r_iconst C (v := 0) dX10_put_61 (by decide) ?_
      exact r_zret C dX10_put_62 rfl (by decide) h
  refine r_if_ne C (tgt := 12) dX10_put_5 (by decide) h (fun _ h => ?_) (fun _ h => ?_)
  · skip
    refine r_iconst C (v := 1) dX10_put_8 (by decide) ?_
    refine r_goto C (tgt := 51) dX10_put_9 (by decide) ?_
    exact hk51 1 m2 h
  · skip
    refine r_iload_n C dX10_put_12 rfl 2 rfl ?_
    refine r_callS C (c_X10_isKey nw hnw p2) (As := [.int p2]) (nn := 1) (stk := [.int p2, .ref (ad 110)]) dX10_put_13 gX10_put_X10_isKey ⟨by decide, by decide, by decide +kernel⟩ rfl rfl (by decide) rfl rfl (Nat.le_of_ble_eq_true rfl) (by decide) h (fun r8 m9 h => ?_)
    show V 0 16 [(0, .ref (ad 110)), (1, .int p1), (2, .int p2), (3, .int p3)] [.int r8, .ref (ad 110)] m9
    refine s_join h (fun k32 => ∀ (m32_ : sM), k32 m32_ = some res → V 0 32 [(0, .ref (ad 110)), (1, .int p1), (2, .int p2), (3, .int p3)] [.ref (ad 110)] m32_) ?_ (fun k32 hk32 h => ?_)
    · intro m32_ h
      refine r_iconst C (v := 2) dX10_put_32 (by decide) ?_
      refine r_goto C (tgt := 51) dX10_put_33 (by decide) ?_
      exact hk51 2 m32_ h
    refine r_if_eq C (tgt := 32) dX10_put_16 (by decide) h (fun _ h => ?_) (fun _ h => ?_)
    · skip
      exact hk32 m9 h
    · skip
      refine r_iload_n C dX10_put_19 rfl 3 rfl ?_
      refine r_sipush C (v := -9999) dX10_put_20 (by decide) ?_
      refine r_sipush C (v := 9999) dX10_put_23 (by decide) ?_
      refine r_callS C (c_X10_in nw hnw p3 (-9999) 9999) (As := [.int p3, .int (-9999), .int 9999]) (nn := 3) (stk := [.int 9999, .int (-9999), .int p3, .ref (ad 110)]) dX10_put_26 gX10_put_X10_in ⟨by decide, by decide, by decide +kernel⟩ rfl rfl (by decide) rfl rfl (Nat.le_of_ble_eq_true rfl) (by decide) h (fun r10 m11 h => ?_)
      show V 0 29 [(0, .ref (ad 110)), (1, .int p1), (2, .int p2), (3, .int p3)] [.int r10, .ref (ad 110)] m11
      refine r_if_ne C (tgt := 36) dX10_put_29 (by decide) h (fun _ h => ?_) (fun _ h => ?_)
      · skip
        exact hk32 m11 h
      · skip
        refine r_aload_n C dX10_put_36 rfl 0 rfl ?_
        refine r_getr C (ci := 10) (k9 := 10) dX10_put_37 rfl F_i10 (by decide) F_k32 (by omega) la_110 rfl ?_
        refine r_iload_n C dX10_put_40 rfl 1 rfl ?_
        refine r_iald C dX10_put_41 (by omega) la_118 h (fun j12 hj12 h => ?_)
        refine r_iconst C (v := 1) dX10_put_42 (by decide) ?_
        refine r_icmp_eq C (tgt := 50) dX10_put_43 (by decide) h (fun _ h => ?_) (fun _ h => ?_)
        · skip
          refine r_iconst C (v := 0) dX10_put_50 (by decide) ?_
          exact hk51 0 m11 h
        · skip
          refine r_iconst C (v := 3) dX10_put_46 (by decide) ?_
          refine r_goto C (tgt := 51) dX10_put_47 (by decide) ?_
          exact hk51 3 m11 h
noncomputable def f_X10_remove (p1 : Int32) (p2 : Int32) (m : sM) : Option (sR Int32) :=
  s_bd (f_X10_isSlot p1 m) fun r1 m2 => s_jn (fun (s0_51 : Int32) (m51_ : sM) => s_md (s_up m51_ 110 0 s0_51) fun m3 => if (m3.1 110 0) ≤ 0 then (s_bd (f_X10_seen p1 p2 m3) fun r4 m5 => s_bd (f_X10_drop p1 p2 m5) fun r6 m7 => some (.inl r4, m7)) else (some (.inl 0, m3))) fun k51 => if r1 = 0 then (k51 1 m2) else (s_bd (f_X10_isKey p2 m2) fun r8 m9 => if r8 = 0 then (k51 2 m9) else (s_ix p1 3 fun j10 => if (m9.1 118 j10) = 1 then (s_bd (f_X10_sees p1 p2 m9) fun r11 m12 => if r11 = 0 then (k51 4 m12) else (k51 0 m12)) else (k51 3 m9)))
set_option maxRecDepth 20000 in
set_option maxHeartbeats 4000000 in
theorem c_X10_remove (nw : Nat) (hnw : 29 ≤ nw) (p1 : Int32) (p2 : Int32) : s_Con s_i 110 nw yX10_remove wsX10_remove 16 230 0 (f_X10_remove p1 p2) (fun ad => [.ref (ad 110), .int p1, .int p2]) := by
  refine s_con_of cX10_remove 4 (some .int) RX10 (by decide) rfl rfl (fun _ => Nat.le_of_ble_eq_true rfl) (fun ad m res V C h => ?_)
  unfold f_X10_remove at h
  have F_i10 : ∀ w ∈ wsX100, w ∈ wsX10_remove := by decide +kernel
  have F_k100 : Cond.fieldLink RX10 100 "ShadowFileModel" "thrown" "I" ∈ wsX10_remove := by decide +kernel
  have F_k32 : Cond.fieldLink RX10 32 "ShadowFileModel" "state" "[I" ∈ wsX10_remove := by decide +kernel
  show V 0 0 [(0, .ref (ad 110)), (1, .int p1), (2, .int p2)] [] m
  refine r_aload_n C dX10_remove_0 rfl 0 rfl ?_
  refine r_iload_n C dX10_remove_1 rfl 1 rfl ?_
  refine r_callS C (c_X10_isSlot nw hnw p1) (As := [.int p1]) (nn := 1) (stk := [.int p1, .ref (ad 110)]) dX10_remove_2 gX10_remove_X10_isSlot ⟨by decide, by decide, by decide +kernel⟩ rfl rfl (by decide) rfl rfl (Nat.le_of_ble_eq_true rfl) (by decide) h (fun r1 m2 h => ?_)
  show V 0 5 [(0, .ref (ad 110)), (1, .int p1), (2, .int p2)] [.int r1, .ref (ad 110)] m2
  refine s_join h (fun k51 => ∀ (s0_51 : Int32) (m51_ : sM), k51 s0_51 m51_ = some res → V 0 51 [(0, .ref (ad 110)), (1, .int p1), (2, .int p2)] [.int s0_51, .ref (ad 110)] m51_) ?_ (fun k51 hk51 h => ?_)
  · intro s0_51 m51_ h
    refine r_puti C (ci := 10) (k9 := 0) dX10_remove_51 rfl F_i10 (by decide) F_k100 (by omega) la_110 rfl tyX10 tyX10_ok nmX10 rfl (tyX10_ok 0 (by decide)) rfl rfl h (fun m3 _ h => ?_)
    refine r_aload_n C dX10_remove_54 rfl 0 rfl ?_
    refine r_geti C (ci := 10) (k9 := 0) dX10_remove_55 rfl F_i10 (by decide) F_k100 (by omega) la_110 rfl ?_
    refine r_if_le C (tgt := 63) dX10_remove_58 (by decide) h (fun _ h => ?_) (fun _ h => ?_)
    · skip
      refine r_aload_n C dX10_remove_63 rfl 0 rfl ?_
      refine r_iload_n C dX10_remove_64 rfl 1 rfl ?_
      refine r_iload_n C dX10_remove_65 rfl 2 rfl ?_
      refine r_callV C (c_X10_seen nw hnw p1 p2) (As := [.int p1, .int p2]) (nn := 2) (stk := [.int p2, .int p1, .ref (ad 110)]) (ci := 10) dX10_remove_66 gX10_remove_X10_seen ⟨rfl, by decide, by decide, by decide +kernel⟩ (by omega) la_110 rfl rfl rfl (by decide) rfl rfl (Nat.le_of_ble_eq_true rfl) (by decide) h (fun r4 m5 h => ?_)
      show V 0 69 [(0, .ref (ad 110)), (1, .int p1), (2, .int p2)] [.int r4] m5
      refine r_istore_n C dX10_remove_69 rfl (by decide) (show _ = [(3, .int r4), (0, .ref (ad 110)), (1, .int p1), (2, .int p2)] from rfl) ?_
      refine r_aload_n C dX10_remove_70 rfl 1 rfl ?_
      refine r_iload_n C dX10_remove_71 rfl 2 rfl ?_
      refine r_iload_n C dX10_remove_72 rfl 3 rfl ?_
      refine r_callV C (c_X10_drop nw hnw p1 p2) (As := [.int p1, .int p2]) (nn := 2) (stk := [.int p2, .int p1, .ref (ad 110)]) (ci := 10) dX10_remove_73 gX10_remove_X10_drop ⟨rfl, by decide, by decide, by decide +kernel⟩ (by omega) la_110 rfl rfl rfl (by decide) rfl rfl (Nat.le_of_ble_eq_true rfl) (by decide) h (fun r6 m7 h => ?_)
      show V 0 76 [(3, .int r4), (0, .ref (ad 110)), (1, .int p1), (2, .int p2)] [] m7
      refine r_iload_n C dX10_remove_76 rfl 0 rfl ?_
      exact r_iret C dX10_remove_77 rfl h
    · skip
      refine r_iconst C (v := 0) dX10_remove_61 (by decide) ?_
      exact r_iret C dX10_remove_62 rfl h
  refine r_if_ne C (tgt := 12) dX10_remove_5 (by decide) h (fun _ h => ?_) (fun _ h => ?_)
  · skip
    refine r_iconst C (v := 1) dX10_remove_8 (by decide) ?_
    refine r_goto C (tgt := 51) dX10_remove_9 (by decide) ?_
    exact hk51 1 m2 h
  · skip
    refine r_iload_n C dX10_remove_12 rfl 2 rfl ?_
    refine r_callS C (c_X10_isKey nw hnw p2) (As := [.int p2]) (nn := 1) (stk := [.int p2, .ref (ad 110)]) dX10_remove_13 gX10_remove_X10_isKey ⟨by decide, by decide, by decide +kernel⟩ rfl rfl (by decide) rfl rfl (Nat.le_of_ble_eq_true rfl) (by decide) h (fun r8 m9 h => ?_)
    show V 0 16 [(0, .ref (ad 110)), (1, .int p1), (2, .int p2)] [.int r8, .ref (ad 110)] m9
    refine r_if_ne C (tgt := 23) dX10_remove_16 (by decide) h (fun _ h => ?_) (fun _ h => ?_)
    · skip
      refine r_iconst C (v := 2) dX10_remove_19 (by decide) ?_
      refine r_goto C (tgt := 51) dX10_remove_20 (by decide) ?_
      exact hk51 2 m9 h
    · skip
      refine r_aload_n C dX10_remove_23 rfl 0 rfl ?_
      refine r_getr C (ci := 10) (k9 := 10) dX10_remove_24 rfl F_i10 (by decide) F_k32 (by omega) la_110 rfl ?_
      refine r_iload_n C dX10_remove_27 rfl 1 rfl ?_
      refine r_iald C dX10_remove_28 (by omega) la_118 h (fun j10 hj10 h => ?_)
      refine r_iconst C (v := 1) dX10_remove_29 (by decide) ?_
      refine r_icmp_eq C (tgt := 37) dX10_remove_30 (by decide) h (fun _ h => ?_) (fun _ h => ?_)
      · skip
        refine r_aload_n C dX10_remove_37 rfl 0 rfl ?_
        refine r_iload_n C dX10_remove_38 rfl 1 rfl ?_
        refine r_iload_n C dX10_remove_39 rfl 2 rfl ?_
        refine r_callV C (c_X10_sees nw hnw p1 p2) (As := [.int p1, .int p2]) (nn := 2) (stk := [.int p2, .int p1, .ref (ad 110), .ref (ad 110)]) (ci := 10) dX10_remove_40 gX10_remove_X10_sees ⟨rfl, by decide, by decide, by decide +kernel⟩ (by omega) la_110 rfl rfl rfl (by decide) rfl rfl (Nat.le_of_ble_eq_true rfl) (by decide) h (fun r11 m12 h => ?_)
        show V 0 43 [(0, .ref (ad 110)), (1, .int p1), (2, .int p2)] [.int r11, .ref (ad 110)] m12
        refine r_if_ne C (tgt := 50) dX10_remove_43 (by decide) h (fun _ h => ?_) (fun _ h => ?_)
        · skip
          refine r_iconst C (v := 4) dX10_remove_46 (by decide) ?_
          refine r_goto C (tgt := 51) dX10_remove_47 (by decide) ?_
          exact hk51 4 m12 h
        · skip
          refine r_iconst C (v := 0) dX10_remove_50 (by decide) ?_
          exact hk51 0 m12 h
      · skip
        refine r_iconst C (v := 3) dX10_remove_33 (by decide) ?_
        refine r_goto C (tgt := 51) dX10_remove_34 (by decide) ?_
        exact hk51 3 m9 h
noncomputable def f_X10_get (p1 : Int32) (p2 : Int32) (m : sM) : Option (sR Int32) :=
  s_bd (f_X10_isSlot p1 m) fun r1 m2 => s_jn (fun (s0_50 : Int32) (m50_ : sM) => s_md (s_up m50_ 110 0 s0_50) fun m3 => s_jn (fun (s0_70 : Int32) (m70_ : sM) => some (.inl s0_70, m70_)) fun k70 => if (m3.1 110 0) ≤ 0 then (s_bd (f_X10_seen p1 p2 m3) fun r4 m5 => k70 r4 m5) else (k70 0 m3)) fun k50 => if r1 = 0 then (k50 1 m2) else (s_bd (f_X10_isKey p2 m2) fun r6 m7 => if r6 = 0 then (k50 2 m7) else (s_ix p1 3 fun j8 => if (m7.1 118 j8) = 0 then (k50 3 m7) else (s_bd (f_X10_sees p1 p2 m7) fun r9 m10 => if r9 = 0 then (k50 4 m10) else (k50 0 m10))))
set_option maxRecDepth 20000 in
set_option maxHeartbeats 4000000 in
theorem c_X10_get (nw : Nat) (hnw : 29 ≤ nw) (p1 : Int32) (p2 : Int32) : s_Con s_i 110 nw yX10_get wsX10_get 16 230 0 (f_X10_get p1 p2) (fun ad => [.ref (ad 110), .int p1, .int p2]) := by
  refine s_con_of cX10_get 3 (some .int) RX10 (by decide) rfl rfl (fun _ => Nat.le_of_ble_eq_true rfl) (fun ad m res V C h => ?_)
  unfold f_X10_get at h
  have F_i10 : ∀ w ∈ wsX100, w ∈ wsX10_get := by decide +kernel
  have F_k100 : Cond.fieldLink RX10 100 "ShadowFileModel" "thrown" "I" ∈ wsX10_get := by decide +kernel
  have F_k32 : Cond.fieldLink RX10 32 "ShadowFileModel" "state" "[I" ∈ wsX10_get := by decide +kernel
  show V 0 0 [(0, .ref (ad 110)), (1, .int p1), (2, .int p2)] [] m
  refine r_aload_n C dX10_get_0 rfl 0 rfl ?_
  refine r_iload_n C dX10_get_1 rfl 1 rfl ?_
  refine r_callS C (c_X10_isSlot nw hnw p1) (As := [.int p1]) (nn := 1) (stk := [.int p1, .ref (ad 110)]) dX10_get_2 gX10_get_X10_isSlot ⟨by decide, by decide, by decide +kernel⟩ rfl rfl (by decide) rfl rfl (Nat.le_of_ble_eq_true rfl) (by decide) h (fun r1 m2 h => ?_)
  show V 0 5 [(0, .ref (ad 110)), (1, .int p1), (2, .int p2)] [.int r1, .ref (ad 110)] m2
  refine s_join h (fun k50 => ∀ (s0_50 : Int32) (m50_ : sM), k50 s0_50 m50_ = some res → V 0 50 [(0, .ref (ad 110)), (1, .int p1), (2, .int p2)] [.int s0_50, .ref (ad 110)] m50_) ?_ (fun k50 hk50 h => ?_)
  · intro s0_50 m50_ h
    refine r_puti C (ci := 10) (k9 := 0) dX10_get_50 rfl F_i10 (by decide) F_k100 (by omega) la_110 rfl tyX10 tyX10_ok nmX10 rfl (tyX10_ok 0 (by decide)) rfl rfl h (fun m3 _ h => ?_)
    refine r_aload_n C dX10_get_53 rfl 0 rfl ?_
    refine r_geti C (ci := 10) (k9 := 0) dX10_get_54 rfl F_i10 (by decide) F_k100 (by omega) la_110 rfl ?_
    refine s_join h (fun k70 => ∀ (s0_70 : Int32) (m70_ : sM), k70 s0_70 m70_ = some res → V 0 70 [] [.int s0_70] m70_) ?_ (fun k70 hk70 h => ?_)
    · intro s0_70 m70_ h
      exact r_iret C dX10_get_70 rfl h
    refine r_if_le C (tgt := 64) dX10_get_57 (by decide) h (fun _ h => ?_) (fun _ h => ?_)
    · skip
      refine r_aload_n C dX10_get_64 rfl 0 rfl ?_
      refine r_iload_n C dX10_get_65 rfl 1 rfl ?_
      refine r_iload_n C dX10_get_66 rfl 2 rfl ?_
      refine r_callV C (c_X10_seen nw hnw p1 p2) (As := [.int p1, .int p2]) (nn := 2) (stk := [.int p2, .int p1, .ref (ad 110)]) (ci := 10) dX10_get_67 gX10_get_X10_seen ⟨rfl, by decide, by decide, by decide +kernel⟩ (by omega) la_110 rfl rfl rfl (by decide) rfl rfl (Nat.le_of_ble_eq_true rfl) (by decide) h (fun r4 m5 h => ?_)
      show V 0 70 [(0, .ref (ad 110)), (1, .int p1), (2, .int p2)] [.int r4] m5
      refine r_sub C [] (show _ = [] from rfl) ?_
      exact hk70 r4 m5 h
    · skip
      refine r_iconst C (v := 0) dX10_get_60 (by decide) ?_
      refine r_goto C (tgt := 70) dX10_get_61 (by decide) ?_
      refine r_sub C [] (show _ = [] from rfl) ?_
      exact hk70 0 m3 h
  refine r_if_ne C (tgt := 12) dX10_get_5 (by decide) h (fun _ h => ?_) (fun _ h => ?_)
  · skip
    refine r_iconst C (v := 1) dX10_get_8 (by decide) ?_
    refine r_goto C (tgt := 50) dX10_get_9 (by decide) ?_
    exact hk50 1 m2 h
  · skip
    refine r_iload_n C dX10_get_12 rfl 2 rfl ?_
    refine r_callS C (c_X10_isKey nw hnw p2) (As := [.int p2]) (nn := 1) (stk := [.int p2, .ref (ad 110)]) dX10_get_13 gX10_get_X10_isKey ⟨by decide, by decide, by decide +kernel⟩ rfl rfl (by decide) rfl rfl (Nat.le_of_ble_eq_true rfl) (by decide) h (fun r6 m7 h => ?_)
    show V 0 16 [(0, .ref (ad 110)), (1, .int p1), (2, .int p2)] [.int r6, .ref (ad 110)] m7
    refine r_if_ne C (tgt := 23) dX10_get_16 (by decide) h (fun _ h => ?_) (fun _ h => ?_)
    · skip
      refine r_iconst C (v := 2) dX10_get_19 (by decide) ?_
      refine r_goto C (tgt := 50) dX10_get_20 (by decide) ?_
      exact hk50 2 m7 h
    · skip
      refine r_aload_n C dX10_get_23 rfl 0 rfl ?_
      refine r_getr C (ci := 10) (k9 := 10) dX10_get_24 rfl F_i10 (by decide) F_k32 (by omega) la_110 rfl ?_
      refine r_iload_n C dX10_get_27 rfl 1 rfl ?_
      refine r_iald C dX10_get_28 (by omega) la_118 h (fun j8 hj8 h => ?_)
      refine r_if_ne C (tgt := 36) dX10_get_29 (by decide) h (fun _ h => ?_) (fun _ h => ?_)
      · skip
        refine r_iconst C (v := 3) dX10_get_32 (by decide) ?_
        refine r_goto C (tgt := 50) dX10_get_33 (by decide) ?_
        exact hk50 3 m7 h
      · skip
        refine r_aload_n C dX10_get_36 rfl 0 rfl ?_
        refine r_iload_n C dX10_get_37 rfl 1 rfl ?_
        refine r_iload_n C dX10_get_38 rfl 2 rfl ?_
        refine r_callV C (c_X10_sees nw hnw p1 p2) (As := [.int p1, .int p2]) (nn := 2) (stk := [.int p2, .int p1, .ref (ad 110), .ref (ad 110)]) (ci := 10) dX10_get_39 gX10_get_X10_sees ⟨rfl, by decide, by decide, by decide +kernel⟩ (by omega) la_110 rfl rfl rfl (by decide) rfl rfl (Nat.le_of_ble_eq_true rfl) (by decide) h (fun r9 m10 h => ?_)
        show V 0 42 [(0, .ref (ad 110)), (1, .int p1), (2, .int p2)] [.int r9, .ref (ad 110)] m10
        refine r_if_ne C (tgt := 49) dX10_get_42 (by decide) h (fun _ h => ?_) (fun _ h => ?_)
        · skip
          refine r_iconst C (v := 4) dX10_get_45 (by decide) ?_
          refine r_goto C (tgt := 50) dX10_get_46 (by decide) ?_
          exact hk50 4 m10 h
        · skip
          refine r_iconst C (v := 0) dX10_get_49 (by decide) ?_
          exact hk50 0 m10 h
noncomputable def f_X10_changesOf_L4 (y1_4 : Int32) (m : sM) (e38_4 : Int32 → Option (sR Int32)) : Nat → Int32 → Int32 → Option (sR Int32)
  | 0, _, _ => none
  | n + 1, x2_4, x3_4 =>
    if 64 ≤ x3_4 then (e38_4 x2_4) else (s_ix ((64 * y1_4) + x3_4) 192 fun j1 => s_jn (fun (s0_30 : Int32) => f_X10_changesOf_L4 y1_4 m e38_4 n (x2_4 + s0_30) (x3_4 + 1)) fun k30 => if (m.1 119 j1) = 0 then (k30 0) else (k30 1))
noncomputable def f_X10_changesOf (p1 : Int32) (m : sM) : Option (sR Int32) :=
  s_jn (fun (x2_38 : Int32) => some (.inl x2_38, m)) fun e38_4 => f_X10_changesOf_L4 p1 m e38_4 5000 0 0
set_option maxRecDepth 20000 in
set_option maxHeartbeats 4000000 in
theorem c_X10_changesOf (nw : Nat) (hnw : 29 ≤ nw) (p1 : Int32) : s_Con s_i 110 nw yX10_changesOf wsX10_changesOf 12 140 0 (f_X10_changesOf p1) (fun ad => [.ref (ad 110), .int p1]) := by
  refine s_con_of cX10_changesOf 4 (some .int) RX10 (by decide) rfl rfl (fun _ => Nat.le_of_ble_eq_true rfl) (fun ad m res V C h => ?_)
  unfold f_X10_changesOf at h
  have F_i10 : ∀ w ∈ wsX100, w ∈ wsX10_changesOf := by decide +kernel
  have F_k35 : Cond.fieldLink RX10 35 "ShadowFileModel" "changes" "[Z" ∈ wsX10_changesOf := by decide +kernel
  show V 0 0 [(0, .ref (ad 110)), (1, .int p1)] [] m
  refine r_iconst C (v := 0) dX10_changesOf_0 (by decide) ?_
  refine r_istore_n C dX10_changesOf_1 rfl (by decide) (show _ = [(2, .int 0), (0, .ref (ad 110)), (1, .int p1)] from rfl) ?_
  refine r_iconst C (v := 0) dX10_changesOf_2 (by decide) ?_
  refine r_istore_n C dX10_changesOf_3 rfl (by decide) (show _ = [(3, .int 0), (2, .int 0), (0, .ref (ad 110)), (1, .int p1)] from rfl) ?_
  refine s_join h (fun e38_4 => ∀ (x2_38 : Int32), e38_4 x2_38 = some res → V 0 38 [(2, .int x2_38)] [] m) ?_ (fun e38_4 he38_4 h => ?_)
  · intro x2_38 h
    refine r_iload_n C dX10_changesOf_38 rfl 0 rfl ?_
    exact r_iret C dX10_changesOf_39 rfl h
  have L4 : ∀ (n : Nat) (x2_4 : Int32) (x3_4 : Int32), f_X10_changesOf_L4 p1 m e38_4 n x2_4 x3_4 = some res → V 0 4 [(0, .ref (ad 110)), (1, .int p1), (2, .int x2_4), (3, .int x3_4)] [] m := by
    intro n
    induction n with
    | zero => intro x2_4 x3_4 h; rw [f_X10_changesOf_L4] at h; cases h
    | succ n ih =>
      intro x2_4 x3_4 h
      rw [f_X10_changesOf_L4] at h
      refine r_iload_n C dX10_changesOf_4 rfl 3 rfl ?_
      refine r_bipush C (v := 64) dX10_changesOf_5 (by decide) ?_
      refine r_icmp_ge C (tgt := 38) dX10_changesOf_7 (by decide) h (fun _ h => ?_) (fun _ h => ?_)
      · skip
        refine r_sub C [2] (show _ = [(2, .int x2_4)] from rfl) ?_
        exact he38_4 x2_4 h
      · skip
        refine r_iload_n C dX10_changesOf_10 rfl 2 rfl ?_
        refine r_aload_n C dX10_changesOf_11 rfl 0 rfl ?_
        refine r_getr C (ci := 10) (k9 := 11) dX10_changesOf_12 rfl F_i10 (by decide) F_k35 (by omega) la_110 rfl ?_
        refine r_bipush C (v := 64) dX10_changesOf_15 (by decide) ?_
        refine r_iload_n C dX10_changesOf_17 rfl 1 rfl ?_
        refine r_imul C dX10_changesOf_18 ?_
        refine r_iload_n C dX10_changesOf_19 rfl 3 rfl ?_
        refine r_iadd C dX10_changesOf_20 ?_
        refine r_zald C dX10_changesOf_21 (by omega) la_119 h (fun j1 hj1 h => ?_)
        refine s_join h (fun k30 => ∀ (s0_30 : Int32), k30 s0_30 = some res → V 0 30 [(0, .ref (ad 110)), (1, .int p1), (3, .int x3_4)] [.int s0_30, .int x2_4] m) ?_ (fun k30 hk30 h => ?_)
        · intro s0_30 h
          refine r_iadd C dX10_changesOf_30 ?_
          refine r_istore_n C dX10_changesOf_31 rfl (by decide) (show _ = [(2, .int (x2_4 + s0_30)), (0, .ref (ad 110)), (1, .int p1), (3, .int x3_4)] from rfl) ?_
          refine r_iinc C (v := x3_4 + 1) dX10_changesOf_32 3 rfl rfl (by decide) (show _ = [(3, .int (x3_4 + 1)), (2, .int (x2_4 + s0_30)), (0, .ref (ad 110)), (1, .int p1)] from rfl) ?_
          refine r_goto C (tgt := 4) dX10_changesOf_35 (by decide) ?_
          refine r_sub C [2, 3, 1, 0] (show _ = [(0, .ref (ad 110)), (1, .int p1), (2, .int (x2_4 + s0_30)), (3, .int (x3_4 + 1))] from rfl) ?_
          exact ih (x2_4 + s0_30) (x3_4 + 1) h
        refine r_if_eq C (tgt := 29) dX10_changesOf_22 (by decide) h (fun _ h => ?_) (fun _ h => ?_)
        · skip
          refine r_iconst C (v := 0) dX10_changesOf_29 (by decide) ?_
          refine r_sub C [0, 1, 3] (show _ = [(0, .ref (ad 110)), (1, .int p1), (3, .int x3_4)] from rfl) ?_
          exact hk30 0 h
        · skip
          refine r_iconst C (v := 1) dX10_changesOf_25 (by decide) ?_
          refine r_goto C (tgt := 30) dX10_changesOf_26 (by decide) ?_
          refine r_sub C [0, 1, 3] (show _ = [(0, .ref (ad 110)), (1, .int p1), (3, .int x3_4)] from rfl) ?_
          exact hk30 1 h
  refine r_sub C [2, 3, 1, 0] (show _ = [(0, .ref (ad 110)), (1, .int p1), (2, .int 0), (3, .int 0)] from rfl) ?_
  exact L4 5000 0 0 h
noncomputable def f_X10_changes (p1 : Int32) (m : sM) : Option (sR Int32) :=
  s_bd (f_X10_isSlot p1 m) fun r1 m2 => s_jn (fun (s0_13 : Int32) => s_md (s_up m2 110 0 s0_13) fun m3 => s_jn (fun (s0_32 : Int32) (m32_ : sM) => some (.inl s0_32, m32_)) fun k32 => if (m3.1 110 0) ≤ 0 then (s_bd (f_X10_changesOf p1 m3) fun r4 m5 => k32 r4 m5) else (k32 0 m3)) fun k13 => if r1 = 0 then (k13 1) else (k13 0)
set_option maxRecDepth 20000 in
set_option maxHeartbeats 4000000 in
theorem c_X10_changes (nw : Nat) (hnw : 29 ≤ nw) (p1 : Int32) : s_Con s_i 110 nw yX10_changes wsX10_changes 16 230 0 (f_X10_changes p1) (fun ad => [.ref (ad 110), .int p1]) := by
  refine s_con_of cX10_changes 2 (some .int) RX10 (by decide) rfl rfl (fun _ => Nat.le_of_ble_eq_true rfl) (fun ad m res V C h => ?_)
  unfold f_X10_changes at h
  have F_i10 : ∀ w ∈ wsX100, w ∈ wsX10_changes := by decide +kernel
  have F_k100 : Cond.fieldLink RX10 100 "ShadowFileModel" "thrown" "I" ∈ wsX10_changes := by decide +kernel
  show V 0 0 [(0, .ref (ad 110)), (1, .int p1)] [] m
  refine r_aload_n C dX10_changes_0 rfl 0 rfl ?_
  refine r_iload_n C dX10_changes_1 rfl 1 rfl ?_
  refine r_callS C (c_X10_isSlot nw hnw p1) (As := [.int p1]) (nn := 1) (stk := [.int p1, .ref (ad 110)]) dX10_changes_2 gX10_changes_X10_isSlot ⟨by decide, by decide, by decide +kernel⟩ rfl rfl (by decide) rfl rfl (Nat.le_of_ble_eq_true rfl) (by decide) h (fun r1 m2 h => ?_)
  show V 0 5 [(0, .ref (ad 110)), (1, .int p1)] [.int r1, .ref (ad 110)] m2
  refine s_join h (fun k13 => ∀ (s0_13 : Int32), k13 s0_13 = some res → V 0 13 [(0, .ref (ad 110)), (1, .int p1)] [.int s0_13, .ref (ad 110)] m2) ?_ (fun k13 hk13 h => ?_)
  · intro s0_13 h
    refine r_puti C (ci := 10) (k9 := 0) dX10_changes_13 rfl F_i10 (by decide) F_k100 (by omega) la_110 rfl tyX10 tyX10_ok nmX10 rfl (tyX10_ok 0 (by decide)) rfl rfl h (fun m3 _ h => ?_)
    refine r_aload_n C dX10_changes_16 rfl 0 rfl ?_
    refine r_geti C (ci := 10) (k9 := 0) dX10_changes_17 rfl F_i10 (by decide) F_k100 (by omega) la_110 rfl ?_
    refine s_join h (fun k32 => ∀ (s0_32 : Int32) (m32_ : sM), k32 s0_32 m32_ = some res → V 0 32 [] [.int s0_32] m32_) ?_ (fun k32 hk32 h => ?_)
    · intro s0_32 m32_ h
      exact r_iret C dX10_changes_32 rfl h
    refine r_if_le C (tgt := 27) dX10_changes_20 (by decide) h (fun _ h => ?_) (fun _ h => ?_)
    · skip
      refine r_aload_n C dX10_changes_27 rfl 0 rfl ?_
      refine r_iload_n C dX10_changes_28 rfl 1 rfl ?_
      refine r_callV C (c_X10_changesOf nw hnw p1) (As := [.int p1]) (nn := 1) (stk := [.int p1, .ref (ad 110)]) (ci := 10) dX10_changes_29 gX10_changes_X10_changesOf ⟨rfl, by decide, by decide, by decide +kernel⟩ (by omega) la_110 rfl rfl rfl (by decide) rfl rfl (Nat.le_of_ble_eq_true rfl) (by decide) h (fun r4 m5 h => ?_)
      show V 0 32 [(0, .ref (ad 110)), (1, .int p1)] [.int r4] m5
      refine r_sub C [] (show _ = [] from rfl) ?_
      exact hk32 r4 m5 h
    · skip
      refine r_iconst C (v := 0) dX10_changes_23 (by decide) ?_
      refine r_goto C (tgt := 32) dX10_changes_24 (by decide) ?_
      refine r_sub C [] (show _ = [] from rfl) ?_
      exact hk32 0 m3 h
  refine r_if_eq C (tgt := 12) dX10_changes_5 (by decide) h (fun _ h => ?_) (fun _ h => ?_)
  · skip
    refine r_iconst C (v := 1) dX10_changes_12 (by decide) ?_
    exact hk13 1 h
  · skip
    refine r_iconst C (v := 0) dX10_changes_8 (by decide) ?_
    refine r_goto C (tgt := 13) dX10_changes_9 (by decide) ?_
    exact hk13 0 h
noncomputable def f_X10_slotState (p1 : Int32) (m : sM) : Option (sR Int32) :=
  s_bd (f_X10_isSlot p1 m) fun r1 m2 => s_jn (fun (s0_13 : Int32) => s_md (s_up m2 110 0 s0_13) fun m3 => s_jn (fun (s0_33 : Int32) => some (.inl s0_33, m3)) fun k33 => if (m3.1 110 0) ≤ 0 then (s_ix p1 3 fun j4 => k33 (m3.1 118 j4)) else (k33 0)) fun k13 => if r1 = 0 then (k13 1) else (k13 0)
set_option maxRecDepth 20000 in
set_option maxHeartbeats 4000000 in
theorem c_X10_slotState (nw : Nat) (hnw : 29 ≤ nw) (p1 : Int32) : s_Con s_i 110 nw yX10_slotState wsX10_slotState 16 230 0 (f_X10_slotState p1) (fun ad => [.ref (ad 110), .int p1]) := by
  refine s_con_of cX10_slotState 2 (some .int) RX10 (by decide) rfl rfl (fun _ => Nat.le_of_ble_eq_true rfl) (fun ad m res V C h => ?_)
  unfold f_X10_slotState at h
  have F_i10 : ∀ w ∈ wsX100, w ∈ wsX10_slotState := by decide +kernel
  have F_k100 : Cond.fieldLink RX10 100 "ShadowFileModel" "thrown" "I" ∈ wsX10_slotState := by decide +kernel
  have F_k32 : Cond.fieldLink RX10 32 "ShadowFileModel" "state" "[I" ∈ wsX10_slotState := by decide +kernel
  show V 0 0 [(0, .ref (ad 110)), (1, .int p1)] [] m
  refine r_aload_n C dX10_slotState_0 rfl 0 rfl ?_
  refine r_iload_n C dX10_slotState_1 rfl 1 rfl ?_
  refine r_callS C (c_X10_isSlot nw hnw p1) (As := [.int p1]) (nn := 1) (stk := [.int p1, .ref (ad 110)]) dX10_slotState_2 gX10_slotState_X10_isSlot ⟨by decide, by decide, by decide +kernel⟩ rfl rfl (by decide) rfl rfl (Nat.le_of_ble_eq_true rfl) (by decide) h (fun r1 m2 h => ?_)
  show V 0 5 [(0, .ref (ad 110)), (1, .int p1)] [.int r1, .ref (ad 110)] m2
  refine s_join h (fun k13 => ∀ (s0_13 : Int32), k13 s0_13 = some res → V 0 13 [(0, .ref (ad 110)), (1, .int p1)] [.int s0_13, .ref (ad 110)] m2) ?_ (fun k13 hk13 h => ?_)
  · intro s0_13 h
    refine r_puti C (ci := 10) (k9 := 0) dX10_slotState_13 rfl F_i10 (by decide) F_k100 (by omega) la_110 rfl tyX10 tyX10_ok nmX10 rfl (tyX10_ok 0 (by decide)) rfl rfl h (fun m3 _ h => ?_)
    refine r_aload_n C dX10_slotState_16 rfl 0 rfl ?_
    refine r_geti C (ci := 10) (k9 := 0) dX10_slotState_17 rfl F_i10 (by decide) F_k100 (by omega) la_110 rfl ?_
    refine s_join h (fun k33 => ∀ (s0_33 : Int32), k33 s0_33 = some res → V 0 33 [] [.int s0_33] m3) ?_ (fun k33 hk33 h => ?_)
    · intro s0_33 h
      exact r_iret C dX10_slotState_33 rfl h
    refine r_if_le C (tgt := 27) dX10_slotState_20 (by decide) h (fun _ h => ?_) (fun _ h => ?_)
    · skip
      refine r_aload_n C dX10_slotState_27 rfl 0 rfl ?_
      refine r_getr C (ci := 10) (k9 := 10) dX10_slotState_28 rfl F_i10 (by decide) F_k32 (by omega) la_110 rfl ?_
      refine r_iload_n C dX10_slotState_31 rfl 1 rfl ?_
      refine r_iald C dX10_slotState_32 (by omega) la_118 h (fun j4 hj4 h => ?_)
      refine r_sub C [] (show _ = [] from rfl) ?_
      exact hk33 (m3.1 118 j4) h
    · skip
      refine r_iconst C (v := 0) dX10_slotState_23 (by decide) ?_
      refine r_goto C (tgt := 33) dX10_slotState_24 (by decide) ?_
      refine r_sub C [] (show _ = [] from rfl) ?_
      exact hk33 0 h
  refine r_if_eq C (tgt := 12) dX10_slotState_5 (by decide) h (fun _ h => ?_) (fun _ h => ?_)
  · skip
    refine r_iconst C (v := 1) dX10_slotState_12 (by decide) ?_
    exact hk13 1 h
  · skip
    refine r_iconst C (v := 0) dX10_slotState_8 (by decide) ?_
    refine r_goto C (tgt := 13) dX10_slotState_9 (by decide) ?_
    exact hk13 0 h
noncomputable def f_X10_mark (p1 : Int32) (m : sM) : Option (sR Int32) :=
  s_bd (f_X10_isSlot p1 m) fun r1 m2 => s_jn (fun (s0_37 : Int32) => s_md (s_up m2 110 0 s0_37) fun m3 => if (m3.1 110 0) ≤ 0 then (s_ix p1 3 fun j4 => s_gd (¬ (64 * p1) < 0 ∧ ¬ (64 * ((3 * p1) + (m3.1 122 j4))) < 0 ∧ ¬ (64 : Int32) < 0 ∧ (64 * p1).toNatClampNeg + (64 : Int32).toNatClampNeg ≤ 192 ∧ (64 * ((3 * p1) + (m3.1 122 j4))).toNatClampNeg + (64 : Int32).toNatClampNeg ≤ 576 ∧ ∀ i, i < (64 : Int32).toNatClampNeg → fits .boolean (.int (m3.1 119 ((64 * p1).toNatClampNeg + i))) = true) (s_md (s_cp m3 119 123 (64 * p1).toNatClampNeg (64 * ((3 * p1) + (m3.1 122 j4))).toNatClampNeg (64 : Int32).toNatClampNeg) fun m5 => s_gd (¬ (64 * p1) < 0 ∧ ¬ (64 * ((3 * p1) + (m3.1 122 j4))) < 0 ∧ ¬ (64 : Int32) < 0 ∧ (64 * p1).toNatClampNeg + (64 : Int32).toNatClampNeg ≤ 192 ∧ (64 * ((3 * p1) + (m3.1 122 j4))).toNatClampNeg + (64 : Int32).toNatClampNeg ≤ 576 ∧ ∀ i, i < (64 : Int32).toNatClampNeg → fits .boolean (.int (m5.1 120 ((64 * p1).toNatClampNeg + i))) = true) (s_md (s_cp m5 120 124 (64 * p1).toNatClampNeg (64 * ((3 * p1) + (m3.1 122 j4))).toNatClampNeg (64 : Int32).toNatClampNeg) fun m6 => s_gd (¬ (64 * p1) < 0 ∧ ¬ (64 * ((3 * p1) + (m3.1 122 j4))) < 0 ∧ ¬ (64 : Int32) < 0 ∧ (64 * p1).toNatClampNeg + (64 : Int32).toNatClampNeg ≤ 192 ∧ (64 * ((3 * p1) + (m3.1 122 j4))).toNatClampNeg + (64 : Int32).toNatClampNeg ≤ 576 ∧ ∀ i, i < (64 : Int32).toNatClampNeg → fits .int (.int (m6.1 121 ((64 * p1).toNatClampNeg + i))) = true) (s_md (s_cp m6 121 125 (64 * p1).toNatClampNeg (64 * ((3 * p1) + (m3.1 122 j4))).toNatClampNeg (64 : Int32).toNatClampNeg) fun m7 => s_ix p1 3 fun j8 => s_ix p1 3 fun j9 => s_md (s_up m7 122 j9 ((m7.1 122 j8) + 1)) fun m10 => s_ix p1 3 fun j11 => some (.inl (m10.1 122 j11), m10))))) else (some (.inl 0, m3))) fun k37 => if r1 = 0 then (k37 1) else (s_ix p1 3 fun j12 => s_jn (k37 2) fun k32 => if (m2.1 118 j12) = 1 then (s_ix p1 3 fun j13 => if (m2.1 122 j13) = 3 then (k32) else (k37 0)) else (k32))
set_option maxRecDepth 20000 in
set_option maxHeartbeats 4000000 in
theorem c_X10_mark (nw : Nat) (hnw : 29 ≤ nw) (p1 : Int32) : s_Con s_i 110 nw yX10_mark wsX10_mark 16 230 0 (f_X10_mark p1) (fun ad => [.ref (ad 110), .int p1]) := by
  refine s_con_of cX10_mark 3 (some .int) RX10 (by decide) rfl rfl (fun _ => Nat.le_of_ble_eq_true rfl) (fun ad m res V C h => ?_)
  unfold f_X10_mark at h
  have F_i10 : ∀ w ∈ wsX100, w ∈ wsX10_mark := by decide +kernel
  have F_k100 : Cond.fieldLink RX10 100 "ShadowFileModel" "thrown" "I" ∈ wsX10_mark := by decide +kernel
  have F_k44 : Cond.fieldLink RX10 44 "ShadowFileModel" "marks" "[I" ∈ wsX10_mark := by decide +kernel
  have F_k35 : Cond.fieldLink RX10 35 "ShadowFileModel" "changes" "[Z" ∈ wsX10_mark := by decide +kernel
  have F_k47 : Cond.fieldLink RX10 47 "ShadowFileModel" "markedChanges" "[Z" ∈ wsX10_mark := by decide +kernel
  have F_c164 : Cond.methodLink RX10 164 arraycopyName ∈ wsX10_mark := by decide +kernel
  have F_cnat : Cond.native arraycopyName ∈ wsX10_mark := by decide +kernel
  have F_csta : Cond.static arraycopyName ∈ wsX10_mark := by decide +kernel
  have F_cini : Cond.initialized "java/lang/System" ∈ wsX10_mark := by decide +kernel
  have F_k38 : Cond.fieldLink RX10 38 "ShadowFileModel" "removes" "[Z" ∈ wsX10_mark := by decide +kernel
  have F_k50 : Cond.fieldLink RX10 50 "ShadowFileModel" "markedRemoves" "[Z" ∈ wsX10_mark := by decide +kernel
  have F_k41 : Cond.fieldLink RX10 41 "ShadowFileModel" "changed" "[I" ∈ wsX10_mark := by decide +kernel
  have F_k53 : Cond.fieldLink RX10 53 "ShadowFileModel" "marked" "[I" ∈ wsX10_mark := by decide +kernel
  have F_k32 : Cond.fieldLink RX10 32 "ShadowFileModel" "state" "[I" ∈ wsX10_mark := by decide +kernel
  show V 0 0 [(0, .ref (ad 110)), (1, .int p1)] [] m
  refine r_aload_n C dX10_mark_0 rfl 0 rfl ?_
  refine r_iload_n C dX10_mark_1 rfl 1 rfl ?_
  refine r_callS C (c_X10_isSlot nw hnw p1) (As := [.int p1]) (nn := 1) (stk := [.int p1, .ref (ad 110)]) dX10_mark_2 gX10_mark_X10_isSlot ⟨by decide, by decide, by decide +kernel⟩ rfl rfl (by decide) rfl rfl (Nat.le_of_ble_eq_true rfl) (by decide) h (fun r1 m2 h => ?_)
  show V 0 5 [(0, .ref (ad 110)), (1, .int p1)] [.int r1, .ref (ad 110)] m2
  refine s_join h (fun k37 => ∀ (s0_37 : Int32), k37 s0_37 = some res → V 0 37 [(0, .ref (ad 110)), (1, .int p1)] [.int s0_37, .ref (ad 110)] m2) ?_ (fun k37 hk37 h => ?_)
  · intro s0_37 h
    refine r_puti C (ci := 10) (k9 := 0) dX10_mark_37 rfl F_i10 (by decide) F_k100 (by omega) la_110 rfl tyX10 tyX10_ok nmX10 rfl (tyX10_ok 0 (by decide)) rfl rfl h (fun m3 _ h => ?_)
    refine r_aload_n C dX10_mark_40 rfl 0 rfl ?_
    refine r_geti C (ci := 10) (k9 := 0) dX10_mark_41 rfl F_i10 (by decide) F_k100 (by omega) la_110 rfl ?_
    refine r_if_le C (tgt := 49) dX10_mark_44 (by decide) h (fun _ h => ?_) (fun _ h => ?_)
    · skip
      refine r_bipush C (v := 64) dX10_mark_49 (by decide) ?_
      refine r_iconst C (v := 3) dX10_mark_51 (by decide) ?_
      refine r_iload_n C dX10_mark_52 rfl 1 rfl ?_
      refine r_imul C dX10_mark_53 ?_
      refine r_aload_n C dX10_mark_54 rfl 0 rfl ?_
      refine r_getr C (ci := 10) (k9 := 14) dX10_mark_55 rfl F_i10 (by decide) F_k44 (by omega) la_110 rfl ?_
      refine r_iload_n C dX10_mark_58 rfl 1 rfl ?_
      refine r_iald C dX10_mark_59 (by omega) la_122 h (fun j4 hj4 h => ?_)
      refine r_iadd C dX10_mark_60 ?_
      refine r_imul C dX10_mark_61 ?_
      refine r_istore_n C dX10_mark_62 rfl (by decide) (show _ = [(2, .int (64 * ((3 * p1) + (m3.1 122 j4)))), (0, .ref (ad 110)), (1, .int p1)] from rfl) ?_
      refine r_aload_n C dX10_mark_63 rfl 1 rfl ?_
      refine r_getr C (ci := 10) (k9 := 11) dX10_mark_64 rfl F_i10 (by decide) F_k35 (by omega) la_110 rfl ?_
      refine r_bipush C (v := 64) dX10_mark_67 (by decide) ?_
      refine r_iload_n C dX10_mark_69 rfl 2 rfl ?_
      refine r_imul C dX10_mark_70 ?_
      refine r_aload_n C dX10_mark_71 rfl 1 rfl ?_
      refine r_getr C (ci := 10) (k9 := 15) dX10_mark_72 rfl F_i10 (by decide) F_k47 (by omega) la_110 rfl ?_
      refine r_iload_n C dX10_mark_75 rfl 0 rfl ?_
      refine r_bipush C (v := 64) dX10_mark_76 (by decide) ?_
      refine r_copy C dX10_mark_78 F_c164 F_cnat F_csta F_cini (by omega) (by omega) la_119 la_123 (by decide) (fun _ => rfl) rfl (by decide) (Nat.le_of_ble_eq_true rfl) h (fun m5 _ h => ?_)
      refine r_aload_n C dX10_mark_81 rfl 1 rfl ?_
      refine r_getr C (ci := 10) (k9 := 12) dX10_mark_82 rfl F_i10 (by decide) F_k38 (by omega) la_110 rfl ?_
      refine r_bipush C (v := 64) dX10_mark_85 (by decide) ?_
      refine r_iload_n C dX10_mark_87 rfl 2 rfl ?_
      refine r_imul C dX10_mark_88 ?_
      refine r_aload_n C dX10_mark_89 rfl 1 rfl ?_
      refine r_getr C (ci := 10) (k9 := 16) dX10_mark_90 rfl F_i10 (by decide) F_k50 (by omega) la_110 rfl ?_
      refine r_iload_n C dX10_mark_93 rfl 0 rfl ?_
      refine r_bipush C (v := 64) dX10_mark_94 (by decide) ?_
      refine r_copy C dX10_mark_96 F_c164 F_cnat F_csta F_cini (by omega) (by omega) la_120 la_124 (by decide) (fun _ => rfl) rfl (by decide) (Nat.le_of_ble_eq_true rfl) h (fun m6 _ h => ?_)
      refine r_aload_n C dX10_mark_99 rfl 1 rfl ?_
      refine r_getr C (ci := 10) (k9 := 13) dX10_mark_100 rfl F_i10 (by decide) F_k41 (by omega) la_110 rfl ?_
      refine r_bipush C (v := 64) dX10_mark_103 (by decide) ?_
      refine r_iload_n C dX10_mark_105 rfl 2 rfl ?_
      refine r_imul C dX10_mark_106 ?_
      refine r_aload_n C dX10_mark_107 rfl 1 rfl ?_
      refine r_getr C (ci := 10) (k9 := 17) dX10_mark_108 rfl F_i10 (by decide) F_k53 (by omega) la_110 rfl ?_
      refine r_iload_n C dX10_mark_111 rfl 0 rfl ?_
      refine r_bipush C (v := 64) dX10_mark_112 (by decide) ?_
      refine r_copy C dX10_mark_114 F_c164 F_cnat F_csta F_cini (by omega) (by omega) la_121 la_125 (by decide) (fun _ => rfl) rfl (by decide) (Nat.le_of_ble_eq_true rfl) h (fun m7 _ h => ?_)
      refine r_aload_n C dX10_mark_117 rfl 1 rfl ?_
      refine r_getr C (ci := 10) (k9 := 14) dX10_mark_118 rfl F_i10 (by decide) F_k44 (by omega) la_110 rfl ?_
      refine r_iload_n C dX10_mark_121 rfl 2 rfl ?_
      refine r_dup2 C dX10_mark_122 rfl rfl ?_
      refine r_iald C dX10_mark_123 (by omega) la_122 h (fun j8 hj8 h => ?_)
      refine r_iconst C (v := 1) dX10_mark_124 (by decide) ?_
      refine r_iadd C dX10_mark_125 ?_
      refine r_iast C dX10_mark_126 (by omega) la_122 h (fun j9 m10 hj9 _ h => ?_)
      refine r_aload_n C dX10_mark_127 rfl 1 rfl ?_
      refine r_getr C (ci := 10) (k9 := 14) dX10_mark_128 rfl F_i10 (by decide) F_k44 (by omega) la_110 rfl ?_
      refine r_iload_n C dX10_mark_131 rfl 2 rfl ?_
      refine r_iald C dX10_mark_132 (by omega) la_122 h (fun j11 hj11 h => ?_)
      exact r_iret C dX10_mark_133 rfl h
    · skip
      refine r_iconst C (v := 0) dX10_mark_47 (by decide) ?_
      exact r_iret C dX10_mark_48 rfl h
  refine r_if_ne C (tgt := 12) dX10_mark_5 (by decide) h (fun _ h => ?_) (fun _ h => ?_)
  · skip
    refine r_iconst C (v := 1) dX10_mark_8 (by decide) ?_
    refine r_goto C (tgt := 37) dX10_mark_9 (by decide) ?_
    exact hk37 1 h
  · skip
    refine r_aload_n C dX10_mark_12 rfl 0 rfl ?_
    refine r_getr C (ci := 10) (k9 := 10) dX10_mark_13 rfl F_i10 (by decide) F_k32 (by omega) la_110 rfl ?_
    refine r_iload_n C dX10_mark_16 rfl 1 rfl ?_
    refine r_iald C dX10_mark_17 (by omega) la_118 h (fun j12 hj12 h => ?_)
    refine r_iconst C (v := 1) dX10_mark_18 (by decide) ?_
    refine s_join h (fun k32 => k32  = some res → V 0 32 [(0, .ref (ad 110)), (1, .int p1)] [.ref (ad 110)] m2) ?_ (fun k32 hk32 h => ?_)
    · intro  h
      refine r_iconst C (v := 2) dX10_mark_32 (by decide) ?_
      refine r_goto C (tgt := 37) dX10_mark_33 (by decide) ?_
      exact hk37 2 h
    refine r_icmp_ne C (tgt := 32) dX10_mark_19 (by decide) h (fun _ h => ?_) (fun _ h => ?_)
    · skip
      refine r_aload_n C dX10_mark_22 rfl 0 rfl ?_
      refine r_getr C (ci := 10) (k9 := 14) dX10_mark_23 rfl F_i10 (by decide) F_k44 (by omega) la_110 rfl ?_
      refine r_iload_n C dX10_mark_26 rfl 1 rfl ?_
      refine r_iald C dX10_mark_27 (by omega) la_122 h (fun j13 hj13 h => ?_)
      refine r_iconst C (v := 3) dX10_mark_28 (by decide) ?_
      refine r_icmp_ne C (tgt := 36) dX10_mark_29 (by decide) h (fun _ h => ?_) (fun _ h => ?_)
      · skip
        exact hk32 h
      · skip
        refine r_iconst C (v := 0) dX10_mark_36 (by decide) ?_
        exact hk37 0 h
    · skip
      exact hk32 h
noncomputable def f_X10_goBack (p1 : Int32) (m : sM) : Option (sR Int32) :=
  s_bd (f_X10_isSlot p1 m) fun r1 m2 => s_jn (fun (s0_40 : Int32) => s_md (s_up m2 110 0 s0_40) fun m3 => if (m3.1 110 0) ≤ 0 then (s_ix p1 3 fun j4 => s_ix p1 3 fun j5 => s_md (s_up m3 122 j5 ((m3.1 122 j4) - 1)) fun m6 => s_ix p1 3 fun j7 => s_gd (¬ (64 * ((3 * p1) + (m6.1 122 j7))) < 0 ∧ ¬ (64 * p1) < 0 ∧ ¬ (64 : Int32) < 0 ∧ (64 * ((3 * p1) + (m6.1 122 j7))).toNatClampNeg + (64 : Int32).toNatClampNeg ≤ 576 ∧ (64 * p1).toNatClampNeg + (64 : Int32).toNatClampNeg ≤ 192 ∧ ∀ i, i < (64 : Int32).toNatClampNeg → fits .boolean (.int (m6.1 123 ((64 * ((3 * p1) + (m6.1 122 j7))).toNatClampNeg + i))) = true) (s_md (s_cp m6 123 119 (64 * ((3 * p1) + (m6.1 122 j7))).toNatClampNeg (64 * p1).toNatClampNeg (64 : Int32).toNatClampNeg) fun m8 => s_gd (¬ (64 * ((3 * p1) + (m6.1 122 j7))) < 0 ∧ ¬ (64 * p1) < 0 ∧ ¬ (64 : Int32) < 0 ∧ (64 * ((3 * p1) + (m6.1 122 j7))).toNatClampNeg + (64 : Int32).toNatClampNeg ≤ 576 ∧ (64 * p1).toNatClampNeg + (64 : Int32).toNatClampNeg ≤ 192 ∧ ∀ i, i < (64 : Int32).toNatClampNeg → fits .boolean (.int (m8.1 124 ((64 * ((3 * p1) + (m6.1 122 j7))).toNatClampNeg + i))) = true) (s_md (s_cp m8 124 120 (64 * ((3 * p1) + (m6.1 122 j7))).toNatClampNeg (64 * p1).toNatClampNeg (64 : Int32).toNatClampNeg) fun m9 => s_gd (¬ (64 * ((3 * p1) + (m6.1 122 j7))) < 0 ∧ ¬ (64 * p1) < 0 ∧ ¬ (64 : Int32) < 0 ∧ (64 * ((3 * p1) + (m6.1 122 j7))).toNatClampNeg + (64 : Int32).toNatClampNeg ≤ 576 ∧ (64 * p1).toNatClampNeg + (64 : Int32).toNatClampNeg ≤ 192 ∧ ∀ i, i < (64 : Int32).toNatClampNeg → fits .int (.int (m9.1 125 ((64 * ((3 * p1) + (m6.1 122 j7))).toNatClampNeg + i))) = true) (s_md (s_cp m9 125 121 (64 * ((3 * p1) + (m6.1 122 j7))).toNatClampNeg (64 * p1).toNatClampNeg (64 : Int32).toNatClampNeg) fun m10 => s_bd (f_X10_changesOf p1 m10) fun r11 m12 => some (.inl r11, m12))))) else (some (.inl 0, m3))) fun k40 => if r1 = 0 then (k40 1) else (s_ix p1 3 fun j13 => if (m2.1 118 j13) = 1 then (s_ix p1 3 fun j14 => if (m2.1 122 j14) = 0 then (k40 3) else (k40 0)) else (k40 2))
set_option maxRecDepth 20000 in
set_option maxHeartbeats 4000000 in
theorem c_X10_goBack (nw : Nat) (hnw : 29 ≤ nw) (p1 : Int32) : s_Con s_i 110 nw yX10_goBack wsX10_goBack 16 230 0 (f_X10_goBack p1) (fun ad => [.ref (ad 110), .int p1]) := by
  refine s_con_of cX10_goBack 3 (some .int) RX10 (by decide) rfl rfl (fun _ => Nat.le_of_ble_eq_true rfl) (fun ad m res V C h => ?_)
  unfold f_X10_goBack at h
  have F_i10 : ∀ w ∈ wsX100, w ∈ wsX10_goBack := by decide +kernel
  have F_k100 : Cond.fieldLink RX10 100 "ShadowFileModel" "thrown" "I" ∈ wsX10_goBack := by decide +kernel
  have F_k44 : Cond.fieldLink RX10 44 "ShadowFileModel" "marks" "[I" ∈ wsX10_goBack := by decide +kernel
  have F_k47 : Cond.fieldLink RX10 47 "ShadowFileModel" "markedChanges" "[Z" ∈ wsX10_goBack := by decide +kernel
  have F_k35 : Cond.fieldLink RX10 35 "ShadowFileModel" "changes" "[Z" ∈ wsX10_goBack := by decide +kernel
  have F_c164 : Cond.methodLink RX10 164 arraycopyName ∈ wsX10_goBack := by decide +kernel
  have F_cnat : Cond.native arraycopyName ∈ wsX10_goBack := by decide +kernel
  have F_csta : Cond.static arraycopyName ∈ wsX10_goBack := by decide +kernel
  have F_cini : Cond.initialized "java/lang/System" ∈ wsX10_goBack := by decide +kernel
  have F_k50 : Cond.fieldLink RX10 50 "ShadowFileModel" "markedRemoves" "[Z" ∈ wsX10_goBack := by decide +kernel
  have F_k38 : Cond.fieldLink RX10 38 "ShadowFileModel" "removes" "[Z" ∈ wsX10_goBack := by decide +kernel
  have F_k53 : Cond.fieldLink RX10 53 "ShadowFileModel" "marked" "[I" ∈ wsX10_goBack := by decide +kernel
  have F_k41 : Cond.fieldLink RX10 41 "ShadowFileModel" "changed" "[I" ∈ wsX10_goBack := by decide +kernel
  have F_k32 : Cond.fieldLink RX10 32 "ShadowFileModel" "state" "[I" ∈ wsX10_goBack := by decide +kernel
  show V 0 0 [(0, .ref (ad 110)), (1, .int p1)] [] m
  refine r_aload_n C dX10_goBack_0 rfl 0 rfl ?_
  refine r_iload_n C dX10_goBack_1 rfl 1 rfl ?_
  refine r_callS C (c_X10_isSlot nw hnw p1) (As := [.int p1]) (nn := 1) (stk := [.int p1, .ref (ad 110)]) dX10_goBack_2 gX10_goBack_X10_isSlot ⟨by decide, by decide, by decide +kernel⟩ rfl rfl (by decide) rfl rfl (Nat.le_of_ble_eq_true rfl) (by decide) h (fun r1 m2 h => ?_)
  show V 0 5 [(0, .ref (ad 110)), (1, .int p1)] [.int r1, .ref (ad 110)] m2
  refine s_join h (fun k40 => ∀ (s0_40 : Int32), k40 s0_40 = some res → V 0 40 [(0, .ref (ad 110)), (1, .int p1)] [.int s0_40, .ref (ad 110)] m2) ?_ (fun k40 hk40 h => ?_)
  · intro s0_40 h
    refine r_puti C (ci := 10) (k9 := 0) dX10_goBack_40 rfl F_i10 (by decide) F_k100 (by omega) la_110 rfl tyX10 tyX10_ok nmX10 rfl (tyX10_ok 0 (by decide)) rfl rfl h (fun m3 _ h => ?_)
    refine r_aload_n C dX10_goBack_43 rfl 0 rfl ?_
    refine r_geti C (ci := 10) (k9 := 0) dX10_goBack_44 rfl F_i10 (by decide) F_k100 (by omega) la_110 rfl ?_
    refine r_if_le C (tgt := 52) dX10_goBack_47 (by decide) h (fun _ h => ?_) (fun _ h => ?_)
    · skip
      refine r_aload_n C dX10_goBack_52 rfl 0 rfl ?_
      refine r_getr C (ci := 10) (k9 := 14) dX10_goBack_53 rfl F_i10 (by decide) F_k44 (by omega) la_110 rfl ?_
      refine r_iload_n C dX10_goBack_56 rfl 1 rfl ?_
      refine r_dup2 C dX10_goBack_57 rfl rfl ?_
      refine r_iald C dX10_goBack_58 (by omega) la_122 h (fun j4 hj4 h => ?_)
      refine r_iconst C (v := 1) dX10_goBack_59 (by decide) ?_
      refine r_isub C dX10_goBack_60 ?_
      refine r_iast C dX10_goBack_61 (by omega) la_122 h (fun j5 m6 hj5 _ h => ?_)
      refine r_bipush C (v := 64) dX10_goBack_62 (by decide) ?_
      refine r_iconst C (v := 3) dX10_goBack_64 (by decide) ?_
      refine r_iload_n C dX10_goBack_65 rfl 1 rfl ?_
      refine r_imul C dX10_goBack_66 ?_
      refine r_aload_n C dX10_goBack_67 rfl 0 rfl ?_
      refine r_getr C (ci := 10) (k9 := 14) dX10_goBack_68 rfl F_i10 (by decide) F_k44 (by omega) la_110 rfl ?_
      refine r_iload_n C dX10_goBack_71 rfl 1 rfl ?_
      refine r_iald C dX10_goBack_72 (by omega) la_122 h (fun j7 hj7 h => ?_)
      refine r_iadd C dX10_goBack_73 ?_
      refine r_imul C dX10_goBack_74 ?_
      refine r_istore_n C dX10_goBack_75 rfl (by decide) (show _ = [(2, .int (64 * ((3 * p1) + (m6.1 122 j7)))), (0, .ref (ad 110)), (1, .int p1)] from rfl) ?_
      refine r_aload_n C dX10_goBack_76 rfl 1 rfl ?_
      refine r_getr C (ci := 10) (k9 := 15) dX10_goBack_77 rfl F_i10 (by decide) F_k47 (by omega) la_110 rfl ?_
      refine r_iload_n C dX10_goBack_80 rfl 0 rfl ?_
      refine r_aload_n C dX10_goBack_81 rfl 1 rfl ?_
      refine r_getr C (ci := 10) (k9 := 11) dX10_goBack_82 rfl F_i10 (by decide) F_k35 (by omega) la_110 rfl ?_
      refine r_bipush C (v := 64) dX10_goBack_85 (by decide) ?_
      refine r_iload_n C dX10_goBack_87 rfl 2 rfl ?_
      refine r_imul C dX10_goBack_88 ?_
      refine r_bipush C (v := 64) dX10_goBack_89 (by decide) ?_
      refine r_copy C dX10_goBack_91 F_c164 F_cnat F_csta F_cini (by omega) (by omega) la_123 la_119 (by decide) (fun _ => rfl) rfl (by decide) (Nat.le_of_ble_eq_true rfl) h (fun m8 _ h => ?_)
      refine r_aload_n C dX10_goBack_94 rfl 1 rfl ?_
      refine r_getr C (ci := 10) (k9 := 16) dX10_goBack_95 rfl F_i10 (by decide) F_k50 (by omega) la_110 rfl ?_
      refine r_iload_n C dX10_goBack_98 rfl 0 rfl ?_
      refine r_aload_n C dX10_goBack_99 rfl 1 rfl ?_
      refine r_getr C (ci := 10) (k9 := 12) dX10_goBack_100 rfl F_i10 (by decide) F_k38 (by omega) la_110 rfl ?_
      refine r_bipush C (v := 64) dX10_goBack_103 (by decide) ?_
      refine r_iload_n C dX10_goBack_105 rfl 2 rfl ?_
      refine r_imul C dX10_goBack_106 ?_
      refine r_bipush C (v := 64) dX10_goBack_107 (by decide) ?_
      refine r_copy C dX10_goBack_109 F_c164 F_cnat F_csta F_cini (by omega) (by omega) la_124 la_120 (by decide) (fun _ => rfl) rfl (by decide) (Nat.le_of_ble_eq_true rfl) h (fun m9 _ h => ?_)
      refine r_aload_n C dX10_goBack_112 rfl 1 rfl ?_
      refine r_getr C (ci := 10) (k9 := 17) dX10_goBack_113 rfl F_i10 (by decide) F_k53 (by omega) la_110 rfl ?_
      refine r_iload_n C dX10_goBack_116 rfl 0 rfl ?_
      refine r_aload_n C dX10_goBack_117 rfl 1 rfl ?_
      refine r_getr C (ci := 10) (k9 := 13) dX10_goBack_118 rfl F_i10 (by decide) F_k41 (by omega) la_110 rfl ?_
      refine r_bipush C (v := 64) dX10_goBack_121 (by decide) ?_
      refine r_iload_n C dX10_goBack_123 rfl 2 rfl ?_
      refine r_imul C dX10_goBack_124 ?_
      refine r_bipush C (v := 64) dX10_goBack_125 (by decide) ?_
      refine r_copy C dX10_goBack_127 F_c164 F_cnat F_csta F_cini (by omega) (by omega) la_125 la_121 (by decide) (fun _ => rfl) rfl (by decide) (Nat.le_of_ble_eq_true rfl) h (fun m10 _ h => ?_)
      refine r_aload_n C dX10_goBack_130 rfl 1 rfl ?_
      refine r_iload_n C dX10_goBack_131 rfl 2 rfl ?_
      refine r_callV C (c_X10_changesOf nw hnw p1) (As := [.int p1]) (nn := 1) (stk := [.int p1, .ref (ad 110)]) (ci := 10) dX10_goBack_132 gX10_goBack_X10_changesOf ⟨rfl, by decide, by decide, by decide +kernel⟩ (by omega) la_110 rfl rfl rfl (by decide) rfl rfl (Nat.le_of_ble_eq_true rfl) (by decide) h (fun r11 m12 h => ?_)
      show V 0 135 [(2, .int (64 * ((3 * p1) + (m6.1 122 j7)))), (0, .ref (ad 110)), (1, .int p1)] [.int r11] m12
      exact r_iret C dX10_goBack_135 rfl h
    · skip
      refine r_iconst C (v := 0) dX10_goBack_50 (by decide) ?_
      exact r_iret C dX10_goBack_51 rfl h
  refine r_if_ne C (tgt := 12) dX10_goBack_5 (by decide) h (fun _ h => ?_) (fun _ h => ?_)
  · skip
    refine r_iconst C (v := 1) dX10_goBack_8 (by decide) ?_
    refine r_goto C (tgt := 40) dX10_goBack_9 (by decide) ?_
    exact hk40 1 h
  · skip
    refine r_aload_n C dX10_goBack_12 rfl 0 rfl ?_
    refine r_getr C (ci := 10) (k9 := 10) dX10_goBack_13 rfl F_i10 (by decide) F_k32 (by omega) la_110 rfl ?_
    refine r_iload_n C dX10_goBack_16 rfl 1 rfl ?_
    refine r_iald C dX10_goBack_17 (by omega) la_118 h (fun j13 hj13 h => ?_)
    refine r_iconst C (v := 1) dX10_goBack_18 (by decide) ?_
    refine r_icmp_eq C (tgt := 26) dX10_goBack_19 (by decide) h (fun _ h => ?_) (fun _ h => ?_)
    · skip
      refine r_aload_n C dX10_goBack_26 rfl 0 rfl ?_
      refine r_getr C (ci := 10) (k9 := 14) dX10_goBack_27 rfl F_i10 (by decide) F_k44 (by omega) la_110 rfl ?_
      refine r_iload_n C dX10_goBack_30 rfl 1 rfl ?_
      refine r_iald C dX10_goBack_31 (by omega) la_122 h (fun j14 hj14 h => ?_)
      refine r_if_ne C (tgt := 39) dX10_goBack_32 (by decide) h (fun _ h => ?_) (fun _ h => ?_)
      · skip
        refine r_iconst C (v := 3) dX10_goBack_35 (by decide) ?_
        refine r_goto C (tgt := 40) dX10_goBack_36 (by decide) ?_
        exact hk40 3 h
      · skip
        refine r_iconst C (v := 0) dX10_goBack_39 (by decide) ?_
        exact hk40 0 h
    · skip
      refine r_iconst C (v := 2) dX10_goBack_22 (by decide) ?_
      refine r_goto C (tgt := 40) dX10_goBack_23 (by decide) ?_
      exact hk40 2 h
noncomputable def f_X10_ready (p1 : Int32) (m : sM) : Option (sR Int32) :=
  s_bd (f_X10_isSlot p1 m) fun r1 m2 => s_jn (fun (s0_27 : Int32) => s_md (s_up m2 110 0 s0_27) fun m3 => if (m3.1 110 0) ≤ 0 then (s_ix p1 3 fun j4 => s_md (s_up m3 118 j4 2) fun m5 => s_ix p1 3 fun j6 => s_md (s_up m5 122 j6 0) fun m7 => s_ix (m7.1 110 19) 3 fun j8 => s_md (s_up m7 126 j8 p1) fun m9 => s_md (s_up m9 110 19 ((m9.1 110 19) + 1)) fun m10 => some (.inl (m10.1 110 19), m10)) else (some (.inl 0, m3))) fun k27 => if r1 = 0 then (k27 1) else (s_ix p1 3 fun j11 => if (m2.1 118 j11) = 1 then (k27 0) else (k27 2))
set_option maxRecDepth 20000 in
set_option maxHeartbeats 4000000 in
theorem c_X10_ready (nw : Nat) (hnw : 29 ≤ nw) (p1 : Int32) : s_Con s_i 110 nw yX10_ready wsX10_ready 16 230 0 (f_X10_ready p1) (fun ad => [.ref (ad 110), .int p1]) := by
  refine s_con_of cX10_ready 2 (some .int) RX10 (by decide) rfl rfl (fun _ => Nat.le_of_ble_eq_true rfl) (fun ad m res V C h => ?_)
  unfold f_X10_ready at h
  have F_i10 : ∀ w ∈ wsX100, w ∈ wsX10_ready := by decide +kernel
  have F_k100 : Cond.fieldLink RX10 100 "ShadowFileModel" "thrown" "I" ∈ wsX10_ready := by decide +kernel
  have F_k32 : Cond.fieldLink RX10 32 "ShadowFileModel" "state" "[I" ∈ wsX10_ready := by decide +kernel
  have F_k44 : Cond.fieldLink RX10 44 "ShadowFileModel" "marks" "[I" ∈ wsX10_ready := by decide +kernel
  have F_k56 : Cond.fieldLink RX10 56 "ShadowFileModel" "order" "[I" ∈ wsX10_ready := by decide +kernel
  have F_k133 : Cond.fieldLink RX10 133 "ShadowFileModel" "ready" "I" ∈ wsX10_ready := by decide +kernel
  show V 0 0 [(0, .ref (ad 110)), (1, .int p1)] [] m
  refine r_aload_n C dX10_ready_0 rfl 0 rfl ?_
  refine r_iload_n C dX10_ready_1 rfl 1 rfl ?_
  refine r_callS C (c_X10_isSlot nw hnw p1) (As := [.int p1]) (nn := 1) (stk := [.int p1, .ref (ad 110)]) dX10_ready_2 gX10_ready_X10_isSlot ⟨by decide, by decide, by decide +kernel⟩ rfl rfl (by decide) rfl rfl (Nat.le_of_ble_eq_true rfl) (by decide) h (fun r1 m2 h => ?_)
  show V 0 5 [(0, .ref (ad 110)), (1, .int p1)] [.int r1, .ref (ad 110)] m2
  refine s_join h (fun k27 => ∀ (s0_27 : Int32), k27 s0_27 = some res → V 0 27 [(0, .ref (ad 110)), (1, .int p1)] [.int s0_27, .ref (ad 110)] m2) ?_ (fun k27 hk27 h => ?_)
  · intro s0_27 h
    refine r_puti C (ci := 10) (k9 := 0) dX10_ready_27 rfl F_i10 (by decide) F_k100 (by omega) la_110 rfl tyX10 tyX10_ok nmX10 rfl (tyX10_ok 0 (by decide)) rfl rfl h (fun m3 _ h => ?_)
    refine r_aload_n C dX10_ready_30 rfl 0 rfl ?_
    refine r_geti C (ci := 10) (k9 := 0) dX10_ready_31 rfl F_i10 (by decide) F_k100 (by omega) la_110 rfl ?_
    refine r_if_le C (tgt := 39) dX10_ready_34 (by decide) h (fun _ h => ?_) (fun _ h => ?_)
    · skip
      refine r_aload_n C dX10_ready_39 rfl 0 rfl ?_
      refine r_getr C (ci := 10) (k9 := 10) dX10_ready_40 rfl F_i10 (by decide) F_k32 (by omega) la_110 rfl ?_
      refine r_iload_n C dX10_ready_43 rfl 1 rfl ?_
      refine r_iconst C (v := 2) dX10_ready_44 (by decide) ?_
      refine r_iast C dX10_ready_45 (by omega) la_118 h (fun j4 m5 hj4 _ h => ?_)
      refine r_aload_n C dX10_ready_46 rfl 0 rfl ?_
      refine r_getr C (ci := 10) (k9 := 14) dX10_ready_47 rfl F_i10 (by decide) F_k44 (by omega) la_110 rfl ?_
      refine r_iload_n C dX10_ready_50 rfl 1 rfl ?_
      refine r_iconst C (v := 0) dX10_ready_51 (by decide) ?_
      refine r_iast C dX10_ready_52 (by omega) la_122 h (fun j6 m7 hj6 _ h => ?_)
      refine r_aload_n C dX10_ready_53 rfl 0 rfl ?_
      refine r_getr C (ci := 10) (k9 := 18) dX10_ready_54 rfl F_i10 (by decide) F_k56 (by omega) la_110 rfl ?_
      refine r_aload_n C dX10_ready_57 rfl 0 rfl ?_
      refine r_geti C (ci := 10) (k9 := 19) dX10_ready_58 rfl F_i10 (by decide) F_k133 (by omega) la_110 rfl ?_
      refine r_iload_n C dX10_ready_61 rfl 1 rfl ?_
      refine r_iast C dX10_ready_62 (by omega) la_126 h (fun j8 m9 hj8 _ h => ?_)
      refine r_aload_n C dX10_ready_63 rfl 0 rfl ?_
      refine r_dup C dX10_ready_64 rfl ?_
      refine r_geti C (ci := 10) (k9 := 19) dX10_ready_65 rfl F_i10 (by decide) F_k133 (by omega) la_110 rfl ?_
      refine r_iconst C (v := 1) dX10_ready_68 (by decide) ?_
      refine r_iadd C dX10_ready_69 ?_
      refine r_puti C (ci := 10) (k9 := 19) dX10_ready_70 rfl F_i10 (by decide) F_k133 (by omega) la_110 rfl tyX10 tyX10_ok nmX10 rfl (tyX10_ok 19 (by decide)) rfl rfl h (fun m10 _ h => ?_)
      refine r_aload_n C dX10_ready_73 rfl 0 rfl ?_
      refine r_geti C (ci := 10) (k9 := 19) dX10_ready_74 rfl F_i10 (by decide) F_k133 (by omega) la_110 rfl ?_
      exact r_iret C dX10_ready_77 rfl h
    · skip
      refine r_iconst C (v := 0) dX10_ready_37 (by decide) ?_
      exact r_iret C dX10_ready_38 rfl h
  refine r_if_ne C (tgt := 12) dX10_ready_5 (by decide) h (fun _ h => ?_) (fun _ h => ?_)
  · skip
    refine r_iconst C (v := 1) dX10_ready_8 (by decide) ?_
    refine r_goto C (tgt := 27) dX10_ready_9 (by decide) ?_
    exact hk27 1 h
  · skip
    refine r_aload_n C dX10_ready_12 rfl 0 rfl ?_
    refine r_getr C (ci := 10) (k9 := 10) dX10_ready_13 rfl F_i10 (by decide) F_k32 (by omega) la_110 rfl ?_
    refine r_iload_n C dX10_ready_16 rfl 1 rfl ?_
    refine r_iald C dX10_ready_17 (by omega) la_118 h (fun j11 hj11 h => ?_)
    refine r_iconst C (v := 1) dX10_ready_18 (by decide) ?_
    refine r_icmp_eq C (tgt := 26) dX10_ready_19 (by decide) h (fun _ h => ?_) (fun _ h => ?_)
    · skip
      refine r_iconst C (v := 0) dX10_ready_26 (by decide) ?_
      exact hk27 0 h
    · skip
      refine r_iconst C (v := 2) dX10_ready_22 (by decide) ?_
      refine r_goto C (tgt := 27) dX10_ready_23 (by decide) ?_
      exact hk27 2 h
noncomputable def f_X10_abandon_L85 (y1_85 : Int32) (y2_85 : Int32) (k116 : sM → Option (sR Int32)) : Nat → Int32 → sM → Option (sR Int32)
  | 0, _, _ => none
  | n + 1, x4_85, m85_ =>
    if (m85_.1 110 19) ≤ x4_85 then (k116  m85_) else (s_ix (x4_85 + 1) 3 fun j10 => s_ix x4_85 3 fun j11 => s_md (s_up m85_ 126 j11 (m85_.1 126 j10)) fun m12 => f_X10_abandon_L85 y1_85 y2_85 k116 n (x4_85 + 1) m12)
noncomputable def f_X10_abandon_L56 (y1_56 : Int32) (y2_56 : Int32) (m5 : sM) (e72_56 : Int32 → Option (sR Int32)) : Nat → Int32 → Option (sR Int32)
  | 0, _ => none
  | n + 1, x3_56 =>
    s_ix x3_56 3 fun j13 => if (m5.1 126 j13) = y1_56 then (e72_56 x3_56) else (f_X10_abandon_L56 y1_56 y2_56 m5 e72_56 n (x3_56 + 1))
noncomputable def f_X10_abandon (p1 : Int32) (m : sM) : Option (sR Int32) :=
  s_bd (f_X10_isSlot p1 m) fun r1 m2 => s_jn (fun (s0_26 : Int32) => s_md (s_up m2 110 0 s0_26) fun m3 => if (m3.1 110 0) ≤ 0 then (s_bd (f_X10_changesOf p1 m3) fun r4 m5 => s_ix p1 3 fun j6 => s_jn (fun (m116_ : sM) => s_bd (f_X10_idle p1 m116_) fun r7 m8 => some (.inl r4, m8)) fun k116 => if (m5.1 118 j6) = 2 then (s_jn (fun (x3_72 : Int32) => s_md (s_up m5 110 19 ((m5.1 110 19) - 1)) fun m9 => f_X10_abandon_L85 p1 r4 k116 5000 x3_72 m9) fun e72_56 => f_X10_abandon_L56 p1 r4 m5 e72_56 5000 0) else (k116  m5)) else (some (.inl 0, m3))) fun k26 => if r1 = 0 then (k26 1) else (s_ix p1 3 fun j14 => if (m2.1 118 j14) = 0 then (k26 2) else (k26 0))
set_option maxRecDepth 20000 in
set_option maxHeartbeats 4000000 in
theorem c_X10_abandon (nw : Nat) (hnw : 29 ≤ nw) (p1 : Int32) : s_Con s_i 110 nw yX10_abandon wsX10_abandon 16 230 0 (f_X10_abandon p1) (fun ad => [.ref (ad 110), .int p1]) := by
  refine s_con_of cX10_abandon 5 (some .int) RX10 (by decide) rfl rfl (fun _ => Nat.le_of_ble_eq_true rfl) (fun ad m res V C h => ?_)
  unfold f_X10_abandon at h
  have F_i10 : ∀ w ∈ wsX100, w ∈ wsX10_abandon := by decide +kernel
  have F_k100 : Cond.fieldLink RX10 100 "ShadowFileModel" "thrown" "I" ∈ wsX10_abandon := by decide +kernel
  have F_k32 : Cond.fieldLink RX10 32 "ShadowFileModel" "state" "[I" ∈ wsX10_abandon := by decide +kernel
  have F_k133 : Cond.fieldLink RX10 133 "ShadowFileModel" "ready" "I" ∈ wsX10_abandon := by decide +kernel
  have F_k56 : Cond.fieldLink RX10 56 "ShadowFileModel" "order" "[I" ∈ wsX10_abandon := by decide +kernel
  show V 0 0 [(0, .ref (ad 110)), (1, .int p1)] [] m
  refine r_aload_n C dX10_abandon_0 rfl 0 rfl ?_
  refine r_iload_n C dX10_abandon_1 rfl 1 rfl ?_
  refine r_callS C (c_X10_isSlot nw hnw p1) (As := [.int p1]) (nn := 1) (stk := [.int p1, .ref (ad 110)]) dX10_abandon_2 gX10_abandon_X10_isSlot ⟨by decide, by decide, by decide +kernel⟩ rfl rfl (by decide) rfl rfl (Nat.le_of_ble_eq_true rfl) (by decide) h (fun r1 m2 h => ?_)
  show V 0 5 [(0, .ref (ad 110)), (1, .int p1)] [.int r1, .ref (ad 110)] m2
  refine s_join h (fun k26 => ∀ (s0_26 : Int32), k26 s0_26 = some res → V 0 26 [(0, .ref (ad 110)), (1, .int p1)] [.int s0_26, .ref (ad 110)] m2) ?_ (fun k26 hk26 h => ?_)
  · intro s0_26 h
    refine r_puti C (ci := 10) (k9 := 0) dX10_abandon_26 rfl F_i10 (by decide) F_k100 (by omega) la_110 rfl tyX10 tyX10_ok nmX10 rfl (tyX10_ok 0 (by decide)) rfl rfl h (fun m3 _ h => ?_)
    refine r_aload_n C dX10_abandon_29 rfl 0 rfl ?_
    refine r_geti C (ci := 10) (k9 := 0) dX10_abandon_30 rfl F_i10 (by decide) F_k100 (by omega) la_110 rfl ?_
    refine r_if_le C (tgt := 38) dX10_abandon_33 (by decide) h (fun _ h => ?_) (fun _ h => ?_)
    · skip
      refine r_aload_n C dX10_abandon_38 rfl 0 rfl ?_
      refine r_iload_n C dX10_abandon_39 rfl 1 rfl ?_
      refine r_callV C (c_X10_changesOf nw hnw p1) (As := [.int p1]) (nn := 1) (stk := [.int p1, .ref (ad 110)]) (ci := 10) dX10_abandon_40 gX10_abandon_X10_changesOf ⟨rfl, by decide, by decide, by decide +kernel⟩ (by omega) la_110 rfl rfl rfl (by decide) rfl rfl (Nat.le_of_ble_eq_true rfl) (by decide) h (fun r4 m5 h => ?_)
      show V 0 43 [(0, .ref (ad 110)), (1, .int p1)] [.int r4] m5
      refine r_istore_n C dX10_abandon_43 rfl (by decide) (show _ = [(2, .int r4), (0, .ref (ad 110)), (1, .int p1)] from rfl) ?_
      refine r_aload_n C dX10_abandon_44 rfl 1 rfl ?_
      refine r_getr C (ci := 10) (k9 := 10) dX10_abandon_45 rfl F_i10 (by decide) F_k32 (by omega) la_110 rfl ?_
      refine r_iload_n C dX10_abandon_48 rfl 2 rfl ?_
      refine r_iald C dX10_abandon_49 (by omega) la_118 h (fun j6 hj6 h => ?_)
      refine r_iconst C (v := 2) dX10_abandon_50 (by decide) ?_
      refine s_join h (fun k116 => ∀ (m116_ : sM), k116 m116_ = some res → V 0 116 [(0, .ref (ad 110)), (1, .int p1), (2, .int r4)] [] m116_) ?_ (fun k116 hk116 h => ?_)
      · intro m116_ h
        refine r_aload_n C dX10_abandon_116 rfl 0 rfl ?_
        refine r_iload_n C dX10_abandon_117 rfl 1 rfl ?_
        refine r_callV C (c_X10_idle nw hnw p1) (As := [.int p1]) (nn := 1) (stk := [.int p1, .ref (ad 110)]) (ci := 10) dX10_abandon_118 gX10_abandon_X10_idle ⟨rfl, by decide, by decide, by decide +kernel⟩ (by omega) la_110 rfl rfl rfl (by decide) rfl rfl (Nat.le_of_ble_eq_true rfl) (by decide) h (fun r7 m8 h => ?_)
        show V 0 121 [(0, .ref (ad 110)), (1, .int p1), (2, .int r4)] [] m8
        refine r_iload_n C dX10_abandon_121 rfl 2 rfl ?_
        exact r_iret C dX10_abandon_122 rfl h
      refine r_icmp_ne C (tgt := 116) dX10_abandon_51 (by decide) h (fun _ h => ?_) (fun _ h => ?_)
      · skip
        refine r_iconst C (v := 0) dX10_abandon_54 (by decide) ?_
        refine r_istore_n C dX10_abandon_55 rfl (by decide) (show _ = [(3, .int 0), (2, .int r4), (0, .ref (ad 110)), (1, .int p1)] from rfl) ?_
        refine s_join h (fun e72_56 => ∀ (x3_72 : Int32), e72_56 x3_72 = some res → V 0 72 [(0, .ref (ad 110)), (1, .int p1), (2, .int r4), (3, .int x3_72)] [] m5) ?_ (fun e72_56 he72_56 h => ?_)
        · intro x3_72 h
          refine r_aload_n C dX10_abandon_72 rfl 0 rfl ?_
          refine r_dup C dX10_abandon_73 rfl ?_
          refine r_geti C (ci := 10) (k9 := 19) dX10_abandon_74 rfl F_i10 (by decide) F_k133 (by omega) la_110 rfl ?_
          refine r_iconst C (v := 1) dX10_abandon_77 (by decide) ?_
          refine r_isub C dX10_abandon_78 ?_
          refine r_puti C (ci := 10) (k9 := 19) dX10_abandon_79 rfl F_i10 (by decide) F_k133 (by omega) la_110 rfl tyX10 tyX10_ok nmX10 rfl (tyX10_ok 19 (by decide)) rfl rfl h (fun m9 _ h => ?_)
          refine r_iload_n C dX10_abandon_82 rfl 3 rfl ?_
          refine r_istore C dX10_abandon_83 (by decide) (show _ = [(4, .int x3_72), (0, .ref (ad 110)), (1, .int p1), (2, .int r4), (3, .int x3_72)] from rfl) ?_
          have L85 : ∀ (n : Nat) (x4_85 : Int32) (m85_ : sM), f_X10_abandon_L85 p1 r4 k116 n x4_85 m85_ = some res → V 0 85 [(0, .ref (ad 110)), (1, .int p1), (2, .int r4), (4, .int x4_85)] [] m85_ := by
            intro n
            induction n with
            | zero => intro x4_85 m85_ h; rw [f_X10_abandon_L85] at h; cases h
            | succ n ih =>
              intro x4_85 m85_ h
              rw [f_X10_abandon_L85] at h
              refine r_iload C dX10_abandon_85 3 rfl ?_
              refine r_aload_n C dX10_abandon_87 rfl 0 rfl ?_
              refine r_geti C (ci := 10) (k9 := 19) dX10_abandon_88 rfl F_i10 (by decide) F_k133 (by omega) la_110 rfl ?_
              refine r_icmp_ge C (tgt := 116) dX10_abandon_91 (by decide) h (fun _ h => ?_) (fun _ h => ?_)
              · skip
                refine r_sub C [0, 1, 2] (show _ = [(0, .ref (ad 110)), (1, .int p1), (2, .int r4)] from rfl) ?_
                exact hk116 m85_ h
              · skip
                refine r_aload_n C dX10_abandon_94 rfl 0 rfl ?_
                refine r_getr C (ci := 10) (k9 := 18) dX10_abandon_95 rfl F_i10 (by decide) F_k56 (by omega) la_110 rfl ?_
                refine r_iload C dX10_abandon_98 3 rfl ?_
                refine r_aload_n C dX10_abandon_100 rfl 0 rfl ?_
                refine r_getr C (ci := 10) (k9 := 18) dX10_abandon_101 rfl F_i10 (by decide) F_k56 (by omega) la_110 rfl ?_
                refine r_iload C dX10_abandon_104 3 rfl ?_
                refine r_iconst C (v := 1) dX10_abandon_106 (by decide) ?_
                refine r_iadd C dX10_abandon_107 ?_
                refine r_iald C dX10_abandon_108 (by omega) la_126 h (fun j10 hj10 h => ?_)
                refine r_iast C dX10_abandon_109 (by omega) la_126 h (fun j11 m12 hj11 _ h => ?_)
                refine r_iinc C (v := x4_85 + 1) dX10_abandon_110 3 rfl rfl (by decide) (show _ = [(4, .int (x4_85 + 1)), (0, .ref (ad 110)), (1, .int p1), (2, .int r4)] from rfl) ?_
                refine r_goto C (tgt := 85) dX10_abandon_113 (by decide) ?_
                refine r_sub C [1, 2, 3, 0] (show _ = [(0, .ref (ad 110)), (1, .int p1), (2, .int r4), (4, .int (x4_85 + 1))] from rfl) ?_
                exact ih (x4_85 + 1) m12 h
          refine r_sub C [1, 2, 3, 0] (show _ = [(0, .ref (ad 110)), (1, .int p1), (2, .int r4), (4, .int x3_72)] from rfl) ?_
          exact L85 5000 x3_72 m9 h
        have L56 : ∀ (n : Nat) (x3_56 : Int32), f_X10_abandon_L56 p1 r4 m5 e72_56 n x3_56 = some res → V 0 56 [(0, .ref (ad 110)), (1, .int p1), (2, .int r4), (3, .int x3_56)] [] m5 := by
          intro n
          induction n with
          | zero => intro x3_56 h; rw [f_X10_abandon_L56] at h; cases h
          | succ n ih =>
            intro x3_56 h
            rw [f_X10_abandon_L56] at h
            refine r_aload_n C dX10_abandon_56 rfl 0 rfl ?_
            refine r_getr C (ci := 10) (k9 := 18) dX10_abandon_57 rfl F_i10 (by decide) F_k56 (by omega) la_110 rfl ?_
            refine r_iload_n C dX10_abandon_60 rfl 3 rfl ?_
            refine r_iald C dX10_abandon_61 (by omega) la_126 h (fun j13 hj13 h => ?_)
            refine r_iload_n C dX10_abandon_62 rfl 1 rfl ?_
            refine r_icmp_eq C (tgt := 72) dX10_abandon_63 (by decide) h (fun _ h => ?_) (fun _ h => ?_)
            · skip
              exact he72_56 x3_56 h
            · skip
              refine r_iinc C (v := x3_56 + 1) dX10_abandon_66 3 rfl rfl (by decide) (show _ = [(3, .int (x3_56 + 1)), (0, .ref (ad 110)), (1, .int p1), (2, .int r4)] from rfl) ?_
              refine r_goto C (tgt := 56) dX10_abandon_69 (by decide) ?_
              refine r_sub C [1, 2, 3, 0] (show _ = [(0, .ref (ad 110)), (1, .int p1), (2, .int r4), (3, .int (x3_56 + 1))] from rfl) ?_
              exact ih (x3_56 + 1) h
        refine r_sub C [2, 3, 1, 0] (show _ = [(0, .ref (ad 110)), (1, .int p1), (2, .int r4), (3, .int 0)] from rfl) ?_
        exact L56 5000 0 h
      · skip
        refine r_sub C [1, 2, 0] (show _ = [(0, .ref (ad 110)), (1, .int p1), (2, .int r4)] from rfl) ?_
        exact hk116 m5 h
    · skip
      refine r_iconst C (v := 0) dX10_abandon_36 (by decide) ?_
      exact r_iret C dX10_abandon_37 rfl h
  refine r_if_ne C (tgt := 12) dX10_abandon_5 (by decide) h (fun _ h => ?_) (fun _ h => ?_)
  · skip
    refine r_iconst C (v := 1) dX10_abandon_8 (by decide) ?_
    refine r_goto C (tgt := 26) dX10_abandon_9 (by decide) ?_
    exact hk26 1 h
  · skip
    refine r_aload_n C dX10_abandon_12 rfl 0 rfl ?_
    refine r_getr C (ci := 10) (k9 := 10) dX10_abandon_13 rfl F_i10 (by decide) F_k32 (by omega) la_110 rfl ?_
    refine r_iload_n C dX10_abandon_16 rfl 1 rfl ?_
    refine r_iald C dX10_abandon_17 (by omega) la_118 h (fun j14 hj14 h => ?_)
    refine r_if_ne C (tgt := 25) dX10_abandon_18 (by decide) h (fun _ h => ?_) (fun _ h => ?_)
    · skip
      refine r_iconst C (v := 2) dX10_abandon_21 (by decide) ?_
      refine r_goto C (tgt := 26) dX10_abandon_22 (by decide) ?_
      exact hk26 2 h
    · skip
      refine r_iconst C (v := 0) dX10_abandon_25 (by decide) ?_
      exact hk26 0 h
