noncomputable def f_X10_sayEntry (p1 : Int32) (p2 : Int32) (p3 : Int32) (m : sM) : Option (sR Unit) :=
  s_jn (fun (m13_ : sM) => s_jn (fun (m23_ : sM) => s_bd (f_X10_sayNumber p1 m23_) fun r1 m2 => s_jn (fun (m43_ : sM) => some (.inl (), m43_)) fun k43 => if p2 = 0 then (s_bd (f_X10_say 61 m2) fun r3 m4 => s_bd (f_X10_sayNumber p3 m4) fun r5 m6 => k43  m6) else (k43  m2)) fun k23 => if p2 = 0 then (k23  m13_) else (s_bd (f_X10_say 45 m13_) fun r7 m8 => k23  m8)) fun k13 => if (m.1 110 23) ≤ 0 then (k13  m) else (s_bd (f_X10_say 44 m) fun r9 m10 => k13  m10)
set_option maxRecDepth 20000 in
set_option maxHeartbeats 4000000 in
theorem c_X10_sayEntry (nw : Nat) (hnw : 29 ≤ nw) (p1 : Int32) (p2 : Int32) (p3 : Int32) : s_Con s_u 110 nw yX10_sayEntry wsX10_sayEntry 38 725 0 (f_X10_sayEntry p1 p2 p3) (fun ad => [.ref (ad 110), .int p1, .int p2, .int p3]) := by
  refine s_con_of cX10_sayEntry 4 none RX10 (by decide) rfl rfl (fun _ => Nat.le_of_ble_eq_true rfl) (fun ad m res V C h => ?_)
  unfold f_X10_sayEntry at h
  have F_i10 : ∀ w ∈ wsX100, w ∈ wsX10_sayEntry := by decide +kernel
  have F_k195 : Cond.fieldLink RX10 195 "ShadowFileModel" "written" "I" ∈ wsX10_sayEntry := by decide +kernel
  show V 0 0 [(0, .ref (ad 110)), (1, .int p1), (2, .int p2), (3, .int p3)] [] m
  refine r_aload_n C dX10_sayEntry_0 rfl 0 rfl ?_
  refine r_geti C (ci := 10) (k9 := 23) dX10_sayEntry_1 rfl F_i10 (by decide) F_k195 (by omega) la_110 rfl ?_
  refine s_join h (fun k13 => ∀ (m13_ : sM), k13 m13_ = some res → V 0 13 [(0, .ref (ad 110)), (1, .int p1), (2, .int p2), (3, .int p3)] [] m13_) ?_ (fun k13 hk13 h => ?_)
  · intro m13_ h
    refine r_iload_n C dX10_sayEntry_13 rfl 2 rfl ?_
    refine s_join h (fun k23 => ∀ (m23_ : sM), k23 m23_ = some res → V 0 23 [(0, .ref (ad 110)), (1, .int p1), (2, .int p2), (3, .int p3)] [] m23_) ?_ (fun k23 hk23 h => ?_)
    · intro m23_ h
      refine r_aload_n C dX10_sayEntry_23 rfl 0 rfl ?_
      refine r_iload_n C dX10_sayEntry_24 rfl 1 rfl ?_
      refine r_callV C (c_X10_sayNumber nw hnw p1) (As := [.int p1]) (nn := 1) (stk := [.int p1, .ref (ad 110)]) (ci := 10) dX10_sayEntry_25 gX10_sayEntry_X10_sayNumber ⟨rfl, by decide, by decide, by decide +kernel⟩ (by omega) la_110 rfl rfl rfl (by decide) rfl rfl (Nat.le_of_ble_eq_true rfl) (by decide) h (fun r1 m2 h => ?_)
      show V 0 28 [(0, .ref (ad 110)), (1, .int p1), (2, .int p2), (3, .int p3)] [] m2
      refine r_iload_n C dX10_sayEntry_28 rfl 2 rfl ?_
      refine s_join h (fun k43 => ∀ (m43_ : sM), k43 m43_ = some res → V 0 43 [] [] m43_) ?_ (fun k43 hk43 h => ?_)
      · intro m43_ h
        exact r_vret C dX10_sayEntry_43 rfl h
      refine r_if_ne C (tgt := 43) dX10_sayEntry_29 (by decide) h (fun _ h => ?_) (fun _ h => ?_)
      · skip
        refine r_aload_n C dX10_sayEntry_32 rfl 0 rfl ?_
        refine r_bipush C (v := 61) dX10_sayEntry_33 (by decide) ?_
        refine r_callV C (c_X10_say nw hnw 61) (As := [.int 61]) (nn := 1) (stk := [.int 61, .ref (ad 110)]) (ci := 10) dX10_sayEntry_35 gX10_sayEntry_X10_say ⟨rfl, by decide, by decide, by decide +kernel⟩ (by omega) la_110 rfl rfl rfl (by decide) rfl rfl (Nat.le_of_ble_eq_true rfl) (by decide) h (fun r3 m4 h => ?_)
        show V 0 38 [(0, .ref (ad 110)), (1, .int p1), (2, .int p2), (3, .int p3)] [] m4
        refine r_aload_n C dX10_sayEntry_38 rfl 0 rfl ?_
        refine r_iload_n C dX10_sayEntry_39 rfl 3 rfl ?_
        refine r_callV C (c_X10_sayNumber nw hnw p3) (As := [.int p3]) (nn := 1) (stk := [.int p3, .ref (ad 110)]) (ci := 10) dX10_sayEntry_40 gX10_sayEntry_X10_sayNumber ⟨rfl, by decide, by decide, by decide +kernel⟩ (by omega) la_110 rfl rfl rfl (by decide) rfl rfl (Nat.le_of_ble_eq_true rfl) (by decide) h (fun r5 m6 h => ?_)
        show V 0 43 [(0, .ref (ad 110)), (1, .int p1), (2, .int p2), (3, .int p3)] [] m6
        refine r_sub C [] (show _ = [] from rfl) ?_
        exact hk43 m6 h
      · skip
        refine r_sub C [] (show _ = [] from rfl) ?_
        exact hk43 m2 h
    refine r_if_eq C (tgt := 23) dX10_sayEntry_14 (by decide) h (fun _ h => ?_) (fun _ h => ?_)
    · skip
      exact hk23 m13_ h
    · skip
      refine r_aload_n C dX10_sayEntry_17 rfl 0 rfl ?_
      refine r_bipush C (v := 45) dX10_sayEntry_18 (by decide) ?_
      refine r_callV C (c_X10_say nw hnw 45) (As := [.int 45]) (nn := 1) (stk := [.int 45, .ref (ad 110)]) (ci := 10) dX10_sayEntry_20 gX10_sayEntry_X10_say ⟨rfl, by decide, by decide, by decide +kernel⟩ (by omega) la_110 rfl rfl rfl (by decide) rfl rfl (Nat.le_of_ble_eq_true rfl) (by decide) h (fun r7 m8 h => ?_)
      show V 0 23 [(0, .ref (ad 110)), (1, .int p1), (2, .int p2), (3, .int p3)] [] m8
      exact hk23 m8 h
  refine r_if_le C (tgt := 13) dX10_sayEntry_4 (by decide) h (fun _ h => ?_) (fun _ h => ?_)
  · skip
    exact hk13 m h
  · skip
    refine r_aload_n C dX10_sayEntry_7 rfl 0 rfl ?_
    refine r_bipush C (v := 44) dX10_sayEntry_8 (by decide) ?_
    refine r_callV C (c_X10_say nw hnw 44) (As := [.int 44]) (nn := 1) (stk := [.int 44, .ref (ad 110)]) (ci := 10) dX10_sayEntry_10 gX10_sayEntry_X10_say ⟨rfl, by decide, by decide, by decide +kernel⟩ (by omega) la_110 rfl rfl rfl (by decide) rfl rfl (Nat.le_of_ble_eq_true rfl) (by decide) h (fun r9 m10 h => ?_)
    show V 0 13 [(0, .ref (ad 110)), (1, .int p1), (2, .int p2), (3, .int p3)] [] m10
    exact hk13 m10 h
noncomputable def f_X10_writeChanges_L45 (y1_45 : Int32) (e98_45 : sM → Option (sR Int32)) : Nat → Int32 → sM → Option (sR Int32)
  | 0, _, _ => none
  | n + 1, x2_45, m45_ =>
    if 64 ≤ x2_45 then (e98_45  m45_) else (s_ix ((64 * y1_45) + x2_45) 192 fun j5 => s_jn (fun (m92_ : sM) => f_X10_writeChanges_L45 y1_45 e98_45 n (x2_45 + 1) m92_) fun k92 => if (m45_.1 119 j5) = 0 then (k92  m45_) else (s_ix ((64 * y1_45) + x2_45) 192 fun j6 => s_ix ((64 * y1_45) + x2_45) 192 fun j7 => s_bd (f_X10_sayEntry x2_45 (m45_.1 120 j6) (m45_.1 121 j7) m45_) fun r8 m9 => k92  m9))
noncomputable def f_X10_writeChanges (p1 : Int32) (m : sM) : Option (sR Int32) :=
  s_bd (f_X10_isSlot p1 m) fun r1 m2 => s_jn (fun (s0_26 : Int32) => s_md (s_up m2 110 0 s0_26) fun m3 => if (m3.1 110 0) ≤ 0 then (s_md (s_up m3 110 23 0) fun m4 => s_jn (fun (m98_ : sM) => some (.inl (m98_.1 110 23), m98_)) fun e98_45 => f_X10_writeChanges_L45 p1 e98_45 5000 0 m4) else (some (.inl 0, m3))) fun k26 => if r1 = 0 then (k26 1) else (s_ix p1 3 fun j10 => if (m2.1 118 j10) = 0 then (k26 2) else (k26 0))
set_option maxRecDepth 20000 in
set_option maxHeartbeats 4000000 in
theorem c_X10_writeChanges (nw : Nat) (hnw : 29 ≤ nw) (p1 : Int32) : s_Con s_i 110 nw yX10_writeChanges wsX10_writeChanges 40 770 0 (f_X10_writeChanges p1) (fun ad => [.ref (ad 110), .int p1]) := by
  refine s_con_of cX10_writeChanges 3 (some .int) RX10 (by decide) rfl rfl (fun _ => Nat.le_of_ble_eq_true rfl) (fun ad m res V C h => ?_)
  unfold f_X10_writeChanges at h
  have F_i10 : ∀ w ∈ wsX100, w ∈ wsX10_writeChanges := by decide +kernel
  have F_k100 : Cond.fieldLink RX10 100 "ShadowFileModel" "thrown" "I" ∈ wsX10_writeChanges := by decide +kernel
  have F_k195 : Cond.fieldLink RX10 195 "ShadowFileModel" "written" "I" ∈ wsX10_writeChanges := by decide +kernel
  have F_k35 : Cond.fieldLink RX10 35 "ShadowFileModel" "changes" "[Z" ∈ wsX10_writeChanges := by decide +kernel
  have F_k38 : Cond.fieldLink RX10 38 "ShadowFileModel" "removes" "[Z" ∈ wsX10_writeChanges := by decide +kernel
  have F_k41 : Cond.fieldLink RX10 41 "ShadowFileModel" "changed" "[I" ∈ wsX10_writeChanges := by decide +kernel
  have F_k32 : Cond.fieldLink RX10 32 "ShadowFileModel" "state" "[I" ∈ wsX10_writeChanges := by decide +kernel
  show V 0 0 [(0, .ref (ad 110)), (1, .int p1)] [] m
  refine r_aload_n C dX10_writeChanges_0 rfl 0 rfl ?_
  refine r_iload_n C dX10_writeChanges_1 rfl 1 rfl ?_
  refine r_callS C (c_X10_isSlot nw hnw p1) (As := [.int p1]) (nn := 1) (stk := [.int p1, .ref (ad 110)]) dX10_writeChanges_2 gX10_writeChanges_X10_isSlot ⟨by decide, by decide, by decide +kernel⟩ rfl rfl (by decide) rfl rfl (Nat.le_of_ble_eq_true rfl) (by decide) h (fun r1 m2 h => ?_)
  show V 0 5 [(0, .ref (ad 110)), (1, .int p1)] [.int r1, .ref (ad 110)] m2
  refine s_join h (fun k26 => ∀ (s0_26 : Int32), k26 s0_26 = some res → V 0 26 [(0, .ref (ad 110)), (1, .int p1)] [.int s0_26, .ref (ad 110)] m2) ?_ (fun k26 hk26 h => ?_)
  · intro s0_26 h
    refine r_puti C (ci := 10) (k9 := 0) dX10_writeChanges_26 rfl F_i10 (by decide) F_k100 (by omega) la_110 rfl tyX10 tyX10_ok nmX10 rfl (tyX10_ok 0 (by decide)) rfl rfl h (fun m3 _ h => ?_)
    refine r_aload_n C dX10_writeChanges_29 rfl 0 rfl ?_
    refine r_geti C (ci := 10) (k9 := 0) dX10_writeChanges_30 rfl F_i10 (by decide) F_k100 (by omega) la_110 rfl ?_
    refine r_if_le C (tgt := 38) dX10_writeChanges_33 (by decide) h (fun _ h => ?_) (fun _ h => ?_)
    · skip
      refine r_aload_n C dX10_writeChanges_38 rfl 0 rfl ?_
      refine r_iconst C (v := 0) dX10_writeChanges_39 (by decide) ?_
      refine r_puti C (ci := 10) (k9 := 23) dX10_writeChanges_40 rfl F_i10 (by decide) F_k195 (by omega) la_110 rfl tyX10 tyX10_ok nmX10 rfl (tyX10_ok 23 (by decide)) rfl rfl h (fun m4 _ h => ?_)
      refine r_iconst C (v := 0) dX10_writeChanges_43 (by decide) ?_
      refine r_istore_n C dX10_writeChanges_44 rfl (by decide) (show _ = [(2, .int 0), (0, .ref (ad 110)), (1, .int p1)] from rfl) ?_
      refine s_join h (fun e98_45 => ∀ (m98_ : sM), e98_45 m98_ = some res → V 0 98 [(0, .ref (ad 110))] [] m98_) ?_ (fun e98_45 he98_45 h => ?_)
      · intro m98_ h
        refine r_aload_n C dX10_writeChanges_98 rfl 0 rfl ?_
        refine r_geti C (ci := 10) (k9 := 23) dX10_writeChanges_99 rfl F_i10 (by decide) F_k195 (by omega) la_110 rfl ?_
        exact r_iret C dX10_writeChanges_102 rfl h
      have L45 : ∀ (n : Nat) (x2_45 : Int32) (m45_ : sM), f_X10_writeChanges_L45 p1 e98_45 n x2_45 m45_ = some res → V 0 45 [(0, .ref (ad 110)), (1, .int p1), (2, .int x2_45)] [] m45_ := by
        intro n
        induction n with
        | zero => intro x2_45 m45_ h; rw [f_X10_writeChanges_L45] at h; cases h
        | succ n ih =>
          intro x2_45 m45_ h
          rw [f_X10_writeChanges_L45] at h
          refine r_iload_n C dX10_writeChanges_45 rfl 2 rfl ?_
          refine r_bipush C (v := 64) dX10_writeChanges_46 (by decide) ?_
          refine r_icmp_ge C (tgt := 98) dX10_writeChanges_48 (by decide) h (fun _ h => ?_) (fun _ h => ?_)
          · skip
            refine r_sub C [0] (show _ = [(0, .ref (ad 110))] from rfl) ?_
            exact he98_45 m45_ h
          · skip
            refine r_aload_n C dX10_writeChanges_51 rfl 0 rfl ?_
            refine r_getr C (ci := 10) (k9 := 11) dX10_writeChanges_52 rfl F_i10 (by decide) F_k35 (by omega) la_110 rfl ?_
            refine r_bipush C (v := 64) dX10_writeChanges_55 (by decide) ?_
            refine r_iload_n C dX10_writeChanges_57 rfl 1 rfl ?_
            refine r_imul C dX10_writeChanges_58 ?_
            refine r_iload_n C dX10_writeChanges_59 rfl 2 rfl ?_
            refine r_iadd C dX10_writeChanges_60 ?_
            refine r_zald C dX10_writeChanges_61 (by omega) la_119 h (fun j5 hj5 h => ?_)
            refine s_join h (fun k92 => ∀ (m92_ : sM), k92 m92_ = some res → V 0 92 [(0, .ref (ad 110)), (1, .int p1), (2, .int x2_45)] [] m92_) ?_ (fun k92 hk92 h => ?_)
            · intro m92_ h
              refine r_iinc C (v := x2_45 + 1) dX10_writeChanges_92 2 rfl rfl (by decide) (show _ = [(2, .int (x2_45 + 1)), (0, .ref (ad 110)), (1, .int p1)] from rfl) ?_
              refine r_goto C (tgt := 45) dX10_writeChanges_95 (by decide) ?_
              refine r_sub C [1, 2, 0] (show _ = [(0, .ref (ad 110)), (1, .int p1), (2, .int (x2_45 + 1))] from rfl) ?_
              exact ih (x2_45 + 1) m92_ h
            refine r_if_eq C (tgt := 92) dX10_writeChanges_62 (by decide) h (fun _ h => ?_) (fun _ h => ?_)
            · skip
              exact hk92 m45_ h
            · skip
              refine r_aload_n C dX10_writeChanges_65 rfl 0 rfl ?_
              refine r_iload_n C dX10_writeChanges_66 rfl 2 rfl ?_
              refine r_aload_n C dX10_writeChanges_67 rfl 0 rfl ?_
              refine r_getr C (ci := 10) (k9 := 12) dX10_writeChanges_68 rfl F_i10 (by decide) F_k38 (by omega) la_110 rfl ?_
              refine r_bipush C (v := 64) dX10_writeChanges_71 (by decide) ?_
              refine r_iload_n C dX10_writeChanges_73 rfl 1 rfl ?_
              refine r_imul C dX10_writeChanges_74 ?_
              refine r_iload_n C dX10_writeChanges_75 rfl 2 rfl ?_
              refine r_iadd C dX10_writeChanges_76 ?_
              refine r_zald C dX10_writeChanges_77 (by omega) la_120 h (fun j6 hj6 h => ?_)
              refine r_aload_n C dX10_writeChanges_78 rfl 0 rfl ?_
              refine r_getr C (ci := 10) (k9 := 13) dX10_writeChanges_79 rfl F_i10 (by decide) F_k41 (by omega) la_110 rfl ?_
              refine r_bipush C (v := 64) dX10_writeChanges_82 (by decide) ?_
              refine r_iload_n C dX10_writeChanges_84 rfl 1 rfl ?_
              refine r_imul C dX10_writeChanges_85 ?_
              refine r_iload_n C dX10_writeChanges_86 rfl 2 rfl ?_
              refine r_iadd C dX10_writeChanges_87 ?_
              refine r_iald C dX10_writeChanges_88 (by omega) la_121 h (fun j7 hj7 h => ?_)
              refine r_callV C (c_X10_sayEntry nw hnw x2_45 (m45_.1 120 j6) (m45_.1 121 j7)) (As := [.int x2_45, .int (m45_.1 120 j6), .int (m45_.1 121 j7)]) (nn := 3) (stk := [.int (m45_.1 121 j7), .int (m45_.1 120 j6), .int x2_45, .ref (ad 110)]) (ci := 10) dX10_writeChanges_89 gX10_writeChanges_X10_sayEntry ⟨rfl, by decide, by decide, by decide +kernel⟩ (by omega) la_110 rfl rfl rfl (by decide) rfl rfl (Nat.le_of_ble_eq_true rfl) (by decide) h (fun r8 m9 h => ?_)
              show V 0 92 [(0, .ref (ad 110)), (1, .int p1), (2, .int x2_45)] [] m9
              exact hk92 m9 h
      refine r_sub C [1, 2, 0] (show _ = [(0, .ref (ad 110)), (1, .int p1), (2, .int 0)] from rfl) ?_
      exact L45 5000 0 m4 h
    · skip
      refine r_iconst C (v := 0) dX10_writeChanges_36 (by decide) ?_
      exact r_iret C dX10_writeChanges_37 rfl h
  refine r_if_ne C (tgt := 12) dX10_writeChanges_5 (by decide) h (fun _ h => ?_) (fun _ h => ?_)
  · skip
    refine r_iconst C (v := 1) dX10_writeChanges_8 (by decide) ?_
    refine r_goto C (tgt := 26) dX10_writeChanges_9 (by decide) ?_
    exact hk26 1 h
  · skip
    refine r_aload_n C dX10_writeChanges_12 rfl 0 rfl ?_
    refine r_getr C (ci := 10) (k9 := 10) dX10_writeChanges_13 rfl F_i10 (by decide) F_k32 (by omega) la_110 rfl ?_
    refine r_iload_n C dX10_writeChanges_16 rfl 1 rfl ?_
    refine r_iald C dX10_writeChanges_17 (by omega) la_118 h (fun j10 hj10 h => ?_)
    refine r_if_ne C (tgt := 25) dX10_writeChanges_18 (by decide) h (fun _ h => ?_) (fun _ h => ?_)
    · skip
      refine r_iconst C (v := 2) dX10_writeChanges_21 (by decide) ?_
      refine r_goto C (tgt := 26) dX10_writeChanges_22 (by decide) ?_
      exact hk26 2 h
    · skip
      refine r_iconst C (v := 0) dX10_writeChanges_25 (by decide) ?_
      exact hk26 0 h
noncomputable def f_X10_writeRecords_L32 (e65_32 : sM → Option (sR Int32)) : Nat → Int32 → sM → Option (sR Int32)
  | 0, _, _ => none
  | n + 1, x1_32, m32_ =>
    if 64 ≤ x1_32 then (e65_32  m32_) else (s_ix x1_32 192 fun j3 => s_jn (fun (m59_ : sM) => f_X10_writeRecords_L32 e65_32 n (x1_32 + 1) m59_) fun k59 => if (m32_.1 115 j3) = 0 then (k59  m32_) else (s_ix x1_32 192 fun j4 => s_bd (f_X10_sayEntry x1_32 0 (m32_.1 116 j4) m32_) fun r5 m6 => k59  m6))
noncomputable def f_X10_writeRecords (m : sM) : Option (sR Int32) :=
  s_jn (fun (s0_13 : Int32) => s_md (s_up m 110 0 s0_13) fun m1 => if (m1.1 110 0) ≤ 0 then (s_md (s_up m1 110 23 0) fun m2 => s_jn (fun (m65_ : sM) => some (.inl (m65_.1 110 23), m65_)) fun e65_32 => f_X10_writeRecords_L32 e65_32 5000 0 m2) else (some (.inl 0, m1))) fun k13 => if (m.1 110 2) = 0 then (k13 1) else (k13 0)
set_option maxRecDepth 20000 in
set_option maxHeartbeats 4000000 in
theorem c_X10_writeRecords (nw : Nat) (hnw : 29 ≤ nw) : s_Con s_i 110 nw yX10_writeRecords wsX10_writeRecords 40 770 0 (f_X10_writeRecords) (fun ad => [.ref (ad 110)]) := by
  refine s_con_of cX10_writeRecords 2 (some .int) RX10 (by decide) rfl rfl (fun _ => Nat.le_of_ble_eq_true rfl) (fun ad m res V C h => ?_)
  unfold f_X10_writeRecords at h
  have F_i10 : ∀ w ∈ wsX100, w ∈ wsX10_writeRecords := by decide +kernel
  have F_k116 : Cond.fieldLink RX10 116 "ShadowFileModel" "isOpen" "Z" ∈ wsX10_writeRecords := by decide +kernel
  have F_k100 : Cond.fieldLink RX10 100 "ShadowFileModel" "thrown" "I" ∈ wsX10_writeRecords := by decide +kernel
  have F_k195 : Cond.fieldLink RX10 195 "ShadowFileModel" "written" "I" ∈ wsX10_writeRecords := by decide +kernel
  have F_k22 : Cond.fieldLink RX10 22 "ShadowFileModel" "has" "[Z" ∈ wsX10_writeRecords := by decide +kernel
  have F_k26 : Cond.fieldLink RX10 26 "ShadowFileModel" "values" "[I" ∈ wsX10_writeRecords := by decide +kernel
  show V 0 0 [(0, .ref (ad 110))] [] m
  refine r_aload_n C dX10_writeRecords_0 rfl 0 rfl ?_
  refine r_aload_n C dX10_writeRecords_1 rfl 0 rfl ?_
  refine r_geti C (ci := 10) (k9 := 2) dX10_writeRecords_2 rfl F_i10 (by decide) F_k116 (by omega) la_110 rfl ?_
  refine s_join h (fun k13 => ∀ (s0_13 : Int32), k13 s0_13 = some res → V 0 13 [(0, .ref (ad 110))] [.int s0_13, .ref (ad 110)] m) ?_ (fun k13 hk13 h => ?_)
  · intro s0_13 h
    refine r_puti C (ci := 10) (k9 := 0) dX10_writeRecords_13 rfl F_i10 (by decide) F_k100 (by omega) la_110 rfl tyX10 tyX10_ok nmX10 rfl (tyX10_ok 0 (by decide)) rfl rfl h (fun m1 _ h => ?_)
    refine r_aload_n C dX10_writeRecords_16 rfl 0 rfl ?_
    refine r_geti C (ci := 10) (k9 := 0) dX10_writeRecords_17 rfl F_i10 (by decide) F_k100 (by omega) la_110 rfl ?_
    refine r_if_le C (tgt := 25) dX10_writeRecords_20 (by decide) h (fun _ h => ?_) (fun _ h => ?_)
    · skip
      refine r_aload_n C dX10_writeRecords_25 rfl 0 rfl ?_
      refine r_iconst C (v := 0) dX10_writeRecords_26 (by decide) ?_
      refine r_puti C (ci := 10) (k9 := 23) dX10_writeRecords_27 rfl F_i10 (by decide) F_k195 (by omega) la_110 rfl tyX10 tyX10_ok nmX10 rfl (tyX10_ok 23 (by decide)) rfl rfl h (fun m2 _ h => ?_)
      refine r_iconst C (v := 0) dX10_writeRecords_30 (by decide) ?_
      refine r_istore_n C dX10_writeRecords_31 rfl (by decide) (show _ = [(1, .int 0), (0, .ref (ad 110))] from rfl) ?_
      refine s_join h (fun e65_32 => ∀ (m65_ : sM), e65_32 m65_ = some res → V 0 65 [(0, .ref (ad 110))] [] m65_) ?_ (fun e65_32 he65_32 h => ?_)
      · intro m65_ h
        refine r_aload_n C dX10_writeRecords_65 rfl 0 rfl ?_
        refine r_geti C (ci := 10) (k9 := 23) dX10_writeRecords_66 rfl F_i10 (by decide) F_k195 (by omega) la_110 rfl ?_
        exact r_iret C dX10_writeRecords_69 rfl h
      have L32 : ∀ (n : Nat) (x1_32 : Int32) (m32_ : sM), f_X10_writeRecords_L32 e65_32 n x1_32 m32_ = some res → V 0 32 [(0, .ref (ad 110)), (1, .int x1_32)] [] m32_ := by
        intro n
        induction n with
        | zero => intro x1_32 m32_ h; rw [f_X10_writeRecords_L32] at h; cases h
        | succ n ih =>
          intro x1_32 m32_ h
          rw [f_X10_writeRecords_L32] at h
          refine r_iload_n C dX10_writeRecords_32 rfl 1 rfl ?_
          refine r_bipush C (v := 64) dX10_writeRecords_33 (by decide) ?_
          refine r_icmp_ge C (tgt := 65) dX10_writeRecords_35 (by decide) h (fun _ h => ?_) (fun _ h => ?_)
          · skip
            refine r_sub C [0] (show _ = [(0, .ref (ad 110))] from rfl) ?_
            exact he65_32 m32_ h
          · skip
            refine r_aload_n C dX10_writeRecords_38 rfl 0 rfl ?_
            refine r_getr C (ci := 10) (k9 := 7) dX10_writeRecords_39 rfl F_i10 (by decide) F_k22 (by omega) la_110 rfl ?_
            refine r_iload_n C dX10_writeRecords_42 rfl 1 rfl ?_
            refine r_zald C dX10_writeRecords_43 (by omega) la_115 h (fun j3 hj3 h => ?_)
            refine s_join h (fun k59 => ∀ (m59_ : sM), k59 m59_ = some res → V 0 59 [(0, .ref (ad 110)), (1, .int x1_32)] [] m59_) ?_ (fun k59 hk59 h => ?_)
            · intro m59_ h
              refine r_iinc C (v := x1_32 + 1) dX10_writeRecords_59 1 rfl rfl (by decide) (show _ = [(1, .int (x1_32 + 1)), (0, .ref (ad 110))] from rfl) ?_
              refine r_goto C (tgt := 32) dX10_writeRecords_62 (by decide) ?_
              refine r_sub C [1, 0] (show _ = [(0, .ref (ad 110)), (1, .int (x1_32 + 1))] from rfl) ?_
              exact ih (x1_32 + 1) m59_ h
            refine r_if_eq C (tgt := 59) dX10_writeRecords_44 (by decide) h (fun _ h => ?_) (fun _ h => ?_)
            · skip
              exact hk59 m32_ h
            · skip
              refine r_aload_n C dX10_writeRecords_47 rfl 0 rfl ?_
              refine r_iload_n C dX10_writeRecords_48 rfl 1 rfl ?_
              refine r_iconst C (v := 0) dX10_writeRecords_49 (by decide) ?_
              refine r_aload_n C dX10_writeRecords_50 rfl 0 rfl ?_
              refine r_getr C (ci := 10) (k9 := 8) dX10_writeRecords_51 rfl F_i10 (by decide) F_k26 (by omega) la_110 rfl ?_
              refine r_iload_n C dX10_writeRecords_54 rfl 1 rfl ?_
              refine r_iald C dX10_writeRecords_55 (by omega) la_116 h (fun j4 hj4 h => ?_)
              refine r_callV C (c_X10_sayEntry nw hnw x1_32 0 (m32_.1 116 j4)) (As := [.int x1_32, .int 0, .int (m32_.1 116 j4)]) (nn := 3) (stk := [.int (m32_.1 116 j4), .int 0, .int x1_32, .ref (ad 110)]) (ci := 10) dX10_writeRecords_56 gX10_writeRecords_X10_sayEntry ⟨rfl, by decide, by decide, by decide +kernel⟩ (by omega) la_110 rfl rfl rfl (by decide) rfl rfl (Nat.le_of_ble_eq_true rfl) (by decide) h (fun r5 m6 h => ?_)
              show V 0 59 [(0, .ref (ad 110)), (1, .int x1_32)] [] m6
              exact hk59 m6 h
      refine r_sub C [1, 0] (show _ = [(0, .ref (ad 110)), (1, .int 0)] from rfl) ?_
      exact L32 5000 0 m2 h
    · skip
      refine r_iconst C (v := 0) dX10_writeRecords_23 (by decide) ?_
      exact r_iret C dX10_writeRecords_24 rfl h
  refine r_if_eq C (tgt := 12) dX10_writeRecords_5 (by decide) h (fun _ h => ?_) (fun _ h => ?_)
  · skip
    refine r_iconst C (v := 1) dX10_writeRecords_12 (by decide) ?_
    exact hk13 1 h
  · skip
    refine r_iconst C (v := 0) dX10_writeRecords_8 (by decide) ?_
    refine r_goto C (tgt := 13) dX10_writeRecords_9 (by decide) ?_
    exact hk13 0 h
noncomputable def f_X10_outputAt (p1 : Int32) (m : sM) : Option (sR Int32) :=
  s_bd (f_X10_in p1 0 ((m.1 110 23) - 1) m) fun r1 m2 => s_jn (fun (s0_20 : Int32) => s_md (s_up m2 110 0 s0_20) fun m3 => s_jn (fun (s0_40 : Int32) => s_gd (narrow .char (.int s0_40) = .int s0_40) (some (.inl s0_40, m3))) fun k40 => if (m3.1 110 0) ≤ 0 then (s_ix p1 1024 fun j4 => k40 (m3.1 128 j4)) else (k40 0)) fun k20 => if r1 = 0 then (k20 1) else (k20 0)
set_option maxRecDepth 20000 in
set_option maxHeartbeats 4000000 in
theorem c_X10_outputAt (nw : Nat) (hnw : 29 ≤ nw) (p1 : Int32) : s_Con s_i 110 nw yX10_outputAt wsX10_outputAt 14 185 0 (f_X10_outputAt p1) (fun ad => [.ref (ad 110), .int p1]) := by
  refine s_con_of cX10_outputAt 2 (some .char) RX10 (by decide) rfl rfl (fun _ => Nat.le_of_ble_eq_true rfl) (fun ad m res V C h => ?_)
  unfold f_X10_outputAt at h
  have F_i10 : ∀ w ∈ wsX100, w ∈ wsX10_outputAt := by decide +kernel
  have F_k195 : Cond.fieldLink RX10 195 "ShadowFileModel" "written" "I" ∈ wsX10_outputAt := by decide +kernel
  have F_k100 : Cond.fieldLink RX10 100 "ShadowFileModel" "thrown" "I" ∈ wsX10_outputAt := by decide +kernel
  have F_k63 : Cond.fieldLink RX10 63 "ShadowFileModel" "output" "[C" ∈ wsX10_outputAt := by decide +kernel
  show V 0 0 [(0, .ref (ad 110)), (1, .int p1)] [] m
  refine r_aload_n C dX10_outputAt_0 rfl 0 rfl ?_
  refine r_iload_n C dX10_outputAt_1 rfl 1 rfl ?_
  refine r_iconst C (v := 0) dX10_outputAt_2 (by decide) ?_
  refine r_aload_n C dX10_outputAt_3 rfl 0 rfl ?_
  refine r_geti C (ci := 10) (k9 := 23) dX10_outputAt_4 rfl F_i10 (by decide) F_k195 (by omega) la_110 rfl ?_
  refine r_iconst C (v := 1) dX10_outputAt_7 (by decide) ?_
  refine r_isub C dX10_outputAt_8 ?_
  refine r_callS C (c_X10_in nw hnw p1 0 ((m.1 110 23) - 1)) (As := [.int p1, .int 0, .int ((m.1 110 23) - 1)]) (nn := 3) (stk := [.int ((m.1 110 23) - 1), .int 0, .int p1, .ref (ad 110)]) dX10_outputAt_9 gX10_outputAt_X10_in ⟨by decide, by decide, by decide +kernel⟩ rfl rfl (by decide) rfl rfl (Nat.le_of_ble_eq_true rfl) (by decide) h (fun r1 m2 h => ?_)
  show V 0 12 [(0, .ref (ad 110)), (1, .int p1)] [.int r1, .ref (ad 110)] m2
  refine s_join h (fun k20 => ∀ (s0_20 : Int32), k20 s0_20 = some res → V 0 20 [(0, .ref (ad 110)), (1, .int p1)] [.int s0_20, .ref (ad 110)] m2) ?_ (fun k20 hk20 h => ?_)
  · intro s0_20 h
    refine r_puti C (ci := 10) (k9 := 0) dX10_outputAt_20 rfl F_i10 (by decide) F_k100 (by omega) la_110 rfl tyX10 tyX10_ok nmX10 rfl (tyX10_ok 0 (by decide)) rfl rfl h (fun m3 _ h => ?_)
    refine r_aload_n C dX10_outputAt_23 rfl 0 rfl ?_
    refine r_geti C (ci := 10) (k9 := 0) dX10_outputAt_24 rfl F_i10 (by decide) F_k100 (by omega) la_110 rfl ?_
    refine s_join h (fun k40 => ∀ (s0_40 : Int32), k40 s0_40 = some res → V 0 40 [] [.int s0_40] m3) ?_ (fun k40 hk40 h => ?_)
    · intro s0_40 h
      obtain ⟨hg, h⟩ := s_gd_of h
      exact r_zret C dX10_outputAt_40 rfl hg h
    refine r_if_le C (tgt := 34) dX10_outputAt_27 (by decide) h (fun _ h => ?_) (fun _ h => ?_)
    · skip
      refine r_aload_n C dX10_outputAt_34 rfl 0 rfl ?_
      refine r_getr C (ci := 10) (k9 := 22) dX10_outputAt_35 rfl F_i10 (by decide) F_k63 (by omega) la_110 rfl ?_
      refine r_iload_n C dX10_outputAt_38 rfl 1 rfl ?_
      refine r_cald C dX10_outputAt_39 (by omega) la_128 h (fun j4 hj4 h => ?_)
      refine r_sub C [] (show _ = [] from rfl) ?_
      exact hk40 (m3.1 128 j4) h
    · skip
      refine r_iconst C (v := 0) dX10_outputAt_30 (by decide) ?_
      refine r_goto C (tgt := 40) dX10_outputAt_31 (by decide) ?_
      refine r_sub C [] (show _ = [] from rfl) ?_
      exact hk40 0 h
  refine r_if_eq C (tgt := 19) dX10_outputAt_12 (by decide) h (fun _ h => ?_) (fun _ h => ?_)
  · skip
    refine r_iconst C (v := 1) dX10_outputAt_19 (by decide) ?_
    exact hk20 1 h
  · skip
    refine r_iconst C (v := 0) dX10_outputAt_15 (by decide) ?_
    refine r_goto C (tgt := 20) dX10_outputAt_16 (by decide) ?_
    exact hk20 0 h
noncomputable def f_X10_combine_L55 (y1_55 : Int32) (e132_55 : sM → Option (sR Unit)) : Nat → Int32 → sM → Option (sR Unit)
  | 0, _, _ => none
  | n + 1, x2_55, m55_ =>
    if (m55_.1 110 19) ≤ x2_55 then (e132_55  m55_) else (s_ix x2_55 3 fun j7 => s_ix ((64 * (m55_.1 126 j7)) + y1_55) 192 fun j8 => s_jn (fun (m126_ : sM) => f_X10_combine_L55 y1_55 e132_55 n (x2_55 + 1) m126_) fun k126 => if (m55_.1 119 j8) = 0 then (k126  m55_) else (s_ix ((64 * (m55_.1 126 j7)) + y1_55) 192 fun j9 => s_jn (fun (s0_103 : Int32) => s_ix y1_55 64 fun j10 => s_md (s_up m55_ 136 j10 (vp_nar .boolean s0_103)) fun m11 => s_ix ((64 * (m55_.1 126 j7)) + y1_55) 192 fun j12 => s_ix y1_55 64 fun j13 => s_md (s_up m11 137 j13 (m11.1 121 j12)) fun m14 => s_ix (y1_55 - y1_55 / 8 * 8) 8 fun j15 => s_md (s_up m14 135 j15 (vp_nar .boolean 1)) fun m16 => k126  m16) fun k103 => if (m55_.1 120 j9) = 0 then (k103 1) else (k103 0)))
noncomputable def f_X10_combine_L23 (e138_23 : sM → Option (sR Unit)) : Nat → Int32 → sM → Option (sR Unit)
  | 0, _, _ => none
  | n + 1, x1_23, m23_ =>
    if 64 ≤ x1_23 then (e138_23  m23_) else (s_ix x1_23 192 fun j1 => s_ix x1_23 64 fun j2 => s_md (s_up m23_ 136 j2 (vp_nar .boolean (m23_.1 115 j1))) fun m3 => s_ix x1_23 192 fun j4 => s_ix x1_23 64 fun j5 => s_md (s_up m3 137 j5 (m3.1 116 j4)) fun m6 => s_jn (fun (m132_ : sM) => f_X10_combine_L23 e138_23 n (x1_23 + 1) m132_) fun e132_55 => f_X10_combine_L55 x1_23 e132_55 5000 0 m6)
noncomputable def f_X10_combine_L2 (e21_2 : sM → Option (sR Unit)) : Nat → Int32 → sM → Option (sR Unit)
  | 0, _, _ => none
  | n + 1, x1_2, m2_ =>
    if 8 ≤ x1_2 then (e21_2  m2_) else (s_ix x1_2 8 fun j17 => s_md (s_up m2_ 135 j17 (vp_nar .boolean 0)) fun m18 => f_X10_combine_L2 e21_2 n (x1_2 + 1) m18)
noncomputable def f_X10_combine (m : sM) : Option (sR Unit) :=
  s_jn (fun (m21_ : sM) => s_jn (fun (m138_ : sM) => some (.inl (), m138_)) fun e138_23 => f_X10_combine_L23 e138_23 5000 0 m21_) fun e21_2 => f_X10_combine_L2 e21_2 5000 0 m
set_option maxRecDepth 20000 in
set_option maxHeartbeats 4000000 in
theorem c_X10_combine (nw : Nat) (hnw : 29 ≤ nw) : s_Con s_u 110 nw yX10_combine wsX10_combine 12 140 0 (f_X10_combine) (fun ad => [.ref (ad 110)]) := by
  refine s_con_of cX10_combine 4 none RX10 (by decide) rfl rfl (fun _ => Nat.le_of_ble_eq_true rfl) (fun ad m res V C h => ?_)
  unfold f_X10_combine at h
  have F_i10 : ∀ w ∈ wsX100, w ∈ wsX10_combine := by decide +kernel
  have F_k87 : Cond.fieldLink RX10 87 "ShadowFileModel" "newHas" "[Z" ∈ wsX10_combine := by decide +kernel
  have F_k22 : Cond.fieldLink RX10 22 "ShadowFileModel" "has" "[Z" ∈ wsX10_combine := by decide +kernel
  have F_k90 : Cond.fieldLink RX10 90 "ShadowFileModel" "newValues" "[I" ∈ wsX10_combine := by decide +kernel
  have F_k26 : Cond.fieldLink RX10 26 "ShadowFileModel" "values" "[I" ∈ wsX10_combine := by decide +kernel
  have F_k133 : Cond.fieldLink RX10 133 "ShadowFileModel" "ready" "I" ∈ wsX10_combine := by decide +kernel
  have F_k56 : Cond.fieldLink RX10 56 "ShadowFileModel" "order" "[I" ∈ wsX10_combine := by decide +kernel
  have F_k35 : Cond.fieldLink RX10 35 "ShadowFileModel" "changes" "[Z" ∈ wsX10_combine := by decide +kernel
  have F_k38 : Cond.fieldLink RX10 38 "ShadowFileModel" "removes" "[Z" ∈ wsX10_combine := by decide +kernel
  have F_k41 : Cond.fieldLink RX10 41 "ShadowFileModel" "changed" "[I" ∈ wsX10_combine := by decide +kernel
  have F_k84 : Cond.fieldLink RX10 84 "ShadowFileModel" "isAffected" "[Z" ∈ wsX10_combine := by decide +kernel
  show V 0 0 [(0, .ref (ad 110))] [] m
  refine r_iconst C (v := 0) dX10_combine_0 (by decide) ?_
  refine r_istore_n C dX10_combine_1 rfl (by decide) (show _ = [(1, .int 0), (0, .ref (ad 110))] from rfl) ?_
  refine s_join h (fun e21_2 => ∀ (m21_ : sM), e21_2 m21_ = some res → V 0 21 [(0, .ref (ad 110))] [] m21_) ?_ (fun e21_2 he21_2 h => ?_)
  · intro m21_ h
    refine r_iconst C (v := 0) dX10_combine_21 (by decide) ?_
    refine r_istore_n C dX10_combine_22 rfl (by decide) (show _ = [(1, .int 0), (0, .ref (ad 110))] from rfl) ?_
    refine s_join h (fun e138_23 => ∀ (m138_ : sM), e138_23 m138_ = some res → V 0 138 [] [] m138_) ?_ (fun e138_23 he138_23 h => ?_)
    · intro m138_ h
      exact r_vret C dX10_combine_138 rfl h
    have L23 : ∀ (n : Nat) (x1_23 : Int32) (m23_ : sM), f_X10_combine_L23 e138_23 n x1_23 m23_ = some res → V 0 23 [(0, .ref (ad 110)), (1, .int x1_23)] [] m23_ := by
      intro n
      induction n with
      | zero => intro x1_23 m23_ h; rw [f_X10_combine_L23] at h; cases h
      | succ n ih =>
        intro x1_23 m23_ h
        rw [f_X10_combine_L23] at h
        refine r_iload_n C dX10_combine_23 rfl 1 rfl ?_
        refine r_bipush C (v := 64) dX10_combine_24 (by decide) ?_
        refine r_icmp_ge C (tgt := 138) dX10_combine_26 (by decide) h (fun _ h => ?_) (fun _ h => ?_)
        · skip
          refine r_sub C [] (show _ = [] from rfl) ?_
          exact he138_23 m23_ h
        · skip
          refine r_aload_n C dX10_combine_29 rfl 0 rfl ?_
          refine r_getr C (ci := 10) (k9 := 34) dX10_combine_30 rfl F_i10 (by decide) F_k87 (by omega) la_110 rfl ?_
          refine r_iload_n C dX10_combine_33 rfl 1 rfl ?_
          refine r_aload_n C dX10_combine_34 rfl 0 rfl ?_
          refine r_getr C (ci := 10) (k9 := 7) dX10_combine_35 rfl F_i10 (by decide) F_k22 (by omega) la_110 rfl ?_
          refine r_iload_n C dX10_combine_38 rfl 1 rfl ?_
          refine r_zald C dX10_combine_39 (by omega) la_115 h (fun j1 hj1 h => ?_)
          refine r_zast C dX10_combine_40 (by omega) la_136 h (fun j2 m3 hj2 _ h => ?_)
          refine r_aload_n C dX10_combine_41 rfl 0 rfl ?_
          refine r_getr C (ci := 10) (k9 := 35) dX10_combine_42 rfl F_i10 (by decide) F_k90 (by omega) la_110 rfl ?_
          refine r_iload_n C dX10_combine_45 rfl 1 rfl ?_
          refine r_aload_n C dX10_combine_46 rfl 0 rfl ?_
          refine r_getr C (ci := 10) (k9 := 8) dX10_combine_47 rfl F_i10 (by decide) F_k26 (by omega) la_110 rfl ?_
          refine r_iload_n C dX10_combine_50 rfl 1 rfl ?_
          refine r_iald C dX10_combine_51 (by omega) la_116 h (fun j4 hj4 h => ?_)
          refine r_iast C dX10_combine_52 (by omega) la_137 h (fun j5 m6 hj5 _ h => ?_)
          refine r_iconst C (v := 0) dX10_combine_53 (by decide) ?_
          refine r_istore_n C dX10_combine_54 rfl (by decide) (show _ = [(2, .int 0), (0, .ref (ad 110)), (1, .int x1_23)] from rfl) ?_
          refine s_join h (fun e132_55 => ∀ (m132_ : sM), e132_55 m132_ = some res → V 0 132 [(0, .ref (ad 110)), (1, .int x1_23)] [] m132_) ?_ (fun e132_55 he132_55 h => ?_)
          · intro m132_ h
            refine r_iinc C (v := x1_23 + 1) dX10_combine_132 1 rfl rfl (by decide) (show _ = [(1, .int (x1_23 + 1)), (0, .ref (ad 110))] from rfl) ?_
            refine r_goto C (tgt := 23) dX10_combine_135 (by decide) ?_
            refine r_sub C [1, 0] (show _ = [(0, .ref (ad 110)), (1, .int (x1_23 + 1))] from rfl) ?_
            exact ih (x1_23 + 1) m132_ h
          have L55 : ∀ (n : Nat) (x2_55 : Int32) (m55_ : sM), f_X10_combine_L55 x1_23 e132_55 n x2_55 m55_ = some res → V 0 55 [(0, .ref (ad 110)), (1, .int x1_23), (2, .int x2_55)] [] m55_ := by
            intro n
            induction n with
            | zero => intro x2_55 m55_ h; rw [f_X10_combine_L55] at h; cases h
            | succ n ih =>
              intro x2_55 m55_ h
              rw [f_X10_combine_L55] at h
              refine r_iload_n C dX10_combine_55 rfl 2 rfl ?_
              refine r_aload_n C dX10_combine_56 rfl 0 rfl ?_
              refine r_geti C (ci := 10) (k9 := 19) dX10_combine_57 rfl F_i10 (by decide) F_k133 (by omega) la_110 rfl ?_
              refine r_icmp_ge C (tgt := 132) dX10_combine_60 (by decide) h (fun _ h => ?_) (fun _ h => ?_)
              · skip
                refine r_sub C [0, 1] (show _ = [(0, .ref (ad 110)), (1, .int x1_23)] from rfl) ?_
                exact he132_55 m55_ h
              · skip
                refine r_bipush C (v := 64) dX10_combine_63 (by decide) ?_
                refine r_aload_n C dX10_combine_65 rfl 0 rfl ?_
                refine r_getr C (ci := 10) (k9 := 18) dX10_combine_66 rfl F_i10 (by decide) F_k56 (by omega) la_110 rfl ?_
                refine r_iload_n C dX10_combine_69 rfl 2 rfl ?_
                refine r_iald C dX10_combine_70 (by omega) la_126 h (fun j7 hj7 h => ?_)
                refine r_imul C dX10_combine_71 ?_
                refine r_iload_n C dX10_combine_72 rfl 1 rfl ?_
                refine r_iadd C dX10_combine_73 ?_
                refine r_istore_n C dX10_combine_74 rfl (by decide) (show _ = [(3, .int ((64 * (m55_.1 126 j7)) + x1_23)), (0, .ref (ad 110)), (1, .int x1_23), (2, .int x2_55)] from rfl) ?_
                refine r_aload_n C dX10_combine_75 rfl 1 rfl ?_
                refine r_getr C (ci := 10) (k9 := 11) dX10_combine_76 rfl F_i10 (by decide) F_k35 (by omega) la_110 rfl ?_
                refine r_iload_n C dX10_combine_79 rfl 0 rfl ?_
                refine r_zald C dX10_combine_80 (by omega) la_119 h (fun j8 hj8 h => ?_)
                refine s_join h (fun k126 => ∀ (m126_ : sM), k126 m126_ = some res → V 0 126 [(0, .ref (ad 110)), (1, .int x1_23), (2, .int x2_55)] [] m126_) ?_ (fun k126 hk126 h => ?_)
                · intro m126_ h
                  refine r_iinc C (v := x2_55 + 1) dX10_combine_126 2 rfl rfl (by decide) (show _ = [(2, .int (x2_55 + 1)), (0, .ref (ad 110)), (1, .int x1_23)] from rfl) ?_
                  refine r_goto C (tgt := 55) dX10_combine_129 (by decide) ?_
                  refine r_sub C [1, 2, 0] (show _ = [(0, .ref (ad 110)), (1, .int x1_23), (2, .int (x2_55 + 1))] from rfl) ?_
                  exact ih (x2_55 + 1) m126_ h
                refine r_if_eq C (tgt := 126) dX10_combine_81 (by decide) h (fun _ h => ?_) (fun _ h => ?_)
                · skip
                  refine r_sub C [1, 2, 3] (show _ = [(0, .ref (ad 110)), (1, .int x1_23), (2, .int x2_55)] from rfl) ?_
                  exact hk126 m55_ h
                · skip
                  refine r_aload_n C dX10_combine_84 rfl 1 rfl ?_
                  refine r_getr C (ci := 10) (k9 := 34) dX10_combine_85 rfl F_i10 (by decide) F_k87 (by omega) la_110 rfl ?_
                  refine r_iload_n C dX10_combine_88 rfl 2 rfl ?_
                  refine r_aload_n C dX10_combine_89 rfl 1 rfl ?_
                  refine r_getr C (ci := 10) (k9 := 12) dX10_combine_90 rfl F_i10 (by decide) F_k38 (by omega) la_110 rfl ?_
                  refine r_iload_n C dX10_combine_93 rfl 0 rfl ?_
                  refine r_zald C dX10_combine_94 (by omega) la_120 h (fun j9 hj9 h => ?_)
                  refine s_join h (fun k103 => ∀ (s0_103 : Int32), k103 s0_103 = some res → V 0 103 [(0, .ref (ad 110)), (1, .int x1_23), (2, .int x2_55), (3, .int ((64 * (m55_.1 126 j7)) + x1_23))] [.int s0_103, .int x1_23, .ref (ad 136)] m55_) ?_ (fun k103 hk103 h => ?_)
                  · intro s0_103 h
                    refine r_zast C dX10_combine_103 (by omega) la_136 h (fun j10 m11 hj10 _ h => ?_)
                    refine r_aload_n C dX10_combine_104 rfl 0 rfl ?_
                    refine r_getr C (ci := 10) (k9 := 35) dX10_combine_105 rfl F_i10 (by decide) F_k90 (by omega) la_110 rfl ?_
                    refine r_iload_n C dX10_combine_108 rfl 1 rfl ?_
                    refine r_aload_n C dX10_combine_109 rfl 0 rfl ?_
                    refine r_getr C (ci := 10) (k9 := 13) dX10_combine_110 rfl F_i10 (by decide) F_k41 (by omega) la_110 rfl ?_
                    refine r_iload_n C dX10_combine_113 rfl 3 rfl ?_
                    refine r_iald C dX10_combine_114 (by omega) la_121 h (fun j12 hj12 h => ?_)
                    refine r_iast C dX10_combine_115 (by omega) la_137 h (fun j13 m14 hj13 _ h => ?_)
                    refine r_aload_n C dX10_combine_116 rfl 0 rfl ?_
                    refine r_getr C (ci := 10) (k9 := 33) dX10_combine_117 rfl F_i10 (by decide) F_k84 (by omega) la_110 rfl ?_
                    refine r_iload_n C dX10_combine_120 rfl 1 rfl ?_
                    refine r_bipush C (v := 8) dX10_combine_121 (by decide) ?_
                    refine r_irem C dX10_combine_123 (by decide) ?_
                    refine r_iconst C (v := 1) dX10_combine_124 (by decide) ?_
                    refine r_zast C dX10_combine_125 (by omega) la_135 h (fun j15 m16 hj15 _ h => ?_)
                    refine r_sub C [0, 1, 2] (show _ = [(0, .ref (ad 110)), (1, .int x1_23), (2, .int x2_55)] from rfl) ?_
                    exact hk126 m16 h
                  refine r_if_ne C (tgt := 102) dX10_combine_95 (by decide) h (fun _ h => ?_) (fun _ h => ?_)
                  · skip
                    refine r_iconst C (v := 1) dX10_combine_98 (by decide) ?_
                    refine r_goto C (tgt := 103) dX10_combine_99 (by decide) ?_
                    refine r_sub C [1, 2, 3, 0] (show _ = [(0, .ref (ad 110)), (1, .int x1_23), (2, .int x2_55), (3, .int ((64 * (m55_.1 126 j7)) + x1_23))] from rfl) ?_
                    exact hk103 1 h
                  · skip
                    refine r_iconst C (v := 0) dX10_combine_102 (by decide) ?_
                    refine r_sub C [1, 2, 3, 0] (show _ = [(0, .ref (ad 110)), (1, .int x1_23), (2, .int x2_55), (3, .int ((64 * (m55_.1 126 j7)) + x1_23))] from rfl) ?_
                    exact hk103 0 h
          refine r_sub C [1, 2, 0] (show _ = [(0, .ref (ad 110)), (1, .int x1_23), (2, .int 0)] from rfl) ?_
          exact L55 5000 0 m6 h
    refine r_sub C [1, 0] (show _ = [(0, .ref (ad 110)), (1, .int 0)] from rfl) ?_
    exact L23 5000 0 m21_ h
  have L2 : ∀ (n : Nat) (x1_2 : Int32) (m2_ : sM), f_X10_combine_L2 e21_2 n x1_2 m2_ = some res → V 0 2 [(0, .ref (ad 110)), (1, .int x1_2)] [] m2_ := by
    intro n
    induction n with
    | zero => intro x1_2 m2_ h; rw [f_X10_combine_L2] at h; cases h
    | succ n ih =>
      intro x1_2 m2_ h
      rw [f_X10_combine_L2] at h
      refine r_iload_n C dX10_combine_2 rfl 1 rfl ?_
      refine r_bipush C (v := 8) dX10_combine_3 (by decide) ?_
      refine r_icmp_ge C (tgt := 21) dX10_combine_5 (by decide) h (fun _ h => ?_) (fun _ h => ?_)
      · skip
        refine r_sub C [0] (show _ = [(0, .ref (ad 110))] from rfl) ?_
        exact he21_2 m2_ h
      · skip
        refine r_aload_n C dX10_combine_8 rfl 0 rfl ?_
        refine r_getr C (ci := 10) (k9 := 33) dX10_combine_9 rfl F_i10 (by decide) F_k84 (by omega) la_110 rfl ?_
        refine r_iload_n C dX10_combine_12 rfl 1 rfl ?_
        refine r_iconst C (v := 0) dX10_combine_13 (by decide) ?_
        refine r_zast C dX10_combine_14 (by omega) la_135 h (fun j17 m18 hj17 _ h => ?_)
        refine r_iinc C (v := x1_2 + 1) dX10_combine_15 1 rfl rfl (by decide) (show _ = [(1, .int (x1_2 + 1)), (0, .ref (ad 110))] from rfl) ?_
        refine r_goto C (tgt := 2) dX10_combine_18 (by decide) ?_
        refine r_sub C [1, 0] (show _ = [(0, .ref (ad 110)), (1, .int (x1_2 + 1))] from rfl) ?_
        exact ih (x1_2 + 1) m18 h
  refine r_sub C [1, 0] (show _ = [(0, .ref (ad 110)), (1, .int 0)] from rfl) ?_
  exact L2 5000 0 m h
noncomputable def f_X10_isNewPage_L4 (y1_4 : Int32) (m : sM) (e35_4 : Int32 → Option (sR Int32)) : Nat → Int32 → Int32 → Option (sR Int32)
  | 0, _, _ => none
  | n + 1, x2_4, x3_4 =>
    if 64 ≤ x3_4 then (e35_4 x2_4) else (s_jn (fun (s0_28 : Int32) => f_X10_isNewPage_L4 y1_4 m e35_4 n s0_28 (x3_4 + 8)) fun k28 => s_jn (k28 1) fun k23 => if x2_4 = 0 then (s_ix x3_4 64 fun j2 => if (m.1 136 j2) = 0 then (k28 0) else (k23)) else (k23))
noncomputable def f_X10_isNewPage (p1 : Int32) (m : sM) : Option (sR Int32) :=
  s_jn (fun (x2_35 : Int32) => s_ix p1 8 fun j1 => s_jn (fun (s0_53 : Int32) => s_gd (s0_53 = 0 ∨ s0_53 = 1) (some (.inl s0_53, m))) fun k53 => s_jn (k53 0) fun k52 => if (m.1 135 j1) = 0 then (k52) else (if x2_35 = 0 then (k52) else (k53 1))) fun e35_4 => f_X10_isNewPage_L4 p1 m e35_4 5000 0 p1
set_option maxRecDepth 20000 in
set_option maxHeartbeats 4000000 in
theorem c_X10_isNewPage (nw : Nat) (hnw : 29 ≤ nw) (p1 : Int32) : s_Con s_i 110 nw yX10_isNewPage wsX10_isNewPage 12 140 0 (f_X10_isNewPage p1) (fun ad => [.ref (ad 110), .int p1]) := by
  refine s_con_of cX10_isNewPage 4 (some .boolean) RX10 (by decide) rfl rfl (fun _ => Nat.le_of_ble_eq_true rfl) (fun ad m res V C h => ?_)
  unfold f_X10_isNewPage at h
  have F_i10 : ∀ w ∈ wsX100, w ∈ wsX10_isNewPage := by decide +kernel
  have F_k84 : Cond.fieldLink RX10 84 "ShadowFileModel" "isAffected" "[Z" ∈ wsX10_isNewPage := by decide +kernel
  have F_k87 : Cond.fieldLink RX10 87 "ShadowFileModel" "newHas" "[Z" ∈ wsX10_isNewPage := by decide +kernel
  show V 0 0 [(0, .ref (ad 110)), (1, .int p1)] [] m
  refine r_iconst C (v := 0) dX10_isNewPage_0 (by decide) ?_
  refine r_istore_n C dX10_isNewPage_1 rfl (by decide) (show _ = [(2, .int 0), (0, .ref (ad 110)), (1, .int p1)] from rfl) ?_
  refine r_iload_n C dX10_isNewPage_2 rfl 2 rfl ?_
  refine r_istore_n C dX10_isNewPage_3 rfl (by decide) (show _ = [(3, .int p1), (2, .int 0), (0, .ref (ad 110)), (1, .int p1)] from rfl) ?_
  refine s_join h (fun e35_4 => ∀ (x2_35 : Int32), e35_4 x2_35 = some res → V 0 35 [(0, .ref (ad 110)), (1, .int p1), (2, .int x2_35)] [] m) ?_ (fun e35_4 he35_4 h => ?_)
  · intro x2_35 h
    refine r_aload_n C dX10_isNewPage_35 rfl 0 rfl ?_
    refine r_getr C (ci := 10) (k9 := 33) dX10_isNewPage_36 rfl F_i10 (by decide) F_k84 (by omega) la_110 rfl ?_
    refine r_iload_n C dX10_isNewPage_39 rfl 1 rfl ?_
    refine r_zald C dX10_isNewPage_40 (by omega) la_135 h (fun j1 hj1 h => ?_)
    refine s_join h (fun k53 => ∀ (s0_53 : Int32), k53 s0_53 = some res → V 0 53 [] [.int s0_53] m) ?_ (fun k53 hk53 h => ?_)
    · intro s0_53 h
      obtain ⟨hg, h⟩ := s_gd_of h
      exact r_zret C dX10_isNewPage_53 rfl (s_z hg) h
    refine s_join h (fun k52 => k52  = some res → V 0 52 [] [] m) ?_ (fun k52 hk52 h => ?_)
    · intro  h
      refine r_iconst C (v := 0) dX10_isNewPage_52 (by decide) ?_
      exact hk53 0 h
    refine r_if_eq C (tgt := 52) dX10_isNewPage_41 (by decide) h (fun _ h => ?_) (fun _ h => ?_)
    · skip
      refine r_sub C [] (show _ = [] from rfl) ?_
      exact hk52 h
    · skip
      refine r_iload_n C dX10_isNewPage_44 rfl 2 rfl ?_
      refine r_if_eq C (tgt := 52) dX10_isNewPage_45 (by decide) h (fun _ h => ?_) (fun _ h => ?_)
      · skip
        refine r_sub C [] (show _ = [] from rfl) ?_
        exact hk52 h
      · skip
        refine r_iconst C (v := 1) dX10_isNewPage_48 (by decide) ?_
        refine r_goto C (tgt := 53) dX10_isNewPage_49 (by decide) ?_
        refine r_sub C [] (show _ = [] from rfl) ?_
        exact hk53 1 h
  have L4 : ∀ (n : Nat) (x2_4 : Int32) (x3_4 : Int32), f_X10_isNewPage_L4 p1 m e35_4 n x2_4 x3_4 = some res → V 0 4 [(0, .ref (ad 110)), (1, .int p1), (2, .int x2_4), (3, .int x3_4)] [] m := by
    intro n
    induction n with
    | zero => intro x2_4 x3_4 h; rw [f_X10_isNewPage_L4] at h; cases h
    | succ n ih =>
      intro x2_4 x3_4 h
      rw [f_X10_isNewPage_L4] at h
      refine r_iload_n C dX10_isNewPage_4 rfl 3 rfl ?_
      refine r_bipush C (v := 64) dX10_isNewPage_5 (by decide) ?_
      refine r_icmp_ge C (tgt := 35) dX10_isNewPage_7 (by decide) h (fun _ h => ?_) (fun _ h => ?_)
      · skip
        refine r_sub C [0, 1, 2] (show _ = [(0, .ref (ad 110)), (1, .int p1), (2, .int x2_4)] from rfl) ?_
        exact he35_4 x2_4 h
      · skip
        refine r_iload_n C dX10_isNewPage_10 rfl 2 rfl ?_
        refine s_join h (fun k28 => ∀ (s0_28 : Int32), k28 s0_28 = some res → V 0 28 [(0, .ref (ad 110)), (1, .int p1), (3, .int x3_4)] [.int s0_28] m) ?_ (fun k28 hk28 h => ?_)
        · intro s0_28 h
          refine r_istore_n C dX10_isNewPage_28 rfl (by decide) (show _ = [(2, .int s0_28), (0, .ref (ad 110)), (1, .int p1), (3, .int x3_4)] from rfl) ?_
          refine r_iinc C (v := x3_4 + 8) dX10_isNewPage_29 3 rfl rfl (by decide) (show _ = [(3, .int (x3_4 + 8)), (2, .int s0_28), (0, .ref (ad 110)), (1, .int p1)] from rfl) ?_
          refine r_goto C (tgt := 4) dX10_isNewPage_32 (by decide) ?_
          refine r_sub C [2, 3, 1, 0] (show _ = [(0, .ref (ad 110)), (1, .int p1), (2, .int s0_28), (3, .int (x3_4 + 8))] from rfl) ?_
          exact ih s0_28 (x3_4 + 8) h
        refine s_join h (fun k23 => k23  = some res → V 0 23 [(0, .ref (ad 110)), (1, .int p1), (3, .int x3_4)] [] m) ?_ (fun k23 hk23 h => ?_)
        · intro  h
          refine r_iconst C (v := 1) dX10_isNewPage_23 (by decide) ?_
          refine r_goto C (tgt := 28) dX10_isNewPage_24 (by decide) ?_
          exact hk28 1 h
        refine r_if_ne C (tgt := 23) dX10_isNewPage_11 (by decide) h (fun _ h => ?_) (fun _ h => ?_)
        · skip
          refine r_aload_n C dX10_isNewPage_14 rfl 0 rfl ?_
          refine r_getr C (ci := 10) (k9 := 34) dX10_isNewPage_15 rfl F_i10 (by decide) F_k87 (by omega) la_110 rfl ?_
          refine r_iload_n C dX10_isNewPage_18 rfl 3 rfl ?_
          refine r_zald C dX10_isNewPage_19 (by omega) la_136 h (fun j2 hj2 h => ?_)
          refine r_if_eq C (tgt := 27) dX10_isNewPage_20 (by decide) h (fun _ h => ?_) (fun _ h => ?_)
          · skip
            refine r_iconst C (v := 0) dX10_isNewPage_27 (by decide) ?_
            refine r_sub C [0, 1, 3] (show _ = [(0, .ref (ad 110)), (1, .int p1), (3, .int x3_4)] from rfl) ?_
            exact hk28 0 h
          · skip
            refine r_sub C [0, 1, 3] (show _ = [(0, .ref (ad 110)), (1, .int p1), (3, .int x3_4)] from rfl) ?_
            exact hk23 h
        · skip
          refine r_sub C [0, 1, 3] (show _ = [(0, .ref (ad 110)), (1, .int p1), (3, .int x3_4)] from rfl) ?_
          exact hk23 h
  refine r_sub C [2, 3, 1, 0] (show _ = [(0, .ref (ad 110)), (1, .int p1), (2, .int 0), (3, .int p1)] from rfl) ?_
  exact L4 5000 0 p1 h
noncomputable def f_X10_pagesToWrite_L8 (e36_8 : Int32 → sM → Option (sR Int32)) : Nat → Int32 → Int32 → sM → Option (sR Int32)
  | 0, _, _, _ => none
  | n + 1, x1_8, x2_8, m8_ =>
    if 8 ≤ x2_8 then (e36_8 x1_8 m8_) else (s_bd (f_X10_isNewPage x2_8 m8_) fun r3 m4 => s_jn (fun (s0_28 : Int32) => f_X10_pagesToWrite_L8 e36_8 n (x1_8 + s0_28) (x2_8 + 1) m4) fun k28 => if r3 = 0 then (k28 0) else (k28 1))
noncomputable def f_X10_pagesToWrite (m : sM) : Option (sR Int32) :=
  s_bd (f_X10_combine m) fun r1 m2 => s_jn (fun (x1_36 : Int32) (m36_ : sM) => some (.inl x1_36, m36_)) fun e36_8 => f_X10_pagesToWrite_L8 e36_8 5000 0 0 m2
set_option maxRecDepth 20000 in
set_option maxHeartbeats 4000000 in
theorem c_X10_pagesToWrite (nw : Nat) (hnw : 29 ≤ nw) : s_Con s_i 110 nw yX10_pagesToWrite wsX10_pagesToWrite 14 185 0 (f_X10_pagesToWrite) (fun ad => [.ref (ad 110)]) := by
  refine s_con_of cX10_pagesToWrite 3 (some .int) RX10 (by decide) rfl rfl (fun _ => Nat.le_of_ble_eq_true rfl) (fun ad m res V C h => ?_)
  unfold f_X10_pagesToWrite at h
  show V 0 0 [(0, .ref (ad 110))] [] m
  refine r_aload_n C dX10_pagesToWrite_0 rfl 0 rfl ?_
  refine r_callV C (c_X10_combine nw hnw) (As := []) (nn := 0) (stk := [.ref (ad 110)]) (ci := 10) dX10_pagesToWrite_1 gX10_pagesToWrite_X10_combine ⟨rfl, by decide, by decide, by decide +kernel⟩ (by omega) la_110 rfl rfl rfl (by decide) rfl rfl (Nat.le_of_ble_eq_true rfl) (by decide) h (fun r1 m2 h => ?_)
  show V 0 4 [(0, .ref (ad 110))] [] m2
  refine r_iconst C (v := 0) dX10_pagesToWrite_4 (by decide) ?_
  refine r_istore_n C dX10_pagesToWrite_5 rfl (by decide) (show _ = [(1, .int 0), (0, .ref (ad 110))] from rfl) ?_
  refine r_iconst C (v := 0) dX10_pagesToWrite_6 (by decide) ?_
  refine r_istore_n C dX10_pagesToWrite_7 rfl (by decide) (show _ = [(2, .int 0), (1, .int 0), (0, .ref (ad 110))] from rfl) ?_
  refine s_join h (fun e36_8 => ∀ (x1_36 : Int32) (m36_ : sM), e36_8 x1_36 m36_ = some res → V 0 36 [(1, .int x1_36)] [] m36_) ?_ (fun e36_8 he36_8 h => ?_)
  · intro x1_36 m36_ h
    refine r_iload_n C dX10_pagesToWrite_36 rfl 0 rfl ?_
    exact r_iret C dX10_pagesToWrite_37 rfl h
  have L8 : ∀ (n : Nat) (x1_8 : Int32) (x2_8 : Int32) (m8_ : sM), f_X10_pagesToWrite_L8 e36_8 n x1_8 x2_8 m8_ = some res → V 0 8 [(0, .ref (ad 110)), (1, .int x1_8), (2, .int x2_8)] [] m8_ := by
    intro n
    induction n with
    | zero => intro x1_8 x2_8 m8_ h; rw [f_X10_pagesToWrite_L8] at h; cases h
    | succ n ih =>
      intro x1_8 x2_8 m8_ h
      rw [f_X10_pagesToWrite_L8] at h
      refine r_iload_n C dX10_pagesToWrite_8 rfl 2 rfl ?_
      refine r_bipush C (v := 8) dX10_pagesToWrite_9 (by decide) ?_
      refine r_icmp_ge C (tgt := 36) dX10_pagesToWrite_11 (by decide) h (fun _ h => ?_) (fun _ h => ?_)
      · skip
        refine r_sub C [1] (show _ = [(1, .int x1_8)] from rfl) ?_
        exact he36_8 x1_8 m8_ h
      · skip
        refine r_iload_n C dX10_pagesToWrite_14 rfl 1 rfl ?_
        refine r_aload_n C dX10_pagesToWrite_15 rfl 0 rfl ?_
        refine r_iload_n C dX10_pagesToWrite_16 rfl 2 rfl ?_
        refine r_callV C (c_X10_isNewPage nw hnw x2_8) (As := [.int x2_8]) (nn := 1) (stk := [.int x2_8, .ref (ad 110), .int x1_8]) (ci := 10) dX10_pagesToWrite_17 gX10_pagesToWrite_X10_isNewPage ⟨rfl, by decide, by decide, by decide +kernel⟩ (by omega) la_110 rfl rfl rfl (by decide) rfl rfl (Nat.le_of_ble_eq_true rfl) (by decide) h (fun r3 m4 h => ?_)
        show V 0 20 [(0, .ref (ad 110)), (1, .int x1_8), (2, .int x2_8)] [.int r3, .int x1_8] m4
        refine s_join h (fun k28 => ∀ (s0_28 : Int32), k28 s0_28 = some res → V 0 28 [(0, .ref (ad 110)), (2, .int x2_8)] [.int s0_28, .int x1_8] m4) ?_ (fun k28 hk28 h => ?_)
        · intro s0_28 h
          refine r_iadd C dX10_pagesToWrite_28 ?_
          refine r_istore_n C dX10_pagesToWrite_29 rfl (by decide) (show _ = [(1, .int (x1_8 + s0_28)), (0, .ref (ad 110)), (2, .int x2_8)] from rfl) ?_
          refine r_iinc C (v := x2_8 + 1) dX10_pagesToWrite_30 2 rfl rfl (by decide) (show _ = [(2, .int (x2_8 + 1)), (1, .int (x1_8 + s0_28)), (0, .ref (ad 110))] from rfl) ?_
          refine r_goto C (tgt := 8) dX10_pagesToWrite_33 (by decide) ?_
          refine r_sub C [2, 1, 0] (show _ = [(0, .ref (ad 110)), (1, .int (x1_8 + s0_28)), (2, .int (x2_8 + 1))] from rfl) ?_
          exact ih (x1_8 + s0_28) (x2_8 + 1) m4 h
        refine r_if_eq C (tgt := 27) dX10_pagesToWrite_20 (by decide) h (fun _ h => ?_) (fun _ h => ?_)
        · skip
          refine r_iconst C (v := 0) dX10_pagesToWrite_27 (by decide) ?_
          refine r_sub C [0, 2] (show _ = [(0, .ref (ad 110)), (2, .int x2_8)] from rfl) ?_
          exact hk28 0 h
        · skip
          refine r_iconst C (v := 1) dX10_pagesToWrite_23 (by decide) ?_
          refine r_goto C (tgt := 28) dX10_pagesToWrite_24 (by decide) ?_
          refine r_sub C [0, 2] (show _ = [(0, .ref (ad 110)), (2, .int x2_8)] from rfl) ?_
          exact hk28 1 h
  refine r_sub C [2, 1, 0] (show _ = [(0, .ref (ad 110)), (1, .int 0), (2, .int 0)] from rfl) ?_
  exact L8 5000 0 0 m2 h
noncomputable def f_X10_blocksToWrite (m : sM) : Option (sR Int32) :=
  s_md (s_up m 110 0 0) fun m1 => s_jn (fun (s0_22 : Int32) (m22_ : sM) => some (.inl s0_22, m22_)) fun k22 => if (m1.1 110 19) = 0 then (k22 0 m1) else (s_bd (f_X10_pagesToWrite m1) fun r2 m3 => k22 (r2 + 2) m3)
set_option maxRecDepth 20000 in
set_option maxHeartbeats 4000000 in
theorem c_X10_blocksToWrite (nw : Nat) (hnw : 29 ≤ nw) : s_Con s_i 110 nw yX10_blocksToWrite wsX10_blocksToWrite 16 230 0 (f_X10_blocksToWrite) (fun ad => [.ref (ad 110)]) := by
  refine s_con_of cX10_blocksToWrite 1 (some .int) RX10 (by decide) rfl rfl (fun _ => Nat.le_of_ble_eq_true rfl) (fun ad m res V C h => ?_)
  unfold f_X10_blocksToWrite at h
  have F_i10 : ∀ w ∈ wsX100, w ∈ wsX10_blocksToWrite := by decide +kernel
  have F_k100 : Cond.fieldLink RX10 100 "ShadowFileModel" "thrown" "I" ∈ wsX10_blocksToWrite := by decide +kernel
  have F_k133 : Cond.fieldLink RX10 133 "ShadowFileModel" "ready" "I" ∈ wsX10_blocksToWrite := by decide +kernel
  show V 0 0 [(0, .ref (ad 110))] [] m
  refine r_aload_n C dX10_blocksToWrite_0 rfl 0 rfl ?_
  refine r_iconst C (v := 0) dX10_blocksToWrite_1 (by decide) ?_
  refine r_puti C (ci := 10) (k9 := 0) dX10_blocksToWrite_2 rfl F_i10 (by decide) F_k100 (by omega) la_110 rfl tyX10 tyX10_ok nmX10 rfl (tyX10_ok 0 (by decide)) rfl rfl h (fun m1 _ h => ?_)
  refine r_aload_n C dX10_blocksToWrite_5 rfl 0 rfl ?_
  refine r_geti C (ci := 10) (k9 := 19) dX10_blocksToWrite_6 rfl F_i10 (by decide) F_k133 (by omega) la_110 rfl ?_
  refine s_join h (fun k22 => ∀ (s0_22 : Int32) (m22_ : sM), k22 s0_22 m22_ = some res → V 0 22 [] [.int s0_22] m22_) ?_ (fun k22 hk22 h => ?_)
  · intro s0_22 m22_ h
    exact r_iret C dX10_blocksToWrite_22 rfl h
  refine r_if_ne C (tgt := 16) dX10_blocksToWrite_9 (by decide) h (fun _ h => ?_) (fun _ h => ?_)
  · skip
    refine r_iconst C (v := 0) dX10_blocksToWrite_12 (by decide) ?_
    refine r_goto C (tgt := 22) dX10_blocksToWrite_13 (by decide) ?_
    refine r_sub C [] (show _ = [] from rfl) ?_
    exact hk22 0 m1 h
  · skip
    refine r_aload_n C dX10_blocksToWrite_16 rfl 0 rfl ?_
    refine r_callV C (c_X10_pagesToWrite nw hnw) (As := []) (nn := 0) (stk := [.ref (ad 110)]) (ci := 10) dX10_blocksToWrite_17 gX10_blocksToWrite_X10_pagesToWrite ⟨rfl, by decide, by decide, by decide +kernel⟩ (by omega) la_110 rfl rfl rfl (by decide) rfl rfl (Nat.le_of_ble_eq_true rfl) (by decide) h (fun r2 m3 h => ?_)
    show V 0 20 [(0, .ref (ad 110))] [.int r2] m3
    refine r_iconst C (v := 2) dX10_blocksToWrite_20 (by decide) ?_
    refine r_iadd C dX10_blocksToWrite_21 ?_
    refine r_sub C [] (show _ = [] from rfl) ?_
    exact hk22 (r2 + 2) m3 h
noncomputable def f_X10_isUsedBy_L19 (y1_19 : Int32) (y2_19 : Int32) (m : sM) (e58_19 : Int32 → Option (sR Int32)) : Nat → Int32 → Int32 → Option (sR Int32)
  | 0, _, _ => none
  | n + 1, x3_19, x4_19 =>
    if 8 ≤ x4_19 then (e58_19 x3_19) else (s_jn (fun (s0_51 : Int32) => f_X10_isUsedBy_L19 y1_19 y2_19 m e58_19 n s0_51 (x4_19 + 1)) fun k51 => s_jn (k51 1) fun k46 => if x3_19 = 0 then (s_ix ((8 * y1_19) + x4_19) 24 fun j2 => if (m.1 114 j2) = y2_19 then (k46) else (k51 0)) else (k46))
noncomputable def f_X10_isUsedBy (p1 : Int32) (p2 : Int32) (m : sM) : Option (sR Int32) :=
  s_ix p1 3 fun j1 => s_jn (fun (s0_15 : Int32) => s_jn (fun (x3_58 : Int32) => s_gd (x3_58 = 0 ∨ x3_58 = 1) (some (.inl x3_58, m))) fun e58_19 => f_X10_isUsedBy_L19 p1 p2 m e58_19 5000 s0_15 0) fun k15 => if (m.1 113 j1) = p2 then (k15 1) else (k15 0)
set_option maxRecDepth 20000 in
set_option maxHeartbeats 4000000 in
theorem c_X10_isUsedBy (nw : Nat) (hnw : 29 ≤ nw) (p1 : Int32) (p2 : Int32) : s_Con s_i 110 nw yX10_isUsedBy wsX10_isUsedBy 12 140 0 (f_X10_isUsedBy p1 p2) (fun ad => [.ref (ad 110), .int p1, .int p2]) := by
  refine s_con_of cX10_isUsedBy 5 (some .boolean) RX10 (by decide) rfl rfl (fun _ => Nat.le_of_ble_eq_true rfl) (fun ad m res V C h => ?_)
  unfold f_X10_isUsedBy at h
  have F_i10 : ∀ w ∈ wsX100, w ∈ wsX10_isUsedBy := by decide +kernel
  have F_k16 : Cond.fieldLink RX10 16 "ShadowFileModel" "tableOf" "[I" ∈ wsX10_isUsedBy := by decide +kernel
  have F_k19 : Cond.fieldLink RX10 19 "ShadowFileModel" "pageOf" "[I" ∈ wsX10_isUsedBy := by decide +kernel
  show V 0 0 [(0, .ref (ad 110)), (1, .int p1), (2, .int p2)] [] m
  refine r_aload_n C dX10_isUsedBy_0 rfl 0 rfl ?_
  refine r_getr C (ci := 10) (k9 := 5) dX10_isUsedBy_1 rfl F_i10 (by decide) F_k16 (by omega) la_110 rfl ?_
  refine r_iload_n C dX10_isUsedBy_4 rfl 1 rfl ?_
  refine r_iald C dX10_isUsedBy_5 (by omega) la_113 h (fun j1 hj1 h => ?_)
  refine r_iload_n C dX10_isUsedBy_6 rfl 2 rfl ?_
  refine s_join h (fun k15 => ∀ (s0_15 : Int32), k15 s0_15 = some res → V 0 15 [(0, .ref (ad 110)), (1, .int p1), (2, .int p2)] [.int s0_15] m) ?_ (fun k15 hk15 h => ?_)
  · intro s0_15 h
    refine r_istore_n C dX10_isUsedBy_15 rfl (by decide) (show _ = [(3, .int s0_15), (0, .ref (ad 110)), (1, .int p1), (2, .int p2)] from rfl) ?_
    refine r_iconst C (v := 0) dX10_isUsedBy_16 (by decide) ?_
    refine r_istore C dX10_isUsedBy_17 (by decide) (show _ = [(4, .int 0), (3, .int s0_15), (0, .ref (ad 110)), (1, .int p1), (2, .int p2)] from rfl) ?_
    refine s_join h (fun e58_19 => ∀ (x3_58 : Int32), e58_19 x3_58 = some res → V 0 58 [(3, .int x3_58)] [] m) ?_ (fun e58_19 he58_19 h => ?_)
    · intro x3_58 h
      refine r_iload_n C dX10_isUsedBy_58 rfl 0 rfl ?_
      obtain ⟨hg, h⟩ := s_gd_of h
      exact r_zret C dX10_isUsedBy_59 rfl (s_z hg) h
    have L19 : ∀ (n : Nat) (x3_19 : Int32) (x4_19 : Int32), f_X10_isUsedBy_L19 p1 p2 m e58_19 n x3_19 x4_19 = some res → V 0 19 [(0, .ref (ad 110)), (1, .int p1), (2, .int p2), (3, .int x3_19), (4, .int x4_19)] [] m := by
      intro n
      induction n with
      | zero => intro x3_19 x4_19 h; rw [f_X10_isUsedBy_L19] at h; cases h
      | succ n ih =>
        intro x3_19 x4_19 h
        rw [f_X10_isUsedBy_L19] at h
        refine r_iload C dX10_isUsedBy_19 4 rfl ?_
        refine r_bipush C (v := 8) dX10_isUsedBy_21 (by decide) ?_
        refine r_icmp_ge C (tgt := 58) dX10_isUsedBy_23 (by decide) h (fun _ h => ?_) (fun _ h => ?_)
        · skip
          refine r_sub C [3] (show _ = [(3, .int x3_19)] from rfl) ?_
          exact he58_19 x3_19 h
        · skip
          refine r_iload_n C dX10_isUsedBy_26 rfl 3 rfl ?_
          refine s_join h (fun k51 => ∀ (s0_51 : Int32), k51 s0_51 = some res → V 0 51 [(0, .ref (ad 110)), (1, .int p1), (2, .int p2), (4, .int x4_19)] [.int s0_51] m) ?_ (fun k51 hk51 h => ?_)
          · intro s0_51 h
            refine r_istore_n C dX10_isUsedBy_51 rfl (by decide) (show _ = [(3, .int s0_51), (0, .ref (ad 110)), (1, .int p1), (2, .int p2), (4, .int x4_19)] from rfl) ?_
            refine r_iinc C (v := x4_19 + 1) dX10_isUsedBy_52 4 rfl rfl (by decide) (show _ = [(4, .int (x4_19 + 1)), (3, .int s0_51), (0, .ref (ad 110)), (1, .int p1), (2, .int p2)] from rfl) ?_
            refine r_goto C (tgt := 19) dX10_isUsedBy_55 (by decide) ?_
            refine r_sub C [2, 3, 4, 1, 0] (show _ = [(0, .ref (ad 110)), (1, .int p1), (2, .int p2), (3, .int s0_51), (4, .int (x4_19 + 1))] from rfl) ?_
            exact ih s0_51 (x4_19 + 1) h
          refine s_join h (fun k46 => k46  = some res → V 0 46 [(0, .ref (ad 110)), (1, .int p1), (2, .int p2), (4, .int x4_19)] [] m) ?_ (fun k46 hk46 h => ?_)
          · intro  h
            refine r_iconst C (v := 1) dX10_isUsedBy_46 (by decide) ?_
            refine r_goto C (tgt := 51) dX10_isUsedBy_47 (by decide) ?_
            exact hk51 1 h
          refine r_if_ne C (tgt := 46) dX10_isUsedBy_27 (by decide) h (fun _ h => ?_) (fun _ h => ?_)
          · skip
            refine r_aload_n C dX10_isUsedBy_30 rfl 0 rfl ?_
            refine r_getr C (ci := 10) (k9 := 6) dX10_isUsedBy_31 rfl F_i10 (by decide) F_k19 (by omega) la_110 rfl ?_
            refine r_bipush C (v := 8) dX10_isUsedBy_34 (by decide) ?_
            refine r_iload_n C dX10_isUsedBy_36 rfl 1 rfl ?_
            refine r_imul C dX10_isUsedBy_37 ?_
            refine r_iload C dX10_isUsedBy_38 4 rfl ?_
            refine r_iadd C dX10_isUsedBy_40 ?_
            refine r_iald C dX10_isUsedBy_41 (by omega) la_114 h (fun j2 hj2 h => ?_)
            refine r_iload_n C dX10_isUsedBy_42 rfl 2 rfl ?_
            refine r_icmp_ne C (tgt := 50) dX10_isUsedBy_43 (by decide) h (fun _ h => ?_) (fun _ h => ?_)
            · skip
              refine r_sub C [0, 1, 2, 4] (show _ = [(0, .ref (ad 110)), (1, .int p1), (2, .int p2), (4, .int x4_19)] from rfl) ?_
              exact hk46 h
            · skip
              refine r_iconst C (v := 0) dX10_isUsedBy_50 (by decide) ?_
              refine r_sub C [0, 1, 2, 4] (show _ = [(0, .ref (ad 110)), (1, .int p1), (2, .int p2), (4, .int x4_19)] from rfl) ?_
              exact hk51 0 h
          · skip
            refine r_sub C [0, 1, 2, 4] (show _ = [(0, .ref (ad 110)), (1, .int p1), (2, .int p2), (4, .int x4_19)] from rfl) ?_
            exact hk46 h
    refine r_sub C [2, 3, 4, 1, 0] (show _ = [(0, .ref (ad 110)), (1, .int p1), (2, .int p2), (3, .int s0_15), (4, .int 0)] from rfl) ?_
    exact L19 5000 s0_15 0 h
  refine r_icmp_ne C (tgt := 14) dX10_isUsedBy_7 (by decide) h (fun _ h => ?_) (fun _ h => ?_)
  · skip
    refine r_iconst C (v := 1) dX10_isUsedBy_10 (by decide) ?_
    refine r_goto C (tgt := 15) dX10_isUsedBy_11 (by decide) ?_
    exact hk15 1 h
  · skip
    refine r_iconst C (v := 0) dX10_isUsedBy_14 (by decide) ?_
    exact hk15 0 h
