noncomputable def f_X2_placeOfGreatKey_L2 (m : sM) (e34_2 : Option (sR Int32)) (e21_2 : Int32 → Option (sR Int32)) : Nat → Int32 → Option (sR Int32)
  | 0, _ => none
  | n + 1, x1_2 =>
    if (m.1 85 6) ≤ x1_2 then (e34_2) else (s_ix x1_2 60 fun j2 => if (m.1 87 j2) < 64 then (f_X2_placeOfGreatKey_L2 m e34_2 e21_2 n (x1_2 + 1)) else (e21_2 x1_2))
noncomputable def f_X2_placeOfGreatKey (m : sM) : Option (sR Int32) :=
  s_jn (some (.inl (-1), m)) fun e34_2 => s_jn (fun (x1_21 : Int32) => s_ix x1_21 60 fun j1 => some (.inl (m.1 88 j1), m)) fun e21_2 => f_X2_placeOfGreatKey_L2 m e34_2 e21_2 5000 0
set_option maxRecDepth 20000 in
set_option maxHeartbeats 4000000 in
theorem c_X2_placeOfGreatKey (nw : Nat) (hnw : 109 ≤ nw) : s_Con s_i 0 nw yX2_placeOfGreatKey wsX2_placeOfGreatKey 12 140 0 (f_X2_placeOfGreatKey) (fun ad => [.ref (ad 85)]) := by
  refine s_con_of cX2_placeOfGreatKey 2 (some .int) RX2 (by decide) rfl rfl (fun _ => Nat.le_of_ble_eq_true rfl) (fun ad m res V C h => ?_)
  unfold f_X2_placeOfGreatKey at h
  have F_i2 : ∀ w ∈ wsX20, w ∈ wsX2_placeOfGreatKey := by decide +kernel
  have F_k23 : Cond.fieldLink RX2 23 "ShadowFile$Input" "keyPlaces" "[I" ∈ wsX2_placeOfGreatKey := by decide +kernel
  have F_k33 : Cond.fieldLink RX2 33 "ShadowFile$Input" "entries" "I" ∈ wsX2_placeOfGreatKey := by decide +kernel
  have F_k19 : Cond.fieldLink RX2 19 "ShadowFile$Input" "keys" "[I" ∈ wsX2_placeOfGreatKey := by decide +kernel
  show V 0 0 [(0, .ref (ad 85))] [] m
  refine r_iconst C (v := 0) dX2_placeOfGreatKey_0 (by decide) ?_
  refine r_istore_n C dX2_placeOfGreatKey_1 rfl (by decide) (show _ = [(1, .int 0), (0, .ref (ad 85))] from rfl) ?_
  refine s_join h (fun e34_2 => e34_2  = some res → V 0 34 [] [] m) ?_ (fun e34_2 he34_2 h => ?_)
  · intro  h
    refine r_iconst C (v := -1) dX2_placeOfGreatKey_34 (by decide) ?_
    exact r_iret C dX2_placeOfGreatKey_35 rfl h
  refine s_join h (fun e21_2 => ∀ (x1_21 : Int32), e21_2 x1_21 = some res → V 0 21 [(0, .ref (ad 85)), (1, .int x1_21)] [] m) ?_ (fun e21_2 he21_2 h => ?_)
  · intro x1_21 h
    refine r_aload_n C dX2_placeOfGreatKey_21 rfl 0 rfl ?_
    refine r_getr C (ci := 2) (k9 := 3) dX2_placeOfGreatKey_22 rfl F_i2 (by decide) F_k23 (by omega) la_85 rfl ?_
    refine r_iload_n C dX2_placeOfGreatKey_25 rfl 1 rfl ?_
    refine r_iald C dX2_placeOfGreatKey_26 (by omega) la_88 h (fun j1 hj1 h => ?_)
    exact r_iret C dX2_placeOfGreatKey_27 rfl h
  have L2 : ∀ (n : Nat) (x1_2 : Int32), f_X2_placeOfGreatKey_L2 m e34_2 e21_2 n x1_2 = some res → V 0 2 [(0, .ref (ad 85)), (1, .int x1_2)] [] m := by
    intro n
    induction n with
    | zero => intro x1_2 h; rw [f_X2_placeOfGreatKey_L2] at h; cases h
    | succ n ih =>
      intro x1_2 h
      rw [f_X2_placeOfGreatKey_L2] at h
      refine r_iload_n C dX2_placeOfGreatKey_2 rfl 1 rfl ?_
      refine r_aload_n C dX2_placeOfGreatKey_3 rfl 0 rfl ?_
      refine r_geti C (ci := 2) (k9 := 6) dX2_placeOfGreatKey_4 rfl F_i2 (by decide) F_k33 (by omega) la_85 rfl ?_
      refine r_icmp_ge C (tgt := 34) dX2_placeOfGreatKey_7 (by decide) h (fun _ h => ?_) (fun _ h => ?_)
      · skip
        refine r_sub C [] (show _ = [] from rfl) ?_
        exact he34_2 h
      · skip
        refine r_aload_n C dX2_placeOfGreatKey_10 rfl 0 rfl ?_
        refine r_getr C (ci := 2) (k9 := 2) dX2_placeOfGreatKey_11 rfl F_i2 (by decide) F_k19 (by omega) la_85 rfl ?_
        refine r_iload_n C dX2_placeOfGreatKey_14 rfl 1 rfl ?_
        refine r_iald C dX2_placeOfGreatKey_15 (by omega) la_87 h (fun j2 hj2 h => ?_)
        refine r_bipush C (v := 64) dX2_placeOfGreatKey_16 (by decide) ?_
        refine r_icmp_lt C (tgt := 28) dX2_placeOfGreatKey_18 (by decide) h (fun _ h => ?_) (fun _ h => ?_)
        · skip
          refine r_iinc C (v := x1_2 + 1) dX2_placeOfGreatKey_28 1 rfl rfl (by decide) (show _ = [(1, .int (x1_2 + 1)), (0, .ref (ad 85))] from rfl) ?_
          refine r_goto C (tgt := 2) dX2_placeOfGreatKey_31 (by decide) ?_
          refine r_sub C [1, 0] (show _ = [(0, .ref (ad 85)), (1, .int (x1_2 + 1))] from rfl) ?_
          exact ih (x1_2 + 1) h
        · skip
          exact he21_2 x1_2 h
  refine r_sub C [1, 0] (show _ = [(0, .ref (ad 85)), (1, .int 0)] from rfl) ?_
  exact L2 5000 0 h
noncomputable def f_X2_parse_L11 (e70_11 : Int32 → sM → Option (sR Int32)) (e35_11 : Int32 → sM → Option (sR Int32)) : Nat → Int32 → Int32 → Int32 → sM → Option (sR Int32)
  | 0, _, _, _, _ => none
  | n + 1, x1_11, x2_11, x3_11, m11_ =>
    if (m11_.1 85 1) ≤ x3_11 then (e70_11 x1_11 m11_) else (s_ix x3_11 60 fun j6 => s_bd (f_X2_follow x1_11 (m11_.1 86 j6) m11_) fun r7 m8 => if r7 = (-1) then (e35_11 x3_11 m8) else (s_jn (fun (x2_64 : Int32) (m64_ : sM) => f_X2_parse_L11 e70_11 e35_11 n r7 x2_64 (x3_11 + 1) m64_) fun k64 => if r7 = 3 then (k64 1 m8) else (if r7 = 4 then (k64 (-1) m8) else (s_bd (f_X2_takeDigit r7 x3_11 x2_11 m8) fun r9 m10 => k64 x2_11 m10))))
noncomputable def f_X2_parse (m : sM) : Option (sR Int32) :=
  s_md (s_up m 85 6 0) fun m1 => s_jn (fun (x1_70 : Int32) (m70_ : sM) => s_bd (f_X2_mayEnd x1_70 m70_) fun r2 m3 => s_jn (fun (s0_88 : Int32) (m88_ : sM) => some (.inl s0_88, m88_)) fun k88 => if r2 = 0 then (k88 (m3.1 85 1) m3) else (s_bd (f_X2_placeOfGreatKey m3) fun r4 m5 => k88 r4 m5)) fun e70_11 => s_jn (fun (x3_35 : Int32) (m35_ : sM) => some (.inl x3_35, m35_)) fun e35_11 => f_X2_parse_L11 e70_11 e35_11 5000 0 1 0 m1
set_option maxRecDepth 20000 in
set_option maxHeartbeats 4000000 in
theorem c_X2_parse (nw : Nat) (hnw : 109 ≤ nw) : s_Con s_i 0 nw yX2_parse wsX2_parse 16 230 0 (f_X2_parse) (fun ad => [.ref (ad 85)]) := by
  refine s_con_of cX2_parse 4 (some .int) RX2 (by decide) rfl rfl (fun _ => Nat.le_of_ble_eq_true rfl) (fun ad m res V C h => ?_)
  unfold f_X2_parse at h
  have F_i2 : ∀ w ∈ wsX20, w ∈ wsX2_parse := by decide +kernel
  have F_k33 : Cond.fieldLink RX2 33 "ShadowFile$Input" "entries" "I" ∈ wsX2_parse := by decide +kernel
  have F_k15 : Cond.fieldLink RX2 15 "ShadowFile$Input" "length" "I" ∈ wsX2_parse := by decide +kernel
  have F_k11 : Cond.fieldLink RX2 11 "ShadowFile$Input" "signs" "[C" ∈ wsX2_parse := by decide +kernel
  show V 0 0 [(0, .ref (ad 85))] [] m
  refine r_aload_n C dX2_parse_0 rfl 0 rfl ?_
  refine r_iconst C (v := 0) dX2_parse_1 (by decide) ?_
  refine r_puti C (ci := 2) (k9 := 6) dX2_parse_2 rfl F_i2 (by decide) F_k33 (by omega) la_85 rfl tyX2 tyX2_ok nmX2 rfl (tyX2_ok 6 (by decide)) rfl rfl h (fun m1 _ h => ?_)
  refine r_iconst C (v := 0) dX2_parse_5 (by decide) ?_
  refine r_istore_n C dX2_parse_6 rfl (by decide) (show _ = [(1, .int 0), (0, .ref (ad 85))] from rfl) ?_
  refine r_iconst C (v := 1) dX2_parse_7 (by decide) ?_
  refine r_istore_n C dX2_parse_8 rfl (by decide) (show _ = [(2, .int 1), (1, .int 0), (0, .ref (ad 85))] from rfl) ?_
  refine r_iconst C (v := 0) dX2_parse_9 (by decide) ?_
  refine r_istore_n C dX2_parse_10 rfl (by decide) (show _ = [(3, .int 0), (2, .int 1), (1, .int 0), (0, .ref (ad 85))] from rfl) ?_
  refine s_join h (fun e70_11 => ∀ (x1_70 : Int32) (m70_ : sM), e70_11 x1_70 m70_ = some res → V 0 70 [(0, .ref (ad 85)), (1, .int x1_70)] [] m70_) ?_ (fun e70_11 he70_11 h => ?_)
  · intro x1_70 m70_ h
    refine r_iload_n C dX2_parse_70 rfl 1 rfl ?_
    refine r_callS C (c_X2_mayEnd nw hnw x1_70) (As := [.int x1_70]) (nn := 1) (stk := [.int x1_70]) dX2_parse_71 gX2_parse_X2_mayEnd ⟨by decide, by decide, by decide +kernel⟩ rfl rfl (by decide) rfl rfl (Nat.le_of_ble_eq_true rfl) (by decide) h (fun r2 m3 h => ?_)
    show V 0 74 [(0, .ref (ad 85)), (1, .int x1_70)] [.int r2] m3
    refine s_join h (fun k88 => ∀ (s0_88 : Int32) (m88_ : sM), k88 s0_88 m88_ = some res → V 0 88 [] [.int s0_88] m88_) ?_ (fun k88 hk88 h => ?_)
    · intro s0_88 m88_ h
      exact r_iret C dX2_parse_88 rfl h
    refine r_if_eq C (tgt := 84) dX2_parse_74 (by decide) h (fun _ h => ?_) (fun _ h => ?_)
    · skip
      refine r_aload_n C dX2_parse_84 rfl 0 rfl ?_
      refine r_geti C (ci := 2) (k9 := 1) dX2_parse_85 rfl F_i2 (by decide) F_k15 (by omega) la_85 rfl ?_
      refine r_sub C [] (show _ = [] from rfl) ?_
      exact hk88 (m3.1 85 1) m3 h
    · skip
      refine r_aload_n C dX2_parse_77 rfl 0 rfl ?_
      refine r_callV C (c_X2_placeOfGreatKey nw hnw) (As := []) (nn := 0) (stk := [.ref (ad 85)]) (ci := 2) dX2_parse_78 gX2_parse_X2_placeOfGreatKey ⟨rfl, by decide, by decide, by decide +kernel⟩ (by omega) la_85 rfl rfl rfl (by decide) rfl rfl (Nat.le_of_ble_eq_true rfl) (by decide) h (fun r4 m5 h => ?_)
      show V 0 81 [(0, .ref (ad 85)), (1, .int x1_70)] [.int r4] m5
      refine r_goto C (tgt := 88) dX2_parse_81 (by decide) ?_
      refine r_sub C [] (show _ = [] from rfl) ?_
      exact hk88 r4 m5 h
  refine s_join h (fun e35_11 => ∀ (x3_35 : Int32) (m35_ : sM), e35_11 x3_35 m35_ = some res → V 0 35 [(3, .int x3_35)] [] m35_) ?_ (fun e35_11 he35_11 h => ?_)
  · intro x3_35 m35_ h
    refine r_iload_n C dX2_parse_35 rfl 0 rfl ?_
    exact r_iret C dX2_parse_36 rfl h
  have L11 : ∀ (n : Nat) (x1_11 : Int32) (x2_11 : Int32) (x3_11 : Int32) (m11_ : sM), f_X2_parse_L11 e70_11 e35_11 n x1_11 x2_11 x3_11 m11_ = some res → V 0 11 [(0, .ref (ad 85)), (1, .int x1_11), (2, .int x2_11), (3, .int x3_11)] [] m11_ := by
    intro n
    induction n with
    | zero => intro x1_11 x2_11 x3_11 m11_ h; rw [f_X2_parse_L11] at h; cases h
    | succ n ih =>
      intro x1_11 x2_11 x3_11 m11_ h
      rw [f_X2_parse_L11] at h
      refine r_iload_n C dX2_parse_11 rfl 3 rfl ?_
      refine r_aload_n C dX2_parse_12 rfl 0 rfl ?_
      refine r_geti C (ci := 2) (k9 := 1) dX2_parse_13 rfl F_i2 (by decide) F_k15 (by omega) la_85 rfl ?_
      refine r_icmp_ge C (tgt := 70) dX2_parse_16 (by decide) h (fun _ h => ?_) (fun _ h => ?_)
      · skip
        refine r_sub C [0, 1] (show _ = [(0, .ref (ad 85)), (1, .int x1_11)] from rfl) ?_
        exact he70_11 x1_11 m11_ h
      · skip
        refine r_iload_n C dX2_parse_19 rfl 1 rfl ?_
        refine r_aload_n C dX2_parse_20 rfl 0 rfl ?_
        refine r_getr C (ci := 2) (k9 := 0) dX2_parse_21 rfl F_i2 (by decide) F_k11 (by omega) la_85 rfl ?_
        refine r_iload_n C dX2_parse_24 rfl 3 rfl ?_
        refine r_cald C dX2_parse_25 (by omega) la_86 h (fun j6 hj6 h => ?_)
        refine r_callS C (c_X2_follow nw hnw x1_11 (m11_.1 86 j6)) (As := [.int x1_11, .int (m11_.1 86 j6)]) (nn := 2) (stk := [.int (m11_.1 86 j6), .int x1_11]) dX2_parse_26 gX2_parse_X2_follow ⟨by decide, by decide, by decide +kernel⟩ rfl rfl (by decide) rfl rfl (Nat.le_of_ble_eq_true rfl) (by decide) h (fun r7 m8 h => ?_)
        show V 0 29 [(0, .ref (ad 85)), (1, .int x1_11), (2, .int x2_11), (3, .int x3_11)] [.int r7] m8
        refine r_istore_n C dX2_parse_29 rfl (by decide) (show _ = [(1, .int r7), (0, .ref (ad 85)), (2, .int x2_11), (3, .int x3_11)] from rfl) ?_
        refine r_iload_n C dX2_parse_30 rfl 0 rfl ?_
        refine r_iconst C (v := -1) dX2_parse_31 (by decide) ?_
        refine r_icmp_ne C (tgt := 37) dX2_parse_32 (by decide) h (fun _ h => ?_) (fun _ h => ?_)
        · skip
          refine r_sub C [3] (show _ = [(3, .int x3_11)] from rfl) ?_
          exact he35_11 x3_11 m8 h
        · skip
          refine r_iload_n C dX2_parse_37 rfl 0 rfl ?_
          refine r_iconst C (v := 3) dX2_parse_38 (by decide) ?_
          refine s_join h (fun k64 => ∀ (x2_64 : Int32) (m64_ : sM), k64 x2_64 m64_ = some res → V 0 64 [(0, .ref (ad 85)), (1, .int r7), (2, .int x2_64), (3, .int x3_11)] [] m64_) ?_ (fun k64 hk64 h => ?_)
          · intro x2_64 m64_ h
            refine r_iinc C (v := x3_11 + 1) dX2_parse_64 3 rfl rfl (by decide) (show _ = [(3, .int (x3_11 + 1)), (0, .ref (ad 85)), (1, .int r7), (2, .int x2_64)] from rfl) ?_
            refine r_goto C (tgt := 11) dX2_parse_67 (by decide) ?_
            refine r_sub C [1, 2, 3, 0] (show _ = [(0, .ref (ad 85)), (1, .int r7), (2, .int x2_64), (3, .int (x3_11 + 1))] from rfl) ?_
            exact ih r7 x2_64 (x3_11 + 1) m64_ h
          refine r_icmp_ne C (tgt := 47) dX2_parse_39 (by decide) h (fun _ h => ?_) (fun _ h => ?_)
          · skip
            refine r_iconst C (v := 1) dX2_parse_42 (by decide) ?_
            refine r_istore_n C dX2_parse_43 rfl (by decide) (show _ = [(2, .int 1), (1, .int r7), (0, .ref (ad 85)), (3, .int x3_11)] from rfl) ?_
            refine r_goto C (tgt := 64) dX2_parse_44 (by decide) ?_
            refine r_sub C [2, 1, 0, 3] (show _ = [(0, .ref (ad 85)), (1, .int r7), (2, .int 1), (3, .int x3_11)] from rfl) ?_
            exact hk64 1 m8 h
          · skip
            refine r_iload_n C dX2_parse_47 rfl 0 rfl ?_
            refine r_iconst C (v := 4) dX2_parse_48 (by decide) ?_
            refine r_icmp_ne C (tgt := 57) dX2_parse_49 (by decide) h (fun _ h => ?_) (fun _ h => ?_)
            · skip
              refine r_iconst C (v := -1) dX2_parse_52 (by decide) ?_
              refine r_istore_n C dX2_parse_53 rfl (by decide) (show _ = [(2, .int (-1)), (1, .int r7), (0, .ref (ad 85)), (3, .int x3_11)] from rfl) ?_
              refine r_goto C (tgt := 64) dX2_parse_54 (by decide) ?_
              refine r_sub C [2, 1, 0, 3] (show _ = [(0, .ref (ad 85)), (1, .int r7), (2, .int (-1)), (3, .int x3_11)] from rfl) ?_
              exact hk64 (-1) m8 h
            · skip
              refine r_aload_n C dX2_parse_57 rfl 1 rfl ?_
              refine r_iload_n C dX2_parse_58 rfl 0 rfl ?_
              refine r_iload_n C dX2_parse_59 rfl 3 rfl ?_
              refine r_iload_n C dX2_parse_60 rfl 2 rfl ?_
              refine r_callV C (c_X2_takeDigit nw hnw r7 x3_11 x2_11) (As := [.int r7, .int x3_11, .int x2_11]) (nn := 3) (stk := [.int x2_11, .int x3_11, .int r7, .ref (ad 85)]) (ci := 2) dX2_parse_61 gX2_parse_X2_takeDigit ⟨rfl, by decide, by decide, by decide +kernel⟩ (by omega) la_85 rfl rfl rfl (by decide) rfl rfl (Nat.le_of_ble_eq_true rfl) (by decide) h (fun r9 m10 h => ?_)
              show V 0 64 [(1, .int r7), (0, .ref (ad 85)), (2, .int x2_11), (3, .int x3_11)] [] m10
              refine r_sub C [1, 0, 2, 3] (show _ = [(0, .ref (ad 85)), (1, .int r7), (2, .int x2_11), (3, .int x3_11)] from rfl) ?_
              exact hk64 x2_11 m10 h
  refine r_sub C [3, 2, 1, 0] (show _ = [(0, .ref (ad 85)), (1, .int 0), (2, .int 1), (3, .int 0)] from rfl) ?_
  exact L11 5000 0 1 0 m1 h
noncomputable def f_X2_enter_L2 (a1_2 : Nat) (e54_2 : sM → Option (sR Unit)) : Nat → Int32 → sM → Option (sR Unit)
  | 0, _, _ => none
  | n + 1, x2_2, m2_ =>
    if (m2_.1 85 6) ≤ x2_2 then (e54_2  m2_) else (s_ix x2_2 60 fun j1 => s_jn (fun (m48_ : sM) => f_X2_enter_L2 a1_2 e54_2 n (x2_2 + 1) m48_) fun k48 => if (m2_.1 90 j1) = 0 then (s_ix x2_2 60 fun j2 => s_ix x2_2 60 fun j3 => s_bd (f_X0_renew a1_2 (m2_.1 87 j2) (m2_.1 89 j3) m2_) fun r4 m5 => k48  m5) else (s_ix x2_2 60 fun j6 => s_bd (f_X0_drop a1_2 (m2_.1 87 j6) m2_) fun r7 m8 => k48  m8))
noncomputable def f_X2_enter (a1 : Nat) (m : sM) : Option (sR Unit) :=
  s_jn (fun (m54_ : sM) => some (.inl (), m54_)) fun e54_2 => f_X2_enter_L2 a1 e54_2 5000 0 m
set_option maxRecDepth 20000 in
set_option maxHeartbeats 4000000 in
theorem c_X2_enter (nw : Nat) (hnw : 109 ≤ nw) (a1 : Nat) (ha1 : isChg a1) : s_Con s_u 0 nw yX2_enter wsX2_enter 16 230 0 (f_X2_enter a1) (fun ad => [.ref (ad 85), .ref (ad a1)]) := by
  refine s_con_of cX2_enter 3 none RX2 (by decide) rfl rfl (fun _ => Nat.le_of_ble_eq_true rfl) (fun ad m res V C h => ?_)
  unfold f_X2_enter at h
  have F_i2 : ∀ w ∈ wsX20, w ∈ wsX2_enter := by decide +kernel
  have F_k33 : Cond.fieldLink RX2 33 "ShadowFile$Input" "entries" "I" ∈ wsX2_enter := by decide +kernel
  have F_k29 : Cond.fieldLink RX2 29 "ShadowFile$Input" "removals" "[Z" ∈ wsX2_enter := by decide +kernel
  have F_k19 : Cond.fieldLink RX2 19 "ShadowFile$Input" "keys" "[I" ∈ wsX2_enter := by decide +kernel
  have F_k26 : Cond.fieldLink RX2 26 "ShadowFile$Input" "values" "[I" ∈ wsX2_enter := by decide +kernel
  show V 0 0 [(0, .ref (ad 85)), (1, .ref (ad a1))] [] m
  refine r_iconst C (v := 0) dX2_enter_0 (by decide) ?_
  refine r_istore_n C dX2_enter_1 rfl (by decide) (show _ = [(2, .int 0), (0, .ref (ad 85)), (1, .ref (ad a1))] from rfl) ?_
  refine s_join h (fun e54_2 => ∀ (m54_ : sM), e54_2 m54_ = some res → V 0 54 [] [] m54_) ?_ (fun e54_2 he54_2 h => ?_)
  · intro m54_ h
    exact r_vret C dX2_enter_54 rfl h
  have L2 : ∀ (n : Nat) (x2_2 : Int32) (m2_ : sM), f_X2_enter_L2 a1 e54_2 n x2_2 m2_ = some res → V 0 2 [(0, .ref (ad 85)), (1, .ref (ad a1)), (2, .int x2_2)] [] m2_ := by
    intro n
    induction n with
    | zero => intro x2_2 m2_ h; rw [f_X2_enter_L2] at h; cases h
    | succ n ih =>
      intro x2_2 m2_ h
      rw [f_X2_enter_L2] at h
      refine r_iload_n C dX2_enter_2 rfl 2 rfl ?_
      refine r_aload_n C dX2_enter_3 rfl 0 rfl ?_
      refine r_geti C (ci := 2) (k9 := 6) dX2_enter_4 rfl F_i2 (by decide) F_k33 (by omega) la_85 rfl ?_
      refine r_icmp_ge C (tgt := 54) dX2_enter_7 (by decide) h (fun _ h => ?_) (fun _ h => ?_)
      · skip
        refine r_sub C [] (show _ = [] from rfl) ?_
        exact he54_2 m2_ h
      · skip
        refine r_aload_n C dX2_enter_10 rfl 0 rfl ?_
        refine r_getr C (ci := 2) (k9 := 5) dX2_enter_11 rfl F_i2 (by decide) F_k29 (by omega) la_85 rfl ?_
        refine r_iload_n C dX2_enter_14 rfl 2 rfl ?_
        refine r_zald C dX2_enter_15 (by omega) la_90 h (fun j1 hj1 h => ?_)
        refine s_join h (fun k48 => ∀ (m48_ : sM), k48 m48_ = some res → V 0 48 [(0, .ref (ad 85)), (1, .ref (ad a1)), (2, .int x2_2)] [] m48_) ?_ (fun k48 hk48 h => ?_)
        · intro m48_ h
          refine r_iinc C (v := x2_2 + 1) dX2_enter_48 2 rfl rfl (by decide) (show _ = [(2, .int (x2_2 + 1)), (0, .ref (ad 85)), (1, .ref (ad a1))] from rfl) ?_
          refine r_goto C (tgt := 2) dX2_enter_51 (by decide) ?_
          refine r_sub C [1, 2, 0] (show _ = [(0, .ref (ad 85)), (1, .ref (ad a1)), (2, .int (x2_2 + 1))] from rfl) ?_
          exact ih (x2_2 + 1) m48_ h
        refine r_if_eq C (tgt := 32) dX2_enter_16 (by decide) h (fun _ h => ?_) (fun _ h => ?_)
        · skip
          refine r_aload_n C dX2_enter_32 rfl 1 rfl ?_
          refine r_aload_n C dX2_enter_33 rfl 0 rfl ?_
          refine r_getr C (ci := 2) (k9 := 2) dX2_enter_34 rfl F_i2 (by decide) F_k19 (by omega) la_85 rfl ?_
          refine r_iload_n C dX2_enter_37 rfl 2 rfl ?_
          refine r_iald C dX2_enter_38 (by omega) la_87 h (fun j2 hj2 h => ?_)
          refine r_aload_n C dX2_enter_39 rfl 0 rfl ?_
          refine r_getr C (ci := 2) (k9 := 4) dX2_enter_40 rfl F_i2 (by decide) F_k26 (by omega) la_85 rfl ?_
          refine r_iload_n C dX2_enter_43 rfl 2 rfl ?_
          refine r_iald C dX2_enter_44 (by omega) la_89 h (fun j3 hj3 h => ?_)
          refine r_callV C (c_X0_renew nw hnw a1 (m2_.1 87 j2) (m2_.1 89 j3) ha1) (As := [.int (m2_.1 87 j2), .int (m2_.1 89 j3)]) (nn := 2) (stk := [.int (m2_.1 89 j3), .int (m2_.1 87 j2), .ref (ad a1)]) (ci := 0) dX2_enter_45 gX2_enter_X0_renew ⟨rfl, by decide, by decide, by decide +kernel⟩ (by have := isChg_b ha1; omega) (isChg_0 ha1) rfl rfl rfl (by decide) rfl rfl (Nat.le_of_ble_eq_true rfl) (by decide) h (fun r4 m5 h => ?_)
          show V 0 48 [(0, .ref (ad 85)), (1, .ref (ad a1)), (2, .int x2_2)] [] m5
          exact hk48 m5 h
        · skip
          refine r_aload_n C dX2_enter_19 rfl 1 rfl ?_
          refine r_aload_n C dX2_enter_20 rfl 0 rfl ?_
          refine r_getr C (ci := 2) (k9 := 2) dX2_enter_21 rfl F_i2 (by decide) F_k19 (by omega) la_85 rfl ?_
          refine r_iload_n C dX2_enter_24 rfl 2 rfl ?_
          refine r_iald C dX2_enter_25 (by omega) la_87 h (fun j6 hj6 h => ?_)
          refine r_callV C (c_X0_drop nw hnw a1 (m2_.1 87 j6) ha1) (As := [.int (m2_.1 87 j6)]) (nn := 1) (stk := [.int (m2_.1 87 j6), .ref (ad a1)]) (ci := 0) dX2_enter_26 gX2_enter_X0_drop ⟨rfl, by decide, by decide, by decide +kernel⟩ (by have := isChg_b ha1; omega) (isChg_0 ha1) rfl rfl rfl (by decide) rfl rfl (Nat.le_of_ble_eq_true rfl) (by decide) h (fun r7 m8 h => ?_)
          show V 0 29 [(0, .ref (ad 85)), (1, .ref (ad a1)), (2, .int x2_2)] [] m8
          refine r_goto C (tgt := 48) dX2_enter_29 (by decide) ?_
          exact hk48 m8 h
  refine r_sub C [1, 2, 0] (show _ = [(0, .ref (ad 85)), (1, .ref (ad a1)), (2, .int 0)] from rfl) ?_
  exact L2 5000 0 m h
noncomputable def f_X9_readChanges (p1 : Int32) (m : sM) : Option (sR Int32) :=
  s_bd (f_X2_parse m) fun r1 m2 => s_md (s_up m2 85 1 0) fun m3 => s_bd (f_X9_requireSlot p1 m3) fun r4 m5 => s_bd (f_X9_requireActive p1 m5) fun r6 m7 => if r1 = (-1) then (s_ix p1 3 fun j8 => s_bd (f_X2_enter ((54 + 10 * j8) + 1) m7) fun r9 m10 => some (.inl (m10.1 85 6), m10)) else (some (.inl ((-100) - r1), m7))
set_option maxRecDepth 20000 in
set_option maxHeartbeats 4000000 in
theorem c_X9_readChanges (nw : Nat) (hnw : 109 ≤ nw) (p1 : Int32) : s_Con s_i 0 nw yX9_readChanges wsX9_readChanges 18 275 2 (f_X9_readChanges p1) (fun ad => [.ref (ad 0), .int p1]) := by
  refine s_con_of cX9_readChanges 3 (some .int) RX9 (by decide) rfl rfl (fun _ => Nat.le_of_ble_eq_true rfl) (fun ad m res V C h => ?_)
  unfold f_X9_readChanges at h
  have F_i9 : ∀ w ∈ wsX90, w ∈ wsX9_readChanges := by decide +kernel
  have F_k65 : Cond.fieldLink RX9 65 "ShadowFile" "input" "LShadowFile$Input;" ∈ wsX9_readChanges := by decide +kernel
  have F_i2 : ∀ w ∈ wsX20, w ∈ wsX9_readChanges := by decide +kernel
  have F_k185 : Cond.fieldLink RX9 185 "ShadowFile$Input" "length" "I" ∈ wsX9_readChanges := by decide +kernel
  have F_k42 : Cond.fieldLink RX9 42 "ShadowFile" "slots" "[LShadowFile$Slot;" ∈ wsX9_readChanges := by decide +kernel
  have F_i7 : ∀ w ∈ wsX70, w ∈ wsX9_readChanges := by decide +kernel
  have F_k142 : Cond.fieldLink RX9 142 "ShadowFile$Slot" "changes" "LShadowFile$Changes;" ∈ wsX9_readChanges := by decide +kernel
  have F_k201 : Cond.fieldLink RX9 201 "ShadowFile$Input" "entries" "I" ∈ wsX9_readChanges := by decide +kernel
  show V 2 0 [(0, .ref (ad 0)), (1, .int p1)] [] m
  refine r_aload_n C dX9_readChanges_0 rfl 0 rfl ?_
  refine r_getr C (ci := 9) (k9 := 10) dX9_readChanges_1 rfl F_i9 (by decide) F_k65 (by omega) la_0 rfl ?_
  refine r_callV C (c_X2_parse nw hnw) (As := []) (nn := 0) (stk := [.ref (ad 85)]) (ci := 2) dX9_readChanges_4 gX9_readChanges_X2_parse ⟨rfl, by decide, by decide, by decide +kernel⟩ (by omega) la_85 rfl rfl rfl (by decide) rfl rfl (Nat.le_of_ble_eq_true rfl) (by decide) h (fun r1 m2 h => ?_)
  show V 2 7 [(0, .ref (ad 0)), (1, .int p1)] [.int r1] m2
  refine r_istore_n C dX9_readChanges_7 rfl (by decide) (show _ = [(2, .int r1), (0, .ref (ad 0)), (1, .int p1)] from rfl) ?_
  refine r_aload_n C dX9_readChanges_8 rfl 1 rfl ?_
  refine r_getr C (ci := 9) (k9 := 10) dX9_readChanges_9 rfl F_i9 (by decide) F_k65 (by omega) la_0 rfl ?_
  refine r_iconst C (v := 0) dX9_readChanges_12 (by decide) ?_
  refine r_puti C (ci := 2) (k9 := 1) dX9_readChanges_13 rfl F_i2 (by decide) F_k185 (by omega) la_85 rfl tyX2 tyX2_ok nmX2 rfl (tyX2_ok 1 (by decide)) rfl rfl h (fun m3 _ h => ?_)
  refine r_iload_n C dX9_readChanges_16 rfl 2 rfl ?_
  refine r_callS C (c_X9_requireSlot nw hnw p1) (As := [.int p1]) (nn := 1) (stk := [.int p1]) dX9_readChanges_17 gX9_readChanges_X9_requireSlot ⟨by decide, by decide, by decide +kernel⟩ rfl rfl (by decide) rfl rfl (Nat.le_of_ble_eq_true rfl) (by decide) h (fun r4 m5 h => ?_)
  show V 1 20 [(2, .int r1), (0, .ref (ad 0)), (1, .int p1)] [] m5
  refine r_aload_n C dX9_readChanges_20 rfl 1 rfl ?_
  refine r_iload_n C dX9_readChanges_21 rfl 2 rfl ?_
  refine r_callV C (c_X9_requireActive nw hnw p1) (As := [.int p1]) (nn := 1) (stk := [.int p1, .ref (ad 0)]) (ci := 9) dX9_readChanges_22 gX9_readChanges_X9_requireActive ⟨rfl, by decide, by decide, by decide +kernel⟩ (by omega) la_0 rfl rfl rfl (by decide) rfl rfl (Nat.le_of_ble_eq_true rfl) (by decide) h (fun r6 m7 h => ?_)
  show V 0 25 [(2, .int r1), (0, .ref (ad 0)), (1, .int p1)] [] m7
  refine r_iload_n C dX9_readChanges_25 rfl 0 rfl ?_
  refine r_iconst C (v := -1) dX9_readChanges_26 (by decide) ?_
  refine r_icmp_eq C (tgt := 35) dX9_readChanges_27 (by decide) h (fun _ h => ?_) (fun _ h => ?_)
  · skip
    refine r_aload_n C dX9_readChanges_35 rfl 1 rfl ?_
    refine r_getr C (ci := 9) (k9 := 10) dX9_readChanges_36 rfl F_i9 (by decide) F_k65 (by omega) la_0 rfl ?_
    refine r_aload_n C dX9_readChanges_39 rfl 1 rfl ?_
    refine r_getr C (ci := 9) (k9 := 5) dX9_readChanges_40 rfl F_i9 (by decide) F_k42 (by omega) la_0 rfl ?_
    refine r_iload_n C dX9_readChanges_43 rfl 2 rfl ?_
    refine r_aald C (b0 := 54) (d0 := 10) dX9_readChanges_44 (by omega) la_53 (fun _ => rfl) rfl h (fun j8 hj8 h => ?_)
    refine r_getr C (ci := 7) (k9 := 0) dX9_readChanges_45 rfl F_i7 (by decide) F_k142 (by have := isSlt_b (isSlt_s hj8); omega) (isSlt_0 (isSlt_s hj8)) rfl ?_
    refine r_callV C (c_X2_enter nw hnw ((54 + 10 * j8) + 1) (isSlt_c (isSlt_s hj8))) (As := [.ref (ad ((54 + 10 * j8) + 1))]) (nn := 1) (stk := [.ref (ad ((54 + 10 * j8) + 1)), .ref (ad 85)]) (ci := 2) dX9_readChanges_48 gX9_readChanges_X2_enter ⟨rfl, by decide, by decide, by decide +kernel⟩ (by omega) la_85 rfl rfl rfl (by decide) rfl rfl (Nat.le_of_ble_eq_true rfl) (by decide) h (fun r9 m10 h => ?_)
    show V 0 51 [(2, .int r1), (0, .ref (ad 0)), (1, .int p1)] [] m10
    refine r_aload_n C dX9_readChanges_51 rfl 1 rfl ?_
    refine r_getr C (ci := 9) (k9 := 10) dX9_readChanges_52 rfl F_i9 (by decide) F_k65 (by omega) la_0 rfl ?_
    refine r_geti C (ci := 2) (k9 := 6) dX9_readChanges_55 rfl F_i2 (by decide) F_k201 (by omega) la_85 rfl ?_
    exact r_iret C dX9_readChanges_58 rfl h
  · skip
    refine r_bipush C (v := -100) dX9_readChanges_30 (by decide) ?_
    refine r_iload_n C dX9_readChanges_32 rfl 0 rfl ?_
    refine r_isub C dX9_readChanges_33 ?_
    exact r_iret C dX9_readChanges_34 rfl h
noncomputable def f_X4_append (p1 : Int32) (m : sM) : Option (sR Unit) :=
  s_jn (fun (m32_ : sM) => some (.inl (), m32_)) fun k32 => if 960 ≤ (m.1 91 2) then (k32  m) else (s_ix (m.1 91 2) 960 fun j1 => s_md (s_up m 92 j1 (vp_nar .char p1)) fun m2 => s_md (s_up m2 91 2 ((m2.1 91 2) + 1)) fun m3 => k32  m3)
set_option maxRecDepth 20000 in
set_option maxHeartbeats 4000000 in
theorem c_X4_append (nw : Nat) (hnw : 109 ≤ nw) (p1 : Int32) : s_Con s_u 0 nw yX4_append wsX4_append 12 140 0 (f_X4_append p1) (fun ad => [.ref (ad 91), .int p1]) := by
  refine s_con_of cX4_append 2 none RX4 (by decide) rfl rfl (fun _ => Nat.le_of_ble_eq_true rfl) (fun ad m res V C h => ?_)
  unfold f_X4_append at h
  have F_i4 : ∀ w ∈ wsX40, w ∈ wsX4_append := by decide +kernel
  have F_k18 : Cond.fieldLink RX4 18 "ShadowFile$Output" "length" "I" ∈ wsX4_append := by decide +kernel
  have F_k11 : Cond.fieldLink RX4 11 "ShadowFile$Output" "signs" "[C" ∈ wsX4_append := by decide +kernel
  show V 0 0 [(0, .ref (ad 91)), (1, .int p1)] [] m
  refine r_aload_n C dX4_append_0 rfl 0 rfl ?_
  refine r_geti C (ci := 4) (k9 := 2) dX4_append_1 rfl F_i4 (by decide) F_k18 (by omega) la_91 rfl ?_
  refine r_aload_n C dX4_append_4 rfl 0 rfl ?_
  refine r_getr C (ci := 4) (k9 := 0) dX4_append_5 rfl F_i4 (by decide) F_k11 (by omega) la_91 rfl ?_
  refine r_alen C (v := 960) dX4_append_8 (by omega) la_92 (fun _ => rfl) (by decide) ?_
  refine s_join h (fun k32 => ∀ (m32_ : sM), k32 m32_ = some res → V 0 32 [] [] m32_) ?_ (fun k32 hk32 h => ?_)
  · intro m32_ h
    exact r_vret C dX4_append_32 rfl h
  refine r_icmp_ge C (tgt := 32) dX4_append_9 (by decide) h (fun _ h => ?_) (fun _ h => ?_)
  · skip
    refine r_sub C [] (show _ = [] from rfl) ?_
    exact hk32 m h
  · skip
    refine r_aload_n C dX4_append_12 rfl 0 rfl ?_
    refine r_getr C (ci := 4) (k9 := 0) dX4_append_13 rfl F_i4 (by decide) F_k11 (by omega) la_91 rfl ?_
    refine r_aload_n C dX4_append_16 rfl 0 rfl ?_
    refine r_geti C (ci := 4) (k9 := 2) dX4_append_17 rfl F_i4 (by decide) F_k18 (by omega) la_91 rfl ?_
    refine r_iload_n C dX4_append_20 rfl 1 rfl ?_
    refine r_cast C dX4_append_21 (by omega) la_92 h (fun j1 m2 hj1 _ h => ?_)
    refine r_aload_n C dX4_append_22 rfl 0 rfl ?_
    refine r_dup C dX4_append_23 rfl ?_
    refine r_geti C (ci := 4) (k9 := 2) dX4_append_24 rfl F_i4 (by decide) F_k18 (by omega) la_91 rfl ?_
    refine r_iconst C (v := 1) dX4_append_27 (by decide) ?_
    refine r_iadd C dX4_append_28 ?_
    refine r_puti C (ci := 4) (k9 := 2) dX4_append_29 rfl F_i4 (by decide) F_k18 (by omega) la_91 rfl tyX4 tyX4_ok nmX4 rfl (tyX4_ok 2 (by decide)) rfl rfl h (fun m3 _ h => ?_)
    refine r_sub C [] (show _ = [] from rfl) ?_
    exact hk32 m3 h
noncomputable def f_X4_appendComma (m : sM) : Option (sR Unit) :=
  s_jn (fun (m13_ : sM) => some (.inl (), m13_)) fun k13 => if (m.1 91 2) ≤ 0 then (k13  m) else (s_bd (f_X4_append 44 m) fun r1 m2 => k13  m2)
set_option maxRecDepth 20000 in
set_option maxHeartbeats 4000000 in
theorem c_X4_appendComma (nw : Nat) (hnw : 109 ≤ nw) : s_Con s_u 0 nw yX4_appendComma wsX4_appendComma 14 185 0 (f_X4_appendComma) (fun ad => [.ref (ad 91)]) := by
  refine s_con_of cX4_appendComma 1 none RX4 (by decide) rfl rfl (fun _ => Nat.le_of_ble_eq_true rfl) (fun ad m res V C h => ?_)
  unfold f_X4_appendComma at h
  have F_i4 : ∀ w ∈ wsX40, w ∈ wsX4_appendComma := by decide +kernel
  have F_k18 : Cond.fieldLink RX4 18 "ShadowFile$Output" "length" "I" ∈ wsX4_appendComma := by decide +kernel
  show V 0 0 [(0, .ref (ad 91))] [] m
  refine r_aload_n C dX4_appendComma_0 rfl 0 rfl ?_
  refine r_geti C (ci := 4) (k9 := 2) dX4_appendComma_1 rfl F_i4 (by decide) F_k18 (by omega) la_91 rfl ?_
  refine s_join h (fun k13 => ∀ (m13_ : sM), k13 m13_ = some res → V 0 13 [] [] m13_) ?_ (fun k13 hk13 h => ?_)
  · intro m13_ h
    exact r_vret C dX4_appendComma_13 rfl h
  refine r_if_le C (tgt := 13) dX4_appendComma_4 (by decide) h (fun _ h => ?_) (fun _ h => ?_)
  · skip
    refine r_sub C [] (show _ = [] from rfl) ?_
    exact hk13 m h
  · skip
    refine r_aload_n C dX4_appendComma_7 rfl 0 rfl ?_
    refine r_bipush C (v := 44) dX4_appendComma_8 (by decide) ?_
    refine r_callV C (c_X4_append nw hnw 44) (As := [.int 44]) (nn := 1) (stk := [.int 44, .ref (ad 91)]) (ci := 4) dX4_appendComma_10 gX4_appendComma_X4_append ⟨rfl, by decide, by decide, by decide +kernel⟩ (by omega) la_91 rfl rfl rfl (by decide) rfl rfl (Nat.le_of_ble_eq_true rfl) (by decide) h (fun r1 m2 h => ?_)
    show V 0 13 [(0, .ref (ad 91))] [] m2
    refine r_sub C [] (show _ = [] from rfl) ?_
    exact hk13 m2 h
noncomputable def f_X4_appendNumber_L67 (e89_67 : sM → Option (sR Unit)) : Nat → Int32 → sM → Option (sR Unit)
  | 0, _, _ => none
  | n + 1, x5_67, m67_ =>
    if x5_67 < 0 then (e89_67  m67_) else (s_ix x5_67 10 fun j1 => s_bd (f_X4_append (m67_.1 93 j1) m67_) fun r2 m3 => f_X4_appendNumber_L67 e89_67 n (x5_67 + (-1)) m3)
noncomputable def f_X4_appendNumber_L21 (e61_21 : Int32 → sM → Option (sR Unit)) : Nat → Int64 → Int32 → sM → Option (sR Unit)
  | 0, _, _, _ => none
  | n + 1, x2_21, x4_21, m21_ =>
    s_ix x4_21 10 fun j4 => s_md (s_up m21_ 93 j4 (vp_nar .char (s_i2c (Int64.toInt32 (48 + (x2_21 - x2_21 / 10 * 10)))))) fun m5 => if (lg_cmp (x2_21 / 10) 0) ≤ 0 then (e61_21 (x4_21 + 1) m5) else (if (x4_21 + 1) < 10 then (f_X4_appendNumber_L21 e61_21 n (x2_21 / 10) (x4_21 + 1) m5) else (e61_21 (x4_21 + 1) m5))
noncomputable def f_X4_appendNumber (p1 : Int32) (m : sM) : Option (sR Unit) :=
  s_jn (fun (x2_18 : Int64) (m18_ : sM) => s_jn (fun (x4_61 : Int32) (m61_ : sM) => s_jn (fun (m89_ : sM) => some (.inl (), m89_)) fun e89_67 => f_X4_appendNumber_L67 e89_67 5000 (x4_61 - 1) m61_) fun e61_21 => f_X4_appendNumber_L21 e61_21 5000 x2_18 0 m18_) fun k18 => if 0 ≤ (lg_cmp (Int32.toInt64 p1) 0) then (k18 (Int32.toInt64 p1) m) else (s_bd (f_X4_append 45 m) fun r6 m7 => k18 (-(Int32.toInt64 p1)) m7)
set_option maxRecDepth 20000 in
set_option maxHeartbeats 4000000 in
theorem c_X4_appendNumber (nw : Nat) (hnw : 109 ≤ nw) (p1 : Int32) : s_Con s_u 0 nw yX4_appendNumber wsX4_appendNumber 14 185 0 (f_X4_appendNumber p1) (fun ad => [.ref (ad 91), .int p1]) := by
  refine s_con_of cX4_appendNumber 6 none RX4 (by decide) rfl rfl (fun _ => Nat.le_of_ble_eq_true rfl) (fun ad m res V C h => ?_)
  unfold f_X4_appendNumber at h
  have F_i4 : ∀ w ∈ wsX40, w ∈ wsX4_appendNumber := by decide +kernel
  have F_k15 : Cond.fieldLink RX4 15 "ShadowFile$Output" "digits" "[C" ∈ wsX4_appendNumber := by decide +kernel
  have F_w26 : Cond.constantLong RX4 26 (48) ∈ wsX4_appendNumber := by decide +kernel
  have F_w28 : Cond.constantLong RX4 28 (10) ∈ wsX4_appendNumber := by decide +kernel
  show V 0 0 [(0, .ref (ad 91)), (1, .int p1)] [] m
  refine r_iload_n C dX4_appendNumber_0 rfl 1 rfl ?_
  refine r_i2l C dX4_appendNumber_1 ?_
  refine r_lstore_n C dX4_appendNumber_2 rfl (by decide) (show _ = [(2, .long (Int32.toInt64 p1)), (0, .ref (ad 91)), (1, .int p1)] from rfl) ?_
  refine r_lload_n C dX4_appendNumber_3 rfl 0 rfl ?_
  refine r_lconst C (v := 0) dX4_appendNumber_4 (by decide) ?_
  refine r_lcmp C dX4_appendNumber_5 ?_
  refine s_join h (fun k18 => ∀ (x2_18 : Int64) (m18_ : sM), k18 x2_18 m18_ = some res → V 0 18 [(0, .ref (ad 91)), (2, .long x2_18)] [] m18_) ?_ (fun k18 hk18 h => ?_)
  · intro x2_18 m18_ h
    refine r_iconst C (v := 0) dX4_appendNumber_18 (by decide) ?_
    refine r_istore C dX4_appendNumber_19 (by decide) (show _ = [(4, .int 0), (0, .ref (ad 91)), (2, .long x2_18)] from rfl) ?_
    refine s_join h (fun e61_21 => ∀ (x4_61 : Int32) (m61_ : sM), e61_21 x4_61 m61_ = some res → V 0 61 [(0, .ref (ad 91)), (4, .int x4_61)] [] m61_) ?_ (fun e61_21 he61_21 h => ?_)
    · intro x4_61 m61_ h
      refine r_iload C dX4_appendNumber_61 1 rfl ?_
      refine r_iconst C (v := 1) dX4_appendNumber_63 (by decide) ?_
      refine r_isub C dX4_appendNumber_64 ?_
      refine r_istore C dX4_appendNumber_65 (by decide) (show _ = [(5, .int (x4_61 - 1)), (0, .ref (ad 91)), (4, .int x4_61)] from rfl) ?_
      refine s_join h (fun e89_67 => ∀ (m89_ : sM), e89_67 m89_ = some res → V 0 89 [] [] m89_) ?_ (fun e89_67 he89_67 h => ?_)
      · intro m89_ h
        exact r_vret C dX4_appendNumber_89 rfl h
      have L67 : ∀ (n : Nat) (x5_67 : Int32) (m67_ : sM), f_X4_appendNumber_L67 e89_67 n x5_67 m67_ = some res → V 0 67 [(0, .ref (ad 91)), (5, .int x5_67)] [] m67_ := by
        intro n
        induction n with
        | zero => intro x5_67 m67_ h; rw [f_X4_appendNumber_L67] at h; cases h
        | succ n ih =>
          intro x5_67 m67_ h
          rw [f_X4_appendNumber_L67] at h
          refine r_iload C dX4_appendNumber_67 1 rfl ?_
          refine r_if_lt C (tgt := 89) dX4_appendNumber_69 (by decide) h (fun _ h => ?_) (fun _ h => ?_)
          · skip
            refine r_sub C [] (show _ = [] from rfl) ?_
            exact he89_67 m67_ h
          · skip
            refine r_aload_n C dX4_appendNumber_72 rfl 0 rfl ?_
            refine r_aload_n C dX4_appendNumber_73 rfl 0 rfl ?_
            refine r_getr C (ci := 4) (k9 := 1) dX4_appendNumber_74 rfl F_i4 (by decide) F_k15 (by omega) la_91 rfl ?_
            refine r_iload C dX4_appendNumber_77 1 rfl ?_
            refine r_cald C dX4_appendNumber_79 (by omega) la_93 h (fun j1 hj1 h => ?_)
            refine r_callV C (c_X4_append nw hnw (m67_.1 93 j1)) (As := [.int (m67_.1 93 j1)]) (nn := 1) (stk := [.int (m67_.1 93 j1), .ref (ad 91)]) (ci := 4) dX4_appendNumber_80 gX4_appendNumber_X4_append ⟨rfl, by decide, by decide, by decide +kernel⟩ (by omega) la_91 rfl rfl rfl (by decide) rfl rfl (Nat.le_of_ble_eq_true rfl) (by decide) h (fun r2 m3 h => ?_)
            show V 0 83 [(0, .ref (ad 91)), (5, .int x5_67)] [] m3
            refine r_iinc C (v := x5_67 + (-1)) dX4_appendNumber_83 1 rfl rfl (by decide) (show _ = [(5, .int (x5_67 + (-1))), (0, .ref (ad 91))] from rfl) ?_
            refine r_goto C (tgt := 67) dX4_appendNumber_86 (by decide) ?_
            refine r_sub C [1, 0] (show _ = [(0, .ref (ad 91)), (5, .int (x5_67 + (-1)))] from rfl) ?_
            exact ih (x5_67 + (-1)) m3 h
      refine r_sub C [1, 0] (show _ = [(0, .ref (ad 91)), (5, .int (x4_61 - 1))] from rfl) ?_
      exact L67 5000 (x4_61 - 1) m61_ h
    have L21 : ∀ (n : Nat) (x2_21 : Int64) (x4_21 : Int32) (m21_ : sM), f_X4_appendNumber_L21 e61_21 n x2_21 x4_21 m21_ = some res → V 0 21 [(0, .ref (ad 91)), (2, .long x2_21), (4, .int x4_21)] [] m21_ := by
      intro n
      induction n with
      | zero => intro x2_21 x4_21 m21_ h; rw [f_X4_appendNumber_L21] at h; cases h
      | succ n ih =>
        intro x2_21 x4_21 m21_ h
        rw [f_X4_appendNumber_L21] at h
        refine r_aload_n C dX4_appendNumber_21 rfl 0 rfl ?_
        refine r_getr C (ci := 4) (k9 := 1) dX4_appendNumber_22 rfl F_i4 (by decide) F_k15 (by omega) la_91 rfl ?_
        refine r_iload C dX4_appendNumber_25 2 rfl ?_
        refine r_ldc2 C dX4_appendNumber_27 F_w26 ?_
        refine r_lload_n C dX4_appendNumber_30 rfl 1 rfl ?_
        refine r_ldc2 C dX4_appendNumber_31 F_w28 ?_
        refine r_lrem C dX4_appendNumber_34 (by decide) ?_
        refine r_ladd C dX4_appendNumber_35 ?_
        refine r_l2i C dX4_appendNumber_36 ?_
        refine r_i2c C dX4_appendNumber_37 ?_
        refine r_cast C dX4_appendNumber_38 (by omega) la_93 h (fun j4 m5 hj4 _ h => ?_)
        refine r_lload_n C dX4_appendNumber_39 rfl 1 rfl ?_
        refine r_ldc2 C dX4_appendNumber_40 F_w28 ?_
        refine r_ldiv C dX4_appendNumber_43 (by decide) ?_
        refine r_lstore_n C dX4_appendNumber_44 rfl (by decide) (show _ = [(2, .long (x2_21 / 10)), (0, .ref (ad 91)), (4, .int x4_21)] from rfl) ?_
        refine r_iinc C (v := x4_21 + 1) dX4_appendNumber_45 2 rfl rfl (by decide) (show _ = [(4, .int (x4_21 + 1)), (2, .long (x2_21 / 10)), (0, .ref (ad 91))] from rfl) ?_
        refine r_lload_n C dX4_appendNumber_48 rfl 1 rfl ?_
        refine r_lconst C (v := 0) dX4_appendNumber_49 (by decide) ?_
        refine r_lcmp C dX4_appendNumber_50 ?_
        refine r_if_le C (tgt := 61) dX4_appendNumber_51 (by decide) h (fun _ h => ?_) (fun _ h => ?_)
        · skip
          refine r_sub C [2, 0] (show _ = [(0, .ref (ad 91)), (4, .int (x4_21 + 1))] from rfl) ?_
          exact he61_21 (x4_21 + 1) m5 h
        · skip
          refine r_iload C dX4_appendNumber_54 0 rfl ?_
          refine r_bipush C (v := 10) dX4_appendNumber_56 (by decide) ?_
          refine r_icmp_lt C (tgt := 21) dX4_appendNumber_58 (by decide) h (fun _ h => ?_) (fun _ h => ?_)
          · skip
            refine r_sub C [2, 1, 0] (show _ = [(0, .ref (ad 91)), (2, .long (x2_21 / 10)), (4, .int (x4_21 + 1))] from rfl) ?_
            exact ih (x2_21 / 10) (x4_21 + 1) m5 h
          · skip
            refine r_sub C [2, 0] (show _ = [(0, .ref (ad 91)), (4, .int (x4_21 + 1))] from rfl) ?_
            exact he61_21 (x4_21 + 1) m5 h
    refine r_sub C [1, 2, 0] (show _ = [(0, .ref (ad 91)), (2, .long x2_18), (4, .int 0)] from rfl) ?_
    exact L21 5000 x2_18 0 m18_ h
  refine r_if_ge C (tgt := 18) dX4_appendNumber_6 (by decide) h (fun _ h => ?_) (fun _ h => ?_)
  · skip
    refine r_sub C [1, 0] (show _ = [(0, .ref (ad 91)), (2, .long (Int32.toInt64 p1))] from rfl) ?_
    exact hk18 (Int32.toInt64 p1) m h
  · skip
    refine r_aload_n C dX4_appendNumber_9 rfl 1 rfl ?_
    refine r_bipush C (v := 45) dX4_appendNumber_10 (by decide) ?_
    refine r_callV C (c_X4_append nw hnw 45) (As := [.int 45]) (nn := 1) (stk := [.int 45, .ref (ad 91)]) (ci := 4) dX4_appendNumber_12 gX4_appendNumber_X4_append ⟨rfl, by decide, by decide, by decide +kernel⟩ (by omega) la_91 rfl rfl rfl (by decide) rfl rfl (Nat.le_of_ble_eq_true rfl) (by decide) h (fun r6 m7 h => ?_)
    show V 0 15 [(2, .long (Int32.toInt64 p1)), (0, .ref (ad 91)), (1, .int p1)] [] m7
    refine r_lload_n C dX4_appendNumber_15 rfl 0 rfl ?_
    refine r_lneg C dX4_appendNumber_16 ?_
    refine r_lstore_n C dX4_appendNumber_17 rfl (by decide) (show _ = [(2, .long (-(Int32.toInt64 p1))), (0, .ref (ad 91)), (1, .int p1)] from rfl) ?_
    refine r_sub C [1, 0] (show _ = [(0, .ref (ad 91)), (2, .long (-(Int32.toInt64 p1)))] from rfl) ?_
    exact hk18 (-(Int32.toInt64 p1)) m7 h
noncomputable def f_X4_appendRemoval (p1 : Int32) (m : sM) : Option (sR Unit) :=
  s_bd (f_X4_appendComma m) fun r1 m2 => s_bd (f_X4_append 45 m2) fun r3 m4 => s_bd (f_X4_appendNumber p1 m4) fun r5 m6 => some (.inl (), m6)
set_option maxRecDepth 20000 in
set_option maxHeartbeats 4000000 in
theorem c_X4_appendRemoval (nw : Nat) (hnw : 109 ≤ nw) (p1 : Int32) : s_Con s_u 0 nw yX4_appendRemoval wsX4_appendRemoval 16 230 0 (f_X4_appendRemoval p1) (fun ad => [.ref (ad 91), .int p1]) := by
  refine s_con_of cX4_appendRemoval 2 none RX4 (by decide) rfl rfl (fun _ => Nat.le_of_ble_eq_true rfl) (fun ad m res V C h => ?_)
  unfold f_X4_appendRemoval at h
  show V 0 0 [(0, .ref (ad 91)), (1, .int p1)] [] m
  refine r_aload_n C dX4_appendRemoval_0 rfl 0 rfl ?_
  refine r_callV C (c_X4_appendComma nw hnw) (As := []) (nn := 0) (stk := [.ref (ad 91)]) (ci := 4) dX4_appendRemoval_1 gX4_appendRemoval_X4_appendComma ⟨rfl, by decide, by decide, by decide +kernel⟩ (by omega) la_91 rfl rfl rfl (by decide) rfl rfl (Nat.le_of_ble_eq_true rfl) (by decide) h (fun r1 m2 h => ?_)
  show V 0 4 [(0, .ref (ad 91)), (1, .int p1)] [] m2
  refine r_aload_n C dX4_appendRemoval_4 rfl 0 rfl ?_
  refine r_bipush C (v := 45) dX4_appendRemoval_5 (by decide) ?_
  refine r_callV C (c_X4_append nw hnw 45) (As := [.int 45]) (nn := 1) (stk := [.int 45, .ref (ad 91)]) (ci := 4) dX4_appendRemoval_7 gX4_appendRemoval_X4_append ⟨rfl, by decide, by decide, by decide +kernel⟩ (by omega) la_91 rfl rfl rfl (by decide) rfl rfl (Nat.le_of_ble_eq_true rfl) (by decide) h (fun r3 m4 h => ?_)
  show V 0 10 [(0, .ref (ad 91)), (1, .int p1)] [] m4
  refine r_aload_n C dX4_appendRemoval_10 rfl 0 rfl ?_
  refine r_iload_n C dX4_appendRemoval_11 rfl 1 rfl ?_
  refine r_callV C (c_X4_appendNumber nw hnw p1) (As := [.int p1]) (nn := 1) (stk := [.int p1, .ref (ad 91)]) (ci := 4) dX4_appendRemoval_12 gX4_appendRemoval_X4_appendNumber ⟨rfl, by decide, by decide, by decide +kernel⟩ (by omega) la_91 rfl rfl rfl (by decide) rfl rfl (Nat.le_of_ble_eq_true rfl) (by decide) h (fun r5 m6 h => ?_)
  show V 0 15 [(0, .ref (ad 91)), (1, .int p1)] [] m6
  exact r_vret C dX4_appendRemoval_15 rfl h
noncomputable def f_X4_appendRecord (p1 : Int32) (p2 : Int32) (m : sM) : Option (sR Unit) :=
  s_bd (f_X4_appendComma m) fun r1 m2 => s_bd (f_X4_appendNumber p1 m2) fun r3 m4 => s_bd (f_X4_append 61 m4) fun r5 m6 => s_bd (f_X4_appendNumber p2 m6) fun r7 m8 => some (.inl (), m8)
set_option maxRecDepth 20000 in
set_option maxHeartbeats 4000000 in
theorem c_X4_appendRecord (nw : Nat) (hnw : 109 ≤ nw) (p1 : Int32) (p2 : Int32) : s_Con s_u 0 nw yX4_appendRecord wsX4_appendRecord 16 230 0 (f_X4_appendRecord p1 p2) (fun ad => [.ref (ad 91), .int p1, .int p2]) := by
  refine s_con_of cX4_appendRecord 3 none RX4 (by decide) rfl rfl (fun _ => Nat.le_of_ble_eq_true rfl) (fun ad m res V C h => ?_)
  unfold f_X4_appendRecord at h
  show V 0 0 [(0, .ref (ad 91)), (1, .int p1), (2, .int p2)] [] m
  refine r_aload_n C dX4_appendRecord_0 rfl 0 rfl ?_
  refine r_callV C (c_X4_appendComma nw hnw) (As := []) (nn := 0) (stk := [.ref (ad 91)]) (ci := 4) dX4_appendRecord_1 gX4_appendRecord_X4_appendComma ⟨rfl, by decide, by decide, by decide +kernel⟩ (by omega) la_91 rfl rfl rfl (by decide) rfl rfl (Nat.le_of_ble_eq_true rfl) (by decide) h (fun r1 m2 h => ?_)
  show V 0 4 [(0, .ref (ad 91)), (1, .int p1), (2, .int p2)] [] m2
  refine r_aload_n C dX4_appendRecord_4 rfl 0 rfl ?_
  refine r_iload_n C dX4_appendRecord_5 rfl 1 rfl ?_
  refine r_callV C (c_X4_appendNumber nw hnw p1) (As := [.int p1]) (nn := 1) (stk := [.int p1, .ref (ad 91)]) (ci := 4) dX4_appendRecord_6 gX4_appendRecord_X4_appendNumber ⟨rfl, by decide, by decide, by decide +kernel⟩ (by omega) la_91 rfl rfl rfl (by decide) rfl rfl (Nat.le_of_ble_eq_true rfl) (by decide) h (fun r3 m4 h => ?_)
  show V 0 9 [(0, .ref (ad 91)), (1, .int p1), (2, .int p2)] [] m4
  refine r_aload_n C dX4_appendRecord_9 rfl 0 rfl ?_
  refine r_bipush C (v := 61) dX4_appendRecord_10 (by decide) ?_
  refine r_callV C (c_X4_append nw hnw 61) (As := [.int 61]) (nn := 1) (stk := [.int 61, .ref (ad 91)]) (ci := 4) dX4_appendRecord_12 gX4_appendRecord_X4_append ⟨rfl, by decide, by decide, by decide +kernel⟩ (by omega) la_91 rfl rfl rfl (by decide) rfl rfl (Nat.le_of_ble_eq_true rfl) (by decide) h (fun r5 m6 h => ?_)
  show V 0 15 [(0, .ref (ad 91)), (1, .int p1), (2, .int p2)] [] m6
  refine r_aload_n C dX4_appendRecord_15 rfl 0 rfl ?_
  refine r_iload_n C dX4_appendRecord_16 rfl 2 rfl ?_
  refine r_callV C (c_X4_appendNumber nw hnw p2) (As := [.int p2]) (nn := 1) (stk := [.int p2, .ref (ad 91)]) (ci := 4) dX4_appendRecord_17 gX4_appendRecord_X4_appendNumber ⟨rfl, by decide, by decide, by decide +kernel⟩ (by omega) la_91 rfl rfl rfl (by decide) rfl rfl (Nat.le_of_ble_eq_true rfl) (by decide) h (fun r7 m8 h => ?_)
  show V 0 20 [(0, .ref (ad 91)), (1, .int p1), (2, .int p2)] [] m8
  exact r_vret C dX4_appendRecord_20 rfl h
noncomputable def f_X9_writeChanges_L29 (a2_29 : Nat) (e88_29 : sM → Option (sR Int32)) : Nat → Int32 → sM → Option (sR Int32)
  | 0, _, _ => none
  | n + 1, x3_29, m29_ =>
    if 64 ≤ x3_29 then (e88_29  m29_) else (s_bd (f_X9_isIn (m29_.2 a2_29 2) x3_29 m29_) fun r7 m8 => s_jn (fun (m82_ : sM) => f_X9_writeChanges_L29 a2_29 e88_29 n (x3_29 + 1) m82_) fun k82 => if r7 = 0 then (s_bd (f_X9_isIn (m8.2 a2_29 1) x3_29 m8) fun r9 m10 => if r9 = 0 then (k82  m10) else (s_ix x3_29 64 fun j11 => s_bd (f_X4_appendRecord x3_29 (m10.1 (a2_29 + 1) j11) m10) fun r12 m13 => k82  m13)) else (s_bd (f_X4_appendRemoval x3_29 m8) fun r14 m15 => k82  m15))
noncomputable def f_X9_writeChanges (p1 : Int32) (m : sM) : Option (sR Int32) :=
  s_bd (f_X9_requireSlot p1 m) fun r1 m2 => s_bd (f_X9_requireNotIdle p1 m2) fun r3 m4 => s_ix p1 3 fun j5 => s_md (s_up m4 91 2 0) fun m6 => s_jn (fun (m88_ : sM) => some (.inl (m88_.1 91 2), m88_)) fun e88_29 => f_X9_writeChanges_L29 ((54 + 10 * j5) + 1) e88_29 5000 0 m6
set_option maxRecDepth 20000 in
set_option maxHeartbeats 4000000 in
theorem c_X9_writeChanges (nw : Nat) (hnw : 109 ≤ nw) (p1 : Int32) : s_Con s_i 0 nw yX9_writeChanges wsX9_writeChanges 18 275 2 (f_X9_writeChanges p1) (fun ad => [.ref (ad 0), .int p1]) := by
  refine s_con_of cX9_writeChanges 4 (some .int) RX9 (by decide) rfl rfl (fun _ => Nat.le_of_ble_eq_true rfl) (fun ad m res V C h => ?_)
  unfold f_X9_writeChanges at h
  have F_i9 : ∀ w ∈ wsX90, w ∈ wsX9_writeChanges := by decide +kernel
  have F_k42 : Cond.fieldLink RX9 42 "ShadowFile" "slots" "[LShadowFile$Slot;" ∈ wsX9_writeChanges := by decide +kernel
  have F_i7 : ∀ w ∈ wsX70, w ∈ wsX9_writeChanges := by decide +kernel
  have F_k142 : Cond.fieldLink RX9 142 "ShadowFile$Slot" "changes" "LShadowFile$Changes;" ∈ wsX9_writeChanges := by decide +kernel
  have F_k72 : Cond.fieldLink RX9 72 "ShadowFile" "output" "LShadowFile$Output;" ∈ wsX9_writeChanges := by decide +kernel
  have F_i4 : ∀ w ∈ wsX40, w ∈ wsX9_writeChanges := by decide +kernel
  have F_k204 : Cond.fieldLink RX9 204 "ShadowFile$Output" "length" "I" ∈ wsX9_writeChanges := by decide +kernel
  have F_i0 : ∀ w ∈ wsX00, w ∈ wsX9_writeChanges := by decide +kernel
  have F_k205 : Cond.fieldLink RX9 205 "ShadowFile$Changes" "removed" "J" ∈ wsX9_writeChanges := by decide +kernel
  have F_k216 : Cond.fieldLink RX9 216 "ShadowFile$Changes" "touched" "J" ∈ wsX9_writeChanges := by decide +kernel
  have F_k219 : Cond.fieldLink RX9 219 "ShadowFile$Changes" "values" "[I" ∈ wsX9_writeChanges := by decide +kernel
  show V 2 0 [(0, .ref (ad 0)), (1, .int p1)] [] m
  refine r_iload_n C dX9_writeChanges_0 rfl 1 rfl ?_
  refine r_callS C (c_X9_requireSlot nw hnw p1) (As := [.int p1]) (nn := 1) (stk := [.int p1]) dX9_writeChanges_1 gX9_writeChanges_X9_requireSlot ⟨by decide, by decide, by decide +kernel⟩ rfl rfl (by decide) rfl rfl (Nat.le_of_ble_eq_true rfl) (by decide) h (fun r1 m2 h => ?_)
  show V 1 4 [(0, .ref (ad 0)), (1, .int p1)] [] m2
  refine r_aload_n C dX9_writeChanges_4 rfl 0 rfl ?_
  refine r_iload_n C dX9_writeChanges_5 rfl 1 rfl ?_
  refine r_callV C (c_X9_requireNotIdle nw hnw p1) (As := [.int p1]) (nn := 1) (stk := [.int p1, .ref (ad 0)]) (ci := 9) dX9_writeChanges_6 gX9_writeChanges_X9_requireNotIdle ⟨rfl, by decide, by decide, by decide +kernel⟩ (by omega) la_0 rfl rfl rfl (by decide) rfl rfl (Nat.le_of_ble_eq_true rfl) (by decide) h (fun r3 m4 h => ?_)
  show V 0 9 [(0, .ref (ad 0)), (1, .int p1)] [] m4
  refine r_aload_n C dX9_writeChanges_9 rfl 0 rfl ?_
  refine r_getr C (ci := 9) (k9 := 5) dX9_writeChanges_10 rfl F_i9 (by decide) F_k42 (by omega) la_0 rfl ?_
  refine r_iload_n C dX9_writeChanges_13 rfl 1 rfl ?_
  refine r_aald C (b0 := 54) (d0 := 10) dX9_writeChanges_14 (by omega) la_53 (fun _ => rfl) rfl h (fun j5 hj5 h => ?_)
  refine r_getr C (ci := 7) (k9 := 0) dX9_writeChanges_15 rfl F_i7 (by decide) F_k142 (by have := isSlt_b (isSlt_s hj5); omega) (isSlt_0 (isSlt_s hj5)) rfl ?_
  refine r_astore_n C dX9_writeChanges_18 rfl (by decide) (show _ = [(2, .ref (ad ((54 + 10 * j5) + 1))), (0, .ref (ad 0)), (1, .int p1)] from rfl) ?_
  refine r_aload_n C dX9_writeChanges_19 rfl 1 rfl ?_
  refine r_getr C (ci := 9) (k9 := 11) dX9_writeChanges_20 rfl F_i9 (by decide) F_k72 (by omega) la_0 rfl ?_
  refine r_iconst C (v := 0) dX9_writeChanges_23 (by decide) ?_
  refine r_puti C (ci := 4) (k9 := 2) dX9_writeChanges_24 rfl F_i4 (by decide) F_k204 (by omega) la_91 rfl tyX4 tyX4_ok nmX4 rfl (tyX4_ok 2 (by decide)) rfl rfl h (fun m6 _ h => ?_)
  refine r_iconst C (v := 0) dX9_writeChanges_27 (by decide) ?_
  refine r_istore_n C dX9_writeChanges_28 rfl (by decide) (show _ = [(3, .int 0), (2, .ref (ad ((54 + 10 * j5) + 1))), (0, .ref (ad 0)), (1, .int p1)] from rfl) ?_
  refine s_join h (fun e88_29 => ∀ (m88_ : sM), e88_29 m88_ = some res → V 0 88 [(0, .ref (ad 0))] [] m88_) ?_ (fun e88_29 he88_29 h => ?_)
  · intro m88_ h
    refine r_aload_n C dX9_writeChanges_88 rfl 0 rfl ?_
    refine r_getr C (ci := 9) (k9 := 11) dX9_writeChanges_89 rfl F_i9 (by decide) F_k72 (by omega) la_0 rfl ?_
    refine r_geti C (ci := 4) (k9 := 2) dX9_writeChanges_92 rfl F_i4 (by decide) F_k204 (by omega) la_91 rfl ?_
    exact r_iret C dX9_writeChanges_95 rfl h
  have L29 : ∀ (n : Nat) (x3_29 : Int32) (m29_ : sM), f_X9_writeChanges_L29 ((54 + 10 * j5) + 1) e88_29 n x3_29 m29_ = some res → V 0 29 [(0, .ref (ad 0)), (2, .ref (ad ((54 + 10 * j5) + 1))), (3, .int x3_29)] [] m29_ := by
    intro n
    induction n with
    | zero => intro x3_29 m29_ h; rw [f_X9_writeChanges_L29] at h; cases h
    | succ n ih =>
      intro x3_29 m29_ h
      rw [f_X9_writeChanges_L29] at h
      refine r_iload_n C dX9_writeChanges_29 rfl 2 rfl ?_
      refine r_bipush C (v := 64) dX9_writeChanges_30 (by decide) ?_
      refine r_icmp_ge C (tgt := 88) dX9_writeChanges_32 (by decide) h (fun _ h => ?_) (fun _ h => ?_)
      · skip
        refine r_sub C [0] (show _ = [(0, .ref (ad 0))] from rfl) ?_
        exact he88_29 m29_ h
      · skip
        refine r_aload_n C dX9_writeChanges_35 rfl 1 rfl ?_
        refine r_getl C (ci := 0) (k9 := 2) dX9_writeChanges_36 rfl F_i0 (by decide) F_k205 (by have := isChg_b (isSlt_c (isSlt_s hj5)); omega) (isChg_0 (isSlt_c (isSlt_s hj5))) rfl ?_
        refine r_iload_n C dX9_writeChanges_39 rfl 2 rfl ?_
        refine r_callS C (c_X9_isIn nw hnw (m29_.2 ((54 + 10 * j5) + 1) 2) x3_29) (As := [.long (m29_.2 ((54 + 10 * j5) + 1) 2), .int x3_29]) (nn := 2) (stk := [.int x3_29, .long (m29_.2 ((54 + 10 * j5) + 1) 2)]) dX9_writeChanges_40 gX9_writeChanges_X9_isIn ⟨by decide, by decide, by decide +kernel⟩ rfl rfl (by decide) rfl rfl (Nat.le_of_ble_eq_true rfl) (by decide) h (fun r7 m8 h => ?_)
        show V 0 43 [(0, .ref (ad 0)), (2, .ref (ad ((54 + 10 * j5) + 1))), (3, .int x3_29)] [.int r7] m8
        refine s_join h (fun k82 => ∀ (m82_ : sM), k82 m82_ = some res → V 0 82 [(0, .ref (ad 0)), (2, .ref (ad ((54 + 10 * j5) + 1))), (3, .int x3_29)] [] m82_) ?_ (fun k82 hk82 h => ?_)
        · intro m82_ h
          refine r_iinc C (v := x3_29 + 1) dX9_writeChanges_82 2 rfl rfl (by decide) (show _ = [(3, .int (x3_29 + 1)), (0, .ref (ad 0)), (2, .ref (ad ((54 + 10 * j5) + 1)))] from rfl) ?_
          refine r_goto C (tgt := 29) dX9_writeChanges_85 (by decide) ?_
          refine r_sub C [1, 2, 0] (show _ = [(0, .ref (ad 0)), (2, .ref (ad ((54 + 10 * j5) + 1))), (3, .int (x3_29 + 1))] from rfl) ?_
          exact ih (x3_29 + 1) m82_ h
        refine r_if_eq C (tgt := 57) dX9_writeChanges_43 (by decide) h (fun _ h => ?_) (fun _ h => ?_)
        · skip
          refine r_aload_n C dX9_writeChanges_57 rfl 1 rfl ?_
          refine r_getl C (ci := 0) (k9 := 1) dX9_writeChanges_58 rfl F_i0 (by decide) F_k216 (by have := isChg_b (isSlt_c (isSlt_s hj5)); omega) (isChg_0 (isSlt_c (isSlt_s hj5))) rfl ?_
          refine r_iload_n C dX9_writeChanges_61 rfl 2 rfl ?_
          refine r_callS C (c_X9_isIn nw hnw (m8.2 ((54 + 10 * j5) + 1) 1) x3_29) (As := [.long (m8.2 ((54 + 10 * j5) + 1) 1), .int x3_29]) (nn := 2) (stk := [.int x3_29, .long (m8.2 ((54 + 10 * j5) + 1) 1)]) dX9_writeChanges_62 gX9_writeChanges_X9_isIn ⟨by decide, by decide, by decide +kernel⟩ rfl rfl (by decide) rfl rfl (Nat.le_of_ble_eq_true rfl) (by decide) h (fun r9 m10 h => ?_)
          show V 0 65 [(0, .ref (ad 0)), (2, .ref (ad ((54 + 10 * j5) + 1))), (3, .int x3_29)] [.int r9] m10
          refine r_if_eq C (tgt := 82) dX9_writeChanges_65 (by decide) h (fun _ h => ?_) (fun _ h => ?_)
          · skip
            exact hk82 m10 h
          · skip
            refine r_aload_n C dX9_writeChanges_68 rfl 0 rfl ?_
            refine r_getr C (ci := 9) (k9 := 11) dX9_writeChanges_69 rfl F_i9 (by decide) F_k72 (by omega) la_0 rfl ?_
            refine r_iload_n C dX9_writeChanges_72 rfl 2 rfl ?_
            refine r_aload_n C dX9_writeChanges_73 rfl 1 rfl ?_
            refine r_getr C (ci := 0) (k9 := 0) dX9_writeChanges_74 rfl F_i0 (by decide) F_k219 (by have := isChg_b (isSlt_c (isSlt_s hj5)); omega) (isChg_0 (isSlt_c (isSlt_s hj5))) rfl ?_
            refine r_iload_n C dX9_writeChanges_77 rfl 2 rfl ?_
            refine r_iald C dX9_writeChanges_78 (by have := isChg_b (isSlt_c (isSlt_s hj5)); omega) (isChg_1 (isSlt_c (isSlt_s hj5))) h (fun j11 hj11 h => ?_)
            refine r_callV C (c_X4_appendRecord nw hnw x3_29 (m10.1 (((54 + 10 * j5) + 1) + 1) j11)) (As := [.int x3_29, .int (m10.1 (((54 + 10 * j5) + 1) + 1) j11)]) (nn := 2) (stk := [.int (m10.1 (((54 + 10 * j5) + 1) + 1) j11), .int x3_29, .ref (ad 91)]) (ci := 4) dX9_writeChanges_79 gX9_writeChanges_X4_appendRecord ⟨rfl, by decide, by decide, by decide +kernel⟩ (by omega) la_91 rfl rfl rfl (by decide) rfl rfl (Nat.le_of_ble_eq_true rfl) (by decide) h (fun r12 m13 h => ?_)
            show V 0 82 [(0, .ref (ad 0)), (2, .ref (ad ((54 + 10 * j5) + 1))), (3, .int x3_29)] [] m13
            exact hk82 m13 h
        · skip
          refine r_aload_n C dX9_writeChanges_46 rfl 0 rfl ?_
          refine r_getr C (ci := 9) (k9 := 11) dX9_writeChanges_47 rfl F_i9 (by decide) F_k72 (by omega) la_0 rfl ?_
          refine r_iload_n C dX9_writeChanges_50 rfl 2 rfl ?_
          refine r_callV C (c_X4_appendRemoval nw hnw x3_29) (As := [.int x3_29]) (nn := 1) (stk := [.int x3_29, .ref (ad 91)]) (ci := 4) dX9_writeChanges_51 gX9_writeChanges_X4_appendRemoval ⟨rfl, by decide, by decide, by decide +kernel⟩ (by omega) la_91 rfl rfl rfl (by decide) rfl rfl (Nat.le_of_ble_eq_true rfl) (by decide) h (fun r14 m15 h => ?_)
          show V 0 54 [(0, .ref (ad 0)), (2, .ref (ad ((54 + 10 * j5) + 1))), (3, .int x3_29)] [] m15
          refine r_goto C (tgt := 82) dX9_writeChanges_54 (by decide) ?_
          exact hk82 m15 h
  refine r_sub C [2, 1, 0] (show _ = [(0, .ref (ad 0)), (2, .ref (ad ((54 + 10 * j5) + 1))), (3, .int 0)] from rfl) ?_
  exact L29 5000 0 m6 h
noncomputable def f_X9_writeRecords_L14 (e57_14 : sM → Option (sR Int32)) : Nat → Int32 → sM → Option (sR Int32)
  | 0, _, _ => none
  | n + 1, x1_14, m14_ =>
    if 64 ≤ x1_14 then (e57_14  m14_) else (s_bd (f_X9_isIn (m14_.2 36 2) x1_14 m14_) fun r4 m5 => s_jn (fun (m51_ : sM) => f_X9_writeRecords_L14 e57_14 n (x1_14 + 1) m51_) fun k51 => if r4 = 0 then (k51  m5) else (s_ix x1_14 64 fun j6 => s_bd (f_X4_appendRecord x1_14 (m5.1 38 j6) m5) fun r7 m8 => k51  m8))
noncomputable def f_X9_writeRecords (m : sM) : Option (sR Int32) :=
  s_bd (f_X9_requireOpen m) fun r1 m2 => s_md (s_up m2 91 2 0) fun m3 => s_jn (fun (m57_ : sM) => some (.inl (m57_.1 91 2), m57_)) fun e57_14 => f_X9_writeRecords_L14 e57_14 5000 0 m3
set_option maxRecDepth 20000 in
set_option maxHeartbeats 4000000 in
theorem c_X9_writeRecords (nw : Nat) (hnw : 109 ≤ nw) : s_Con s_i 0 nw yX9_writeRecords wsX9_writeRecords 18 275 1 (f_X9_writeRecords) (fun ad => [.ref (ad 0)]) := by
  refine s_con_of cX9_writeRecords 2 (some .int) RX9 (by decide) rfl rfl (fun _ => Nat.le_of_ble_eq_true rfl) (fun ad m res V C h => ?_)
  unfold f_X9_writeRecords at h
  have F_i9 : ∀ w ∈ wsX90, w ∈ wsX9_writeRecords := by decide +kernel
  have F_k72 : Cond.fieldLink RX9 72 "ShadowFile" "output" "LShadowFile$Output;" ∈ wsX9_writeRecords := by decide +kernel
  have F_i4 : ∀ w ∈ wsX40, w ∈ wsX9_writeRecords := by decide +kernel
  have F_k204 : Cond.fieldLink RX9 204 "ShadowFile$Output" "length" "I" ∈ wsX9_writeRecords := by decide +kernel
  have F_k19 : Cond.fieldLink RX9 19 "ShadowFile" "present" "LShadowFile$Version;" ∈ wsX9_writeRecords := by decide +kernel
  have F_i8 : ∀ w ∈ wsX80, w ∈ wsX9_writeRecords := by decide +kernel
  have F_k225 : Cond.fieldLink RX9 225 "ShadowFile$Version" "keys" "J" ∈ wsX9_writeRecords := by decide +kernel
  have F_k228 : Cond.fieldLink RX9 228 "ShadowFile$Version" "values" "[I" ∈ wsX9_writeRecords := by decide +kernel
  show V 1 0 [(0, .ref (ad 0))] [] m
  refine r_aload_n C dX9_writeRecords_0 rfl 0 rfl ?_
  refine r_callV C (c_X9_requireOpen nw hnw) (As := []) (nn := 0) (stk := [.ref (ad 0)]) (ci := 9) dX9_writeRecords_1 gX9_writeRecords_X9_requireOpen ⟨rfl, by decide, by decide, by decide +kernel⟩ (by omega) la_0 rfl rfl rfl (by decide) rfl rfl (Nat.le_of_ble_eq_true rfl) (by decide) h (fun r1 m2 h => ?_)
  show V 0 4 [(0, .ref (ad 0))] [] m2
  refine r_aload_n C dX9_writeRecords_4 rfl 0 rfl ?_
  refine r_getr C (ci := 9) (k9 := 11) dX9_writeRecords_5 rfl F_i9 (by decide) F_k72 (by omega) la_0 rfl ?_
  refine r_iconst C (v := 0) dX9_writeRecords_8 (by decide) ?_
  refine r_puti C (ci := 4) (k9 := 2) dX9_writeRecords_9 rfl F_i4 (by decide) F_k204 (by omega) la_91 rfl tyX4 tyX4_ok nmX4 rfl (tyX4_ok 2 (by decide)) rfl rfl h (fun m3 _ h => ?_)
  refine r_iconst C (v := 0) dX9_writeRecords_12 (by decide) ?_
  refine r_istore_n C dX9_writeRecords_13 rfl (by decide) (show _ = [(1, .int 0), (0, .ref (ad 0))] from rfl) ?_
  refine s_join h (fun e57_14 => ∀ (m57_ : sM), e57_14 m57_ = some res → V 0 57 [(0, .ref (ad 0))] [] m57_) ?_ (fun e57_14 he57_14 h => ?_)
  · intro m57_ h
    refine r_aload_n C dX9_writeRecords_57 rfl 0 rfl ?_
    refine r_getr C (ci := 9) (k9 := 11) dX9_writeRecords_58 rfl F_i9 (by decide) F_k72 (by omega) la_0 rfl ?_
    refine r_geti C (ci := 4) (k9 := 2) dX9_writeRecords_61 rfl F_i4 (by decide) F_k204 (by omega) la_91 rfl ?_
    exact r_iret C dX9_writeRecords_64 rfl h
  have L14 : ∀ (n : Nat) (x1_14 : Int32) (m14_ : sM), f_X9_writeRecords_L14 e57_14 n x1_14 m14_ = some res → V 0 14 [(0, .ref (ad 0)), (1, .int x1_14)] [] m14_ := by
    intro n
    induction n with
    | zero => intro x1_14 m14_ h; rw [f_X9_writeRecords_L14] at h; cases h
    | succ n ih =>
      intro x1_14 m14_ h
      rw [f_X9_writeRecords_L14] at h
      refine r_iload_n C dX9_writeRecords_14 rfl 1 rfl ?_
      refine r_bipush C (v := 64) dX9_writeRecords_15 (by decide) ?_
      refine r_icmp_ge C (tgt := 57) dX9_writeRecords_17 (by decide) h (fun _ h => ?_) (fun _ h => ?_)
      · skip
        refine r_sub C [0] (show _ = [(0, .ref (ad 0))] from rfl) ?_
        exact he57_14 m14_ h
      · skip
        refine r_aload_n C dX9_writeRecords_20 rfl 0 rfl ?_
        refine r_getr C (ci := 9) (k9 := 1) dX9_writeRecords_21 rfl F_i9 (by decide) F_k19 (by omega) la_0 rfl ?_
        refine r_getl C (ci := 8) (k9 := 2) dX9_writeRecords_24 rfl F_i8 (by decide) F_k225 (by omega) la_36 rfl ?_
        refine r_iload_n C dX9_writeRecords_27 rfl 1 rfl ?_
        refine r_callS C (c_X9_isIn nw hnw (m14_.2 36 2) x1_14) (As := [.long (m14_.2 36 2), .int x1_14]) (nn := 2) (stk := [.int x1_14, .long (m14_.2 36 2)]) dX9_writeRecords_28 gX9_writeRecords_X9_isIn ⟨by decide, by decide, by decide +kernel⟩ rfl rfl (by decide) rfl rfl (Nat.le_of_ble_eq_true rfl) (by decide) h (fun r4 m5 h => ?_)
        show V 0 31 [(0, .ref (ad 0)), (1, .int x1_14)] [.int r4] m5
        refine s_join h (fun k51 => ∀ (m51_ : sM), k51 m51_ = some res → V 0 51 [(0, .ref (ad 0)), (1, .int x1_14)] [] m51_) ?_ (fun k51 hk51 h => ?_)
        · intro m51_ h
          refine r_iinc C (v := x1_14 + 1) dX9_writeRecords_51 1 rfl rfl (by decide) (show _ = [(1, .int (x1_14 + 1)), (0, .ref (ad 0))] from rfl) ?_
          refine r_goto C (tgt := 14) dX9_writeRecords_54 (by decide) ?_
          refine r_sub C [1, 0] (show _ = [(0, .ref (ad 0)), (1, .int (x1_14 + 1))] from rfl) ?_
          exact ih (x1_14 + 1) m51_ h
        refine r_if_eq C (tgt := 51) dX9_writeRecords_31 (by decide) h (fun _ h => ?_) (fun _ h => ?_)
        · skip
          exact hk51 m5 h
        · skip
          refine r_aload_n C dX9_writeRecords_34 rfl 0 rfl ?_
          refine r_getr C (ci := 9) (k9 := 11) dX9_writeRecords_35 rfl F_i9 (by decide) F_k72 (by omega) la_0 rfl ?_
          refine r_iload_n C dX9_writeRecords_38 rfl 1 rfl ?_
          refine r_aload_n C dX9_writeRecords_39 rfl 0 rfl ?_
          refine r_getr C (ci := 9) (k9 := 1) dX9_writeRecords_40 rfl F_i9 (by decide) F_k19 (by omega) la_0 rfl ?_
          refine r_getr C (ci := 8) (k9 := 1) dX9_writeRecords_43 rfl F_i8 (by decide) F_k228 (by omega) la_36 rfl ?_
          refine r_iload_n C dX9_writeRecords_46 rfl 1 rfl ?_
          refine r_iald C dX9_writeRecords_47 (by omega) la_38 h (fun j6 hj6 h => ?_)
          refine r_callV C (c_X4_appendRecord nw hnw x1_14 (m5.1 38 j6)) (As := [.int x1_14, .int (m5.1 38 j6)]) (nn := 2) (stk := [.int (m5.1 38 j6), .int x1_14, .ref (ad 91)]) (ci := 4) dX9_writeRecords_48 gX9_writeRecords_X4_appendRecord ⟨rfl, by decide, by decide, by decide +kernel⟩ (by omega) la_91 rfl rfl rfl (by decide) rfl rfl (Nat.le_of_ble_eq_true rfl) (by decide) h (fun r7 m8 h => ?_)
          show V 0 51 [(0, .ref (ad 0)), (1, .int x1_14)] [] m8
          exact hk51 m8 h
  refine r_sub C [1, 0] (show _ = [(0, .ref (ad 0)), (1, .int 0)] from rfl) ?_
  exact L14 5000 0 m3 h
