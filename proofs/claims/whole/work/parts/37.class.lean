noncomputable def f_X8_loadPage_L2 (a : Nat) (a1_2 : Nat) (y2_2 : Int32) (e58_2 : sM → Option (sR Unit)) : Nat → Int32 → sM → Option (sR Unit)
  | 0, _, _ => none
  | n + 1, x3_2, m2_ =>
    if 8 ≤ x3_2 then (e58_2  m2_) else (s_ix 3 13 fun j1 => s_bd (f_X9_isIn (Int32.toInt64 (m2_.1 a1_2 j1)) x3_2 m2_) fun r2 m3 => s_jn (fun (m52_ : sM) => f_X8_loadPage_L2 a a1_2 y2_2 e58_2 n (x3_2 + 1) m52_) fun k52 => if r2 = 0 then (k52  m3) else (s_bd (f_X8_keyOf y2_2 x3_2 m3) fun r4 m5 => s_bd (f_X9_setOf r4 m5) fun r6 m7 => s_md (s_uL m7 a 2 ((m5.2 a 2) ||| r6)) fun m8 => s_ix (4 + x3_2) 13 fun j9 => s_ix r4 64 fun j10 => s_md (s_up m8 (a + 2) j10 (m8.1 a1_2 j9)) fun m11 => k52  m11))
noncomputable def f_X8_loadPage (a : Nat) (a1 : Nat) (p2 : Int32) (m : sM) : Option (sR Unit) :=
  s_jn (fun (m58_ : sM) => some (.inl (), m58_)) fun e58_2 => f_X8_loadPage_L2 a a1 p2 e58_2 5000 0 m
set_option maxRecDepth 20000 in
set_option maxHeartbeats 4000000 in
theorem c_X8_loadPage (nw : Nat) (hnw : 109 ≤ nw) (a : Nat) (a1 : Nat) (p2 : Int32) (ha : isVer a) (ha1 : isRow a1) : s_Con s_u 0 nw yX8_loadPage wsX8_loadPage 14 185 0 (f_X8_loadPage a a1 p2) (fun ad => [.ref (ad a), .ref (ad a1), .int p2]) := by
  refine s_con_of cX8_loadPage 5 none RX8 (by decide) rfl rfl (fun _ => Nat.le_of_ble_eq_true rfl) (fun ad m res V C h => ?_)
  unfold f_X8_loadPage at h
  have F_tyX9_isIn : Cond.static yX9_isIn ∈ wsX8_loadPage := by decide +kernel
  have F_nyX9_isIn : Cond.initialized RX9 ∈ wsX8_loadPage := by decide +kernel
  have F_i8 : ∀ w ∈ wsX80, w ∈ wsX8_loadPage := by decide +kernel
  have F_k18 : Cond.fieldLink RX8 18 "ShadowFile$Version" "keys" "J" ∈ wsX8_loadPage := by decide +kernel
  have F_tyX9_setOf : Cond.static yX9_setOf ∈ wsX8_loadPage := by decide +kernel
  have F_nyX9_setOf : Cond.initialized RX9 ∈ wsX8_loadPage := by decide +kernel
  have F_k15 : Cond.fieldLink RX8 15 "ShadowFile$Version" "values" "[I" ∈ wsX8_loadPage := by decide +kernel
  show V 0 0 [(0, .ref (ad a)), (1, .ref (ad a1)), (2, .int p2)] [] m
  refine r_iconst C (v := 0) dX8_loadPage_0 (by decide) ?_
  refine r_istore_n C dX8_loadPage_1 rfl (by decide) (show _ = [(3, .int 0), (0, .ref (ad a)), (1, .ref (ad a1)), (2, .int p2)] from rfl) ?_
  refine s_join h (fun e58_2 => ∀ (m58_ : sM), e58_2 m58_ = some res → V 0 58 [] [] m58_) ?_ (fun e58_2 he58_2 h => ?_)
  · intro m58_ h
    exact r_vret C dX8_loadPage_58 rfl h
  have L2 : ∀ (n : Nat) (x3_2 : Int32) (m2_ : sM), f_X8_loadPage_L2 a a1 p2 e58_2 n x3_2 m2_ = some res → V 0 2 [(0, .ref (ad a)), (1, .ref (ad a1)), (2, .int p2), (3, .int x3_2)] [] m2_ := by
    intro n
    induction n with
    | zero => intro x3_2 m2_ h; rw [f_X8_loadPage_L2] at h; cases h
    | succ n ih =>
      intro x3_2 m2_ h
      rw [f_X8_loadPage_L2] at h
      refine r_iload_n C dX8_loadPage_2 rfl 3 rfl ?_
      refine r_bipush C (v := 8) dX8_loadPage_3 (by decide) ?_
      refine r_icmp_ge C (tgt := 58) dX8_loadPage_5 (by decide) h (fun _ h => ?_) (fun _ h => ?_)
      · skip
        refine r_sub C [] (show _ = [] from rfl) ?_
        exact he58_2 m2_ h
      · skip
        refine r_aload_n C dX8_loadPage_8 rfl 1 rfl ?_
        refine r_iconst C (v := 3) dX8_loadPage_9 (by decide) ?_
        refine r_iald C dX8_loadPage_10 (by have := isRow_b ha1; omega) (isRow_0 ha1) h (fun j1 hj1 h => ?_)
        refine r_i2l C dX8_loadPage_11 ?_
        refine r_iload_n C dX8_loadPage_12 rfl 3 rfl ?_
        refine r_callN C (c_X9_isIn nw hnw (Int32.toInt64 (m2_.1 a1 j1)) x3_2) (host := RX9) (As := [.long (Int32.toInt64 (m2_.1 a1 j1)), .int x3_2]) (nn := 2) (stk := [.int x3_2, .long (Int32.toInt64 (m2_.1 a1 j1))]) dX8_loadPage_13 gX8_loadPage_X9_isIn_n49 (by decide +kernel) F_tyX9_isIn F_nyX9_isIn ⟨by decide, by decide, by decide +kernel⟩ rfl rfl (by decide) rfl rfl (Nat.le_of_ble_eq_true rfl) (by decide) h (fun r2 m3 h => ?_)
        show V 0 16 [(0, .ref (ad a)), (1, .ref (ad a1)), (2, .int p2), (3, .int x3_2)] [.int r2] m3
        refine s_join h (fun k52 => ∀ (m52_ : sM), k52 m52_ = some res → V 0 52 [(0, .ref (ad a)), (1, .ref (ad a1)), (2, .int p2), (3, .int x3_2)] [] m52_) ?_ (fun k52 hk52 h => ?_)
        · intro m52_ h
          refine r_iinc C (v := x3_2 + 1) dX8_loadPage_52 3 rfl rfl (by decide) (show _ = [(3, .int (x3_2 + 1)), (0, .ref (ad a)), (1, .ref (ad a1)), (2, .int p2)] from rfl) ?_
          refine r_goto C (tgt := 2) dX8_loadPage_55 (by decide) ?_
          refine r_sub C [1, 2, 3, 0] (show _ = [(0, .ref (ad a)), (1, .ref (ad a1)), (2, .int p2), (3, .int (x3_2 + 1))] from rfl) ?_
          exact ih (x3_2 + 1) m52_ h
        refine r_if_eq C (tgt := 52) dX8_loadPage_16 (by decide) h (fun _ h => ?_) (fun _ h => ?_)
        · skip
          exact hk52 m3 h
        · skip
          refine r_iload_n C dX8_loadPage_19 rfl 2 rfl ?_
          refine r_iload_n C dX8_loadPage_20 rfl 3 rfl ?_
          refine r_callS C (c_X8_keyOf nw hnw p2 x3_2) (As := [.int p2, .int x3_2]) (nn := 2) (stk := [.int x3_2, .int p2]) dX8_loadPage_21 gX8_loadPage_X8_keyOf ⟨by decide, by decide, by decide +kernel⟩ rfl rfl (by decide) rfl rfl (Nat.le_of_ble_eq_true rfl) (by decide) h (fun r4 m5 h => ?_)
          show V 0 24 [(0, .ref (ad a)), (1, .ref (ad a1)), (2, .int p2), (3, .int x3_2)] [.int r4] m5
          refine r_istore C dX8_loadPage_24 (by decide) (show _ = [(4, .int r4), (0, .ref (ad a)), (1, .ref (ad a1)), (2, .int p2), (3, .int x3_2)] from rfl) ?_
          refine r_aload_n C dX8_loadPage_26 rfl 1 rfl ?_
          refine r_dup C dX8_loadPage_27 rfl ?_
          refine r_getl C (ci := 8) (k9 := 2) dX8_loadPage_28 rfl F_i8 (by decide) F_k18 (by have := isVer_b ha; omega) (isVer_0 ha) rfl ?_
          refine r_iload C dX8_loadPage_31 0 rfl ?_
          refine r_callN C (c_X9_setOf nw hnw r4) (host := RX9) (As := [.int r4]) (nn := 1) (stk := [.int r4, .long (m5.2 a 2), .ref (ad a)]) dX8_loadPage_33 gX8_loadPage_X9_setOf_n53 (by decide +kernel) F_tyX9_setOf F_nyX9_setOf ⟨by decide, by decide, by decide +kernel⟩ rfl rfl (by decide) rfl rfl (Nat.le_of_ble_eq_true rfl) (by decide) h (fun r6 m7 h => ?_)
          show V 0 36 [(4, .int r4), (0, .ref (ad a)), (1, .ref (ad a1)), (2, .int p2), (3, .int x3_2)] [.long r6, .long (m5.2 a 2), .ref (ad a)] m7
          refine r_lor C dX8_loadPage_36 ?_
          refine r_putl C (ci := 8) (k9 := 2) dX8_loadPage_37 rfl F_i8 (by decide) F_k18 (by have := isVer_b ha; omega) (isVer_0 ha) rfl tyX8 tyX8_ok nmX8 rfl (tyX8_ok 2 (by decide)) rfl rfl h (fun m8 _ h => ?_)
          refine r_aload_n C dX8_loadPage_40 rfl 1 rfl ?_
          refine r_getr C (ci := 8) (k9 := 1) dX8_loadPage_41 rfl F_i8 (by decide) F_k15 (by have := isVer_b ha; omega) (isVer_0 ha) rfl ?_
          refine r_iload C dX8_loadPage_44 0 rfl ?_
          refine r_aload_n C dX8_loadPage_46 rfl 2 rfl ?_
          refine r_iconst C (v := 4) dX8_loadPage_47 (by decide) ?_
          refine r_iload_n C dX8_loadPage_48 rfl 4 rfl ?_
          refine r_iadd C dX8_loadPage_49 ?_
          refine r_iald C dX8_loadPage_50 (by have := isRow_b ha1; omega) (isRow_0 ha1) h (fun j9 hj9 h => ?_)
          refine r_iast C dX8_loadPage_51 (by have := isVer_b ha; omega) (isVer_2 ha) h (fun j10 m11 hj10 _ h => ?_)
          refine r_sub C [1, 2, 3, 4] (show _ = [(0, .ref (ad a)), (1, .ref (ad a1)), (2, .int p2), (3, .int x3_2)] from rfl) ?_
          exact hk52 m11 h
  refine r_sub C [1, 2, 3, 0] (show _ = [(0, .ref (ad a)), (1, .ref (ad a1)), (2, .int p2), (3, .int 0)] from rfl) ?_
  exact L2 5000 0 m h
noncomputable def f_X8_load_L36 (a : Nat) (e95_36 : sM → Option (sR Unit)) : Nat → Int32 → sM → Option (sR Unit)
  | 0, _, _ => none
  | n + 1, x3_36, m36_ =>
    if 8 ≤ x3_36 then (e95_36  m36_) else (s_ix (m36_.1 a 5) 32 fun j9 => s_ix (4 + x3_36) 13 fun j10 => s_ix x3_36 8 fun j11 => s_md (s_up m36_ (a + 1) j11 (m36_.1 (4 + 1 * j9) j10)) fun m12 => s_ix x3_36 8 fun j13 => s_bd (f_X1_isDataBlock (m12.1 (a + 1) j13) m12) fun r14 m15 => s_jn (fun (m89_ : sM) => f_X8_load_L36 a e95_36 n (x3_36 + 1) m89_) fun k89 => if r14 = 0 then (k89  m15) else (s_ix x3_36 8 fun j16 => s_ix (m15.1 (a + 1) j16) 32 fun j17 => s_bd (f_X8_loadPage a (4 + 1 * j17) x3_36 m15) fun r18 m19 => k89  m19))
noncomputable def f_X8_load (a : Nat) (p2 : Int32) (m : sM) : Option (sR Unit) :=
  s_md (s_up m a 4 p2) fun m1 => s_ix p2 32 fun j2 => s_ix 1 13 fun j3 => s_md (s_up m1 a 3 (m1.1 (4 + 1 * j2) j3)) fun m4 => s_ix p2 32 fun j5 => s_ix 2 13 fun j6 => s_md (s_up m4 a 5 (m4.1 (4 + 1 * j5) j6)) fun m7 => s_md (s_uL m7 a 2 0) fun m8 => s_jn (fun (m95_ : sM) => some (.inl (), m95_)) fun e95_36 => f_X8_load_L36 a e95_36 5000 0 m8
set_option maxRecDepth 20000 in
set_option maxHeartbeats 4000000 in
theorem c_X8_load (nw : Nat) (hnw : 109 ≤ nw) (a : Nat) (p2 : Int32) (ha : isVer a) : s_Con s_u 0 nw yX8_load wsX8_load 16 230 0 (f_X8_load a p2) (fun ad => [.ref (ad a), .ref (ad 1), .int p2]) := by
  refine s_con_of cX8_load 4 none RX8 (by decide) rfl rfl (fun _ => Nat.le_of_ble_eq_true rfl) (fun ad m res V C h => ?_)
  unfold f_X8_load at h
  have F_i8 : ∀ w ∈ wsX80, w ∈ wsX8_load := by decide +kernel
  have F_k26 : Cond.fieldLink RX8 26 "ShadowFile$Version" "root" "I" ∈ wsX8_load := by decide +kernel
  have F_i1 : ∀ w ∈ wsX10, w ∈ wsX8_load := by decide +kernel
  have F_k63 : Cond.fieldLink RX8 63 "ShadowFile$Disk" "cells" "[[I" ∈ wsX8_load := by decide +kernel
  have F_k22 : Cond.fieldLink RX8 22 "ShadowFile$Version" "number" "I" ∈ wsX8_load := by decide +kernel
  have F_k29 : Cond.fieldLink RX8 29 "ShadowFile$Version" "table" "I" ∈ wsX8_load := by decide +kernel
  have F_k18 : Cond.fieldLink RX8 18 "ShadowFile$Version" "keys" "J" ∈ wsX8_load := by decide +kernel
  have F_k9 : Cond.fieldLink RX8 9 "ShadowFile$Version" "blocks" "[I" ∈ wsX8_load := by decide +kernel
  show V 0 0 [(0, .ref (ad a)), (1, .ref (ad 1)), (2, .int p2)] [] m
  refine r_aload_n C dX8_load_0 rfl 0 rfl ?_
  refine r_iload_n C dX8_load_1 rfl 2 rfl ?_
  refine r_puti C (ci := 8) (k9 := 4) dX8_load_2 rfl F_i8 (by decide) F_k26 (by have := isVer_b ha; omega) (isVer_0 ha) rfl tyX8 tyX8_ok nmX8 rfl (tyX8_ok 4 (by decide)) rfl rfl h (fun m1 _ h => ?_)
  refine r_aload_n C dX8_load_5 rfl 0 rfl ?_
  refine r_aload_n C dX8_load_6 rfl 1 rfl ?_
  refine r_getr C (ci := 1) (k9 := 0) dX8_load_7 rfl F_i1 (by decide) F_k63 (by omega) la_1 rfl ?_
  refine r_iload_n C dX8_load_10 rfl 2 rfl ?_
  refine r_aald C (b0 := 4) (d0 := 1) dX8_load_11 (by omega) la_2 (fun _ => rfl) rfl h (fun j2 hj2 h => ?_)
  refine r_iconst C (v := 1) dX8_load_12 (by decide) ?_
  refine r_iald C dX8_load_13 (by have := isRow_b (isRow_d hj2); omega) (isRow_0 (isRow_d hj2)) h (fun j3 hj3 h => ?_)
  refine r_puti C (ci := 8) (k9 := 3) dX8_load_14 rfl F_i8 (by decide) F_k22 (by have := isVer_b ha; omega) (isVer_0 ha) rfl tyX8 tyX8_ok nmX8 rfl (tyX8_ok 3 (by decide)) rfl rfl h (fun m4 _ h => ?_)
  refine r_aload_n C dX8_load_17 rfl 0 rfl ?_
  refine r_aload_n C dX8_load_18 rfl 1 rfl ?_
  refine r_getr C (ci := 1) (k9 := 0) dX8_load_19 rfl F_i1 (by decide) F_k63 (by omega) la_1 rfl ?_
  refine r_iload_n C dX8_load_22 rfl 2 rfl ?_
  refine r_aald C (b0 := 4) (d0 := 1) dX8_load_23 (by omega) la_2 (fun _ => rfl) rfl h (fun j5 hj5 h => ?_)
  refine r_iconst C (v := 2) dX8_load_24 (by decide) ?_
  refine r_iald C dX8_load_25 (by have := isRow_b (isRow_d hj5); omega) (isRow_0 (isRow_d hj5)) h (fun j6 hj6 h => ?_)
  refine r_puti C (ci := 8) (k9 := 5) dX8_load_26 rfl F_i8 (by decide) F_k29 (by have := isVer_b ha; omega) (isVer_0 ha) rfl tyX8 tyX8_ok nmX8 rfl (tyX8_ok 5 (by decide)) rfl rfl h (fun m7 _ h => ?_)
  refine r_aload_n C dX8_load_29 rfl 0 rfl ?_
  refine r_lconst C (v := 0) dX8_load_30 (by decide) ?_
  refine r_putl C (ci := 8) (k9 := 2) dX8_load_31 rfl F_i8 (by decide) F_k18 (by have := isVer_b ha; omega) (isVer_0 ha) rfl tyX8 tyX8_ok nmX8 rfl (tyX8_ok 2 (by decide)) rfl rfl h (fun m8 _ h => ?_)
  refine r_iconst C (v := 0) dX8_load_34 (by decide) ?_
  refine r_istore_n C dX8_load_35 rfl (by decide) (show _ = [(3, .int 0), (0, .ref (ad a)), (1, .ref (ad 1)), (2, .int p2)] from rfl) ?_
  refine s_join h (fun e95_36 => ∀ (m95_ : sM), e95_36 m95_ = some res → V 0 95 [] [] m95_) ?_ (fun e95_36 he95_36 h => ?_)
  · intro m95_ h
    exact r_vret C dX8_load_95 rfl h
  have L36 : ∀ (n : Nat) (x3_36 : Int32) (m36_ : sM), f_X8_load_L36 a e95_36 n x3_36 m36_ = some res → V 0 36 [(0, .ref (ad a)), (1, .ref (ad 1)), (3, .int x3_36)] [] m36_ := by
    intro n
    induction n with
    | zero => intro x3_36 m36_ h; rw [f_X8_load_L36] at h; cases h
    | succ n ih =>
      intro x3_36 m36_ h
      rw [f_X8_load_L36] at h
      refine r_iload_n C dX8_load_36 rfl 2 rfl ?_
      refine r_bipush C (v := 8) dX8_load_37 (by decide) ?_
      refine r_icmp_ge C (tgt := 95) dX8_load_39 (by decide) h (fun _ h => ?_) (fun _ h => ?_)
      · skip
        refine r_sub C [] (show _ = [] from rfl) ?_
        exact he95_36 m36_ h
      · skip
        refine r_aload_n C dX8_load_42 rfl 0 rfl ?_
        refine r_getr C (ci := 8) (k9 := 0) dX8_load_43 rfl F_i8 (by decide) F_k9 (by have := isVer_b ha; omega) (isVer_0 ha) rfl ?_
        refine r_iload_n C dX8_load_46 rfl 2 rfl ?_
        refine r_aload_n C dX8_load_47 rfl 1 rfl ?_
        refine r_getr C (ci := 1) (k9 := 0) dX8_load_48 rfl F_i1 (by decide) F_k63 (by omega) la_1 rfl ?_
        refine r_aload_n C dX8_load_51 rfl 0 rfl ?_
        refine r_geti C (ci := 8) (k9 := 5) dX8_load_52 rfl F_i8 (by decide) F_k29 (by have := isVer_b ha; omega) (isVer_0 ha) rfl ?_
        refine r_aald C (b0 := 4) (d0 := 1) dX8_load_55 (by omega) la_2 (fun _ => rfl) rfl h (fun j9 hj9 h => ?_)
        refine r_iconst C (v := 4) dX8_load_56 (by decide) ?_
        refine r_iload_n C dX8_load_57 rfl 2 rfl ?_
        refine r_iadd C dX8_load_58 ?_
        refine r_iald C dX8_load_59 (by have := isRow_b (isRow_d hj9); omega) (isRow_0 (isRow_d hj9)) h (fun j10 hj10 h => ?_)
        refine r_iast C dX8_load_60 (by have := isVer_b ha; omega) (isVer_1 ha) h (fun j11 m12 hj11 _ h => ?_)
        refine r_aload_n C dX8_load_61 rfl 0 rfl ?_
        refine r_getr C (ci := 8) (k9 := 0) dX8_load_62 rfl F_i8 (by decide) F_k9 (by have := isVer_b ha; omega) (isVer_0 ha) rfl ?_
        refine r_iload_n C dX8_load_65 rfl 2 rfl ?_
        refine r_iald C dX8_load_66 (by have := isVer_b ha; omega) (isVer_1 ha) h (fun j13 hj13 h => ?_)
        refine r_callS C (c_X1_isDataBlock nw hnw (m12.1 (a + 1) j13)) (As := [.int (m12.1 (a + 1) j13)]) (nn := 1) (stk := [.int (m12.1 (a + 1) j13)]) dX8_load_67 gX8_load_X1_isDataBlock ⟨by decide, by decide, by decide +kernel⟩ rfl rfl (by decide) rfl rfl (Nat.le_of_ble_eq_true rfl) (by decide) h (fun r14 m15 h => ?_)
        show V 0 70 [(0, .ref (ad a)), (1, .ref (ad 1)), (3, .int x3_36)] [.int r14] m15
        refine s_join h (fun k89 => ∀ (m89_ : sM), k89 m89_ = some res → V 0 89 [(0, .ref (ad a)), (1, .ref (ad 1)), (3, .int x3_36)] [] m89_) ?_ (fun k89 hk89 h => ?_)
        · intro m89_ h
          refine r_iinc C (v := x3_36 + 1) dX8_load_89 2 rfl rfl (by decide) (show _ = [(3, .int (x3_36 + 1)), (0, .ref (ad a)), (1, .ref (ad 1))] from rfl) ?_
          refine r_goto C (tgt := 36) dX8_load_92 (by decide) ?_
          refine r_sub C [1, 2, 0] (show _ = [(0, .ref (ad a)), (1, .ref (ad 1)), (3, .int (x3_36 + 1))] from rfl) ?_
          exact ih (x3_36 + 1) m89_ h
        refine r_if_eq C (tgt := 89) dX8_load_70 (by decide) h (fun _ h => ?_) (fun _ h => ?_)
        · skip
          exact hk89 m15 h
        · skip
          refine r_aload_n C dX8_load_73 rfl 0 rfl ?_
          refine r_aload_n C dX8_load_74 rfl 1 rfl ?_
          refine r_getr C (ci := 1) (k9 := 0) dX8_load_75 rfl F_i1 (by decide) F_k63 (by omega) la_1 rfl ?_
          refine r_aload_n C dX8_load_78 rfl 0 rfl ?_
          refine r_getr C (ci := 8) (k9 := 0) dX8_load_79 rfl F_i8 (by decide) F_k9 (by have := isVer_b ha; omega) (isVer_0 ha) rfl ?_
          refine r_iload_n C dX8_load_82 rfl 2 rfl ?_
          refine r_iald C dX8_load_83 (by have := isVer_b ha; omega) (isVer_1 ha) h (fun j16 hj16 h => ?_)
          refine r_aald C (b0 := 4) (d0 := 1) dX8_load_84 (by omega) la_2 (fun _ => rfl) rfl h (fun j17 hj17 h => ?_)
          refine r_iload_n C dX8_load_85 rfl 2 rfl ?_
          refine r_callV C (c_X8_loadPage nw hnw a (4 + 1 * j17) x3_36 ha (isRow_d hj17)) (As := [.ref (ad (4 + 1 * j17)), .int x3_36]) (nn := 2) (stk := [.int x3_36, .ref (ad (4 + 1 * j17)), .ref (ad a)]) (ci := 8) dX8_load_86 gX8_load_X8_loadPage ⟨rfl, by decide, by decide, by decide +kernel⟩ (by have := isVer_b ha; omega) (isVer_0 ha) rfl rfl rfl (by decide) rfl rfl (Nat.le_of_ble_eq_true rfl) (by decide) h (fun r18 m19 h => ?_)
          show V 0 89 [(0, .ref (ad a)), (1, .ref (ad 1)), (3, .int x3_36)] [] m19
          exact hk89 m19 h
  refine r_sub C [1, 2, 0] (show _ = [(0, .ref (ad a)), (1, .ref (ad 1)), (3, .int 0)] from rfl) ?_
  exact L36 5000 0 m8 h
noncomputable def f_X9_reopen (m : sM) : Option (sR Int32) :=
  s_bd (f_X9_endSlotsAndPins m) fun r1 m2 => s_bd (f_X9_usableRoot m2) fun r3 m4 => if r3 = (-1) then (s_md (s_up m4 0 15 0) fun m5 => s_ix 5 8 fun j6 => s_ix 5 8 fun j7 => s_md (s_up m5 108 j7 ((m5.1 108 j6) + 1)) fun m8 => some (.inr "java/lang/IllegalStateException", m8)) else (s_bd (f_X8_load 36 r3 m4) fun r9 m10 => s_md (s_up m10 0 15 1) fun m11 => s_ix 4 8 fun j12 => s_ix 4 8 fun j13 => s_md (s_up m11 108 j13 ((m11.1 108 j12) + 1)) fun m14 => some (.inl (m14.1 36 3), m14))
set_option maxRecDepth 20000 in
set_option maxHeartbeats 4000000 in
theorem c_X9_reopen (nw : Nat) (hnw : 109 ≤ nw) : s_Con s_i 0 nw yX9_reopen wsX9_reopen 26 455 1 (f_X9_reopen) (fun ad => [.ref (ad 0)]) := by
  refine s_con_of cX9_reopen 2 (some .int) RX9 (by decide) rfl rfl (fun _ => Nat.le_of_ble_eq_true rfl) (fun ad m res V C h => ?_)
  unfold f_X9_reopen at h
  have F_i9 : ∀ w ∈ wsX90, w ∈ wsX9_reopen := by decide +kernel
  have F_k93 : Cond.fieldLink RX9 93 "ShadowFile" "open" "Z" ∈ wsX9_reopen := by decide +kernel
  have F_k90 : Cond.fieldLink RX9 90 "ShadowFile" "counts" "[I" ∈ wsX9_reopen := by decide +kernel
  have F_q117 : Cond.classLink RX9 117 "java/lang/IllegalStateException" ∈ wsX9_reopen := by decide +kernel
  have F_u117 : Cond.initialized "java/lang/IllegalStateException" ∈ wsX9_reopen := by decide +kernel
  have F_z121 : ∀ w ∈ (vx_atS RX9 121 "java/lang/IllegalStateException" ["java/lang/RuntimeException", "java/lang/Exception"]).filter goodWord, w ∈ wsX9_reopen := by decide +kernel
  have F_y121 : ∀ w ∈ (vx_atS RX9 121 "java/lang/IllegalStateException" ["java/lang/RuntimeException", "java/lang/Exception"]).filter (fun w => !goodWord w), w ∈ Cond.castable "java/lang/IllegalStateException" "java/lang/IllegalStateException" :: s_dec.map Cond.declares := by decide +kernel
  have F_v121 : ∀ w ∈ Cond.classLink RX9 117 "java/lang/IllegalStateException" :: Cond.initialized "java/lang/IllegalStateException" :: vx_atS RX9 121 "java/lang/IllegalStateException" ["java/lang/RuntimeException", "java/lang/Exception"], vx_ot w = true := by decide +kernel
  have F_k19 : Cond.fieldLink RX9 19 "ShadowFile" "present" "LShadowFile$Version;" ∈ wsX9_reopen := by decide +kernel
  have F_k10 : Cond.fieldLink RX9 10 "ShadowFile" "disk" "LShadowFile$Disk;" ∈ wsX9_reopen := by decide +kernel
  have F_i8 : ∀ w ∈ wsX80, w ∈ wsX9_reopen := by decide +kernel
  have F_k101 : Cond.fieldLink RX9 101 "ShadowFile$Version" "number" "I" ∈ wsX9_reopen := by decide +kernel
  show V 1 0 [(0, .ref (ad 0))] [] m
  refine r_aload_n C dX9_reopen_0 rfl 0 rfl ?_
  refine r_callV C (c_X9_endSlotsAndPins nw hnw) (As := []) (nn := 0) (stk := [.ref (ad 0)]) (ci := 9) dX9_reopen_1 gX9_reopen_X9_endSlotsAndPins ⟨rfl, by decide, by decide, by decide +kernel⟩ (by omega) la_0 rfl rfl rfl (by decide) rfl rfl (Nat.le_of_ble_eq_true rfl) (by decide) h (fun r1 m2 h => ?_)
  show V 1 4 [(0, .ref (ad 0))] [] m2
  refine r_aload_n C dX9_reopen_4 rfl 0 rfl ?_
  refine r_callV C (c_X9_usableRoot nw hnw) (As := []) (nn := 0) (stk := [.ref (ad 0)]) (ci := 9) dX9_reopen_5 gX9_reopen_X9_usableRoot ⟨rfl, by decide, by decide, by decide +kernel⟩ (by omega) la_0 rfl rfl rfl (by decide) rfl rfl (Nat.le_of_ble_eq_true rfl) (by decide) h (fun r3 m4 h => ?_)
  show V 1 8 [(0, .ref (ad 0))] [.int r3] m4
  refine r_istore_n C dX9_reopen_8 rfl (by decide) (show _ = [(1, .int r3), (0, .ref (ad 0))] from rfl) ?_
  refine r_iload_n C dX9_reopen_9 rfl 0 rfl ?_
  refine r_iconst C (v := -1) dX9_reopen_10 (by decide) ?_
  refine r_icmp_ne C (tgt := 40) dX9_reopen_11 (by decide) h (fun _ h => ?_) (fun _ h => ?_)
  · skip
    refine r_aload_n C dX9_reopen_14 rfl 1 rfl ?_
    refine r_iconst C (v := 0) dX9_reopen_15 (by decide) ?_
    refine r_puti C (ci := 9) (k9 := 15) dX9_reopen_16 rfl F_i9 (by decide) F_k93 (by omega) la_0 rfl tyX9 tyX9_ok nmX9 rfl (tyX9_ok 15 (by decide)) rfl rfl h (fun m5 _ h => ?_)
    refine r_aload_n C dX9_reopen_19 rfl 1 rfl ?_
    refine r_getr C (ci := 9) (k9 := 14) dX9_reopen_20 rfl F_i9 (by decide) F_k90 (by omega) la_0 rfl ?_
    refine r_iconst C (v := 5) dX9_reopen_23 (by decide) ?_
    refine r_dup2 C dX9_reopen_24 rfl rfl ?_
    refine r_iald C dX9_reopen_25 (by omega) la_108 h (fun j6 hj6 h => ?_)
    refine r_iconst C (v := 1) dX9_reopen_26 (by decide) ?_
    refine r_iadd C dX9_reopen_27 ?_
    refine r_iast C dX9_reopen_28 (by omega) la_108 h (fun j7 m8 hj7 _ h => ?_)
    exact r_throwW C (text := "no root is usable") (names := ["java/lang/RuntimeException", "java/lang/Exception"]) dX9_reopen_29 dX9_reopen_32 dX9_reopen_33 dX9_reopen_36 dX9_reopen_39 (by decide) (by decide) F_q117 F_u117 F_z121 F_y121 F_v121 (by decide +kernel) (by decide +kernel) (by decide) (Nat.le_of_ble_eq_true rfl) (by decide) h
  · skip
    refine r_aload_n C dX9_reopen_40 rfl 1 rfl ?_
    refine r_getr C (ci := 9) (k9 := 1) dX9_reopen_41 rfl F_i9 (by decide) F_k19 (by omega) la_0 rfl ?_
    refine r_aload_n C dX9_reopen_44 rfl 1 rfl ?_
    refine r_getr C (ci := 9) (k9 := 0) dX9_reopen_45 rfl F_i9 (by decide) F_k10 (by omega) la_0 rfl ?_
    refine r_iload_n C dX9_reopen_48 rfl 0 rfl ?_
    refine r_callV C (c_X8_load nw hnw 36 r3 (by unfold isVer; omega)) (As := [.ref (ad 1), .int r3]) (nn := 2) (stk := [.int r3, .ref (ad 1), .ref (ad 36)]) (ci := 8) dX9_reopen_49 gX9_reopen_X8_load ⟨rfl, by decide, by decide, by decide +kernel⟩ (by omega) la_36 rfl rfl rfl (by decide) rfl rfl (Nat.le_of_ble_eq_true rfl) (by decide) h (fun r9 m10 h => ?_)
    show V 1 52 [(1, .int r3), (0, .ref (ad 0))] [] m10
    refine r_aload_n C dX9_reopen_52 rfl 1 rfl ?_
    refine r_iconst C (v := 1) dX9_reopen_53 (by decide) ?_
    refine r_puti C (ci := 9) (k9 := 15) dX9_reopen_54 rfl F_i9 (by decide) F_k93 (by omega) la_0 rfl tyX9 tyX9_ok nmX9 rfl (tyX9_ok 15 (by decide)) rfl rfl h (fun m11 _ h => ?_)
    refine r_aload_n C dX9_reopen_57 rfl 1 rfl ?_
    refine r_getr C (ci := 9) (k9 := 14) dX9_reopen_58 rfl F_i9 (by decide) F_k90 (by omega) la_0 rfl ?_
    refine r_iconst C (v := 4) dX9_reopen_61 (by decide) ?_
    refine r_dup2 C dX9_reopen_62 rfl rfl ?_
    refine r_iald C dX9_reopen_63 (by omega) la_108 h (fun j12 hj12 h => ?_)
    refine r_iconst C (v := 1) dX9_reopen_64 (by decide) ?_
    refine r_iadd C dX9_reopen_65 ?_
    refine r_iast C dX9_reopen_66 (by omega) la_108 h (fun j13 m14 hj13 _ h => ?_)
    refine r_aload_n C dX9_reopen_67 rfl 1 rfl ?_
    refine r_getr C (ci := 9) (k9 := 1) dX9_reopen_68 rfl F_i9 (by decide) F_k19 (by omega) la_0 rfl ?_
    refine r_geti C (ci := 8) (k9 := 3) dX9_reopen_71 rfl F_i8 (by decide) F_k101 (by omega) la_36 rfl ?_
    exact r_iret C dX9_reopen_74 rfl h
noncomputable def f_X9_isOpen (m : sM) : Option (sR Int32) :=
  s_gd ((m.1 0 15) = 0 ∨ (m.1 0 15) = 1) (some (.inl (m.1 0 15), m))
set_option maxRecDepth 20000 in
set_option maxHeartbeats 4000000 in
theorem c_X9_isOpen (nw : Nat) (hnw : 109 ≤ nw) : s_Con s_i 0 nw yX9_isOpen wsX9_isOpen 12 140 0 (f_X9_isOpen) (fun ad => [.ref (ad 0)]) := by
  refine s_con_of cX9_isOpen 1 (some .boolean) RX9 (by decide) rfl rfl (fun _ => Nat.le_of_ble_eq_true rfl) (fun ad m res V C h => ?_)
  unfold f_X9_isOpen at h
  have F_i9 : ∀ w ∈ wsX90, w ∈ wsX9_isOpen := by decide +kernel
  have F_k93 : Cond.fieldLink RX9 93 "ShadowFile" "open" "Z" ∈ wsX9_isOpen := by decide +kernel
  show V 0 0 [(0, .ref (ad 0))] [] m
  refine r_aload_n C dX9_isOpen_0 rfl 0 rfl ?_
  refine r_geti C (ci := 9) (k9 := 15) dX9_isOpen_1 rfl F_i9 (by decide) F_k93 (by omega) la_0 rfl ?_
  obtain ⟨hg, h⟩ := s_gd_of h
  exact r_zret C dX9_isOpen_4 rfl (s_z hg) h
noncomputable def f_X9_commitNumber (m : sM) : Option (sR Int32) :=
  s_bd (f_X9_requireOpen m) fun r1 m2 => some (.inl (m2.1 36 3), m2)
set_option maxRecDepth 20000 in
set_option maxHeartbeats 4000000 in
theorem c_X9_commitNumber (nw : Nat) (hnw : 109 ≤ nw) : s_Con s_i 0 nw yX9_commitNumber wsX9_commitNumber 14 185 1 (f_X9_commitNumber) (fun ad => [.ref (ad 0)]) := by
  refine s_con_of cX9_commitNumber 1 (some .int) RX9 (by decide) rfl rfl (fun _ => Nat.le_of_ble_eq_true rfl) (fun ad m res V C h => ?_)
  unfold f_X9_commitNumber at h
  have F_i9 : ∀ w ∈ wsX90, w ∈ wsX9_commitNumber := by decide +kernel
  have F_k19 : Cond.fieldLink RX9 19 "ShadowFile" "present" "LShadowFile$Version;" ∈ wsX9_commitNumber := by decide +kernel
  have F_i8 : ∀ w ∈ wsX80, w ∈ wsX9_commitNumber := by decide +kernel
  have F_k101 : Cond.fieldLink RX9 101 "ShadowFile$Version" "number" "I" ∈ wsX9_commitNumber := by decide +kernel
  show V 1 0 [(0, .ref (ad 0))] [] m
  refine r_aload_n C dX9_commitNumber_0 rfl 0 rfl ?_
  refine r_callV C (c_X9_requireOpen nw hnw) (As := []) (nn := 0) (stk := [.ref (ad 0)]) (ci := 9) dX9_commitNumber_1 gX9_commitNumber_X9_requireOpen ⟨rfl, by decide, by decide, by decide +kernel⟩ (by omega) la_0 rfl rfl rfl (by decide) rfl rfl (Nat.le_of_ble_eq_true rfl) (by decide) h (fun r1 m2 h => ?_)
  show V 0 4 [(0, .ref (ad 0))] [] m2
  refine r_aload_n C dX9_commitNumber_4 rfl 0 rfl ?_
  refine r_getr C (ci := 9) (k9 := 1) dX9_commitNumber_5 rfl F_i9 (by decide) F_k19 (by omega) la_0 rfl ?_
  refine r_geti C (ci := 8) (k9 := 3) dX9_commitNumber_8 rfl F_i8 (by decide) F_k101 (by omega) la_36 rfl ?_
  exact r_iret C dX9_commitNumber_11 rfl h
noncomputable def f_X9_size (m : sM) : Option (sR Int32) :=
  s_bd (f_X9_requireOpen m) fun r1 m2 => s_bd (f_J13_bitCount_95d88 (m2.2 36 2) m2) fun r3 m4 => some (.inl r3, m4)
set_option maxRecDepth 20000 in
set_option maxHeartbeats 4000000 in
theorem c_X9_size (nw : Nat) (hnw : 109 ≤ nw) : s_Con s_i 0 nw yX9_size wsX9_size 14 185 1 (f_X9_size) (fun ad => [.ref (ad 0)]) := by
  refine s_con_of cX9_size 1 (some .int) RX9 (by decide) rfl rfl (fun _ => Nat.le_of_ble_eq_true rfl) (fun ad m res V C h => ?_)
  unfold f_X9_size at h
  have F_i9 : ∀ w ∈ wsX90, w ∈ wsX9_size := by decide +kernel
  have F_k19 : Cond.fieldLink RX9 19 "ShadowFile" "present" "LShadowFile$Version;" ∈ wsX9_size := by decide +kernel
  have F_i8 : ∀ w ∈ wsX80, w ∈ wsX9_size := by decide +kernel
  have F_k225 : Cond.fieldLink RX9 225 "ShadowFile$Version" "keys" "J" ∈ wsX9_size := by decide +kernel
  show V 1 0 [(0, .ref (ad 0))] [] m
  refine r_aload_n C dX9_size_0 rfl 0 rfl ?_
  refine r_callV C (c_X9_requireOpen nw hnw) (As := []) (nn := 0) (stk := [.ref (ad 0)]) (ci := 9) dX9_size_1 gX9_size_X9_requireOpen ⟨rfl, by decide, by decide, by decide +kernel⟩ (by omega) la_0 rfl rfl rfl (by decide) rfl rfl (Nat.le_of_ble_eq_true rfl) (by decide) h (fun r1 m2 h => ?_)
  show V 0 4 [(0, .ref (ad 0))] [] m2
  refine r_aload_n C dX9_size_4 rfl 0 rfl ?_
  refine r_getr C (ci := 9) (k9 := 1) dX9_size_5 rfl F_i9 (by decide) F_k19 (by omega) la_0 rfl ?_
  refine r_getl C (ci := 8) (k9 := 2) dX9_size_8 rfl F_i8 (by decide) F_k225 (by omega) la_36 rfl ?_
  refine r_callS C (c_J13_bitCount_95d88 nw hnw (m2.2 36 2)) (As := [.long (m2.2 36 2)]) (nn := 1) (stk := [.long (m2.2 36 2)]) dX9_size_11 gX9_size_J13_bitCount_95d88 ⟨by decide, by decide, by decide +kernel⟩ rfl rfl (by decide) rfl rfl (Nat.le_of_ble_eq_true rfl) (by decide) h (fun r3 m4 h => ?_)
  show V 0 14 [(0, .ref (ad 0))] [.int r3] m4
  exact r_iret C dX9_size_14 rfl h
noncomputable def f_X9_recordOf (a0 : Nat) (p1 : Int32) (m : sM) : Option (sR Int32) :=
  s_bd (f_X9_isIn (m.2 a0 2) p1 m) fun r1 m2 => if r1 = 0 then (some (.inr "java/util/NoSuchElementException", m2)) else (s_ix p1 64 fun j3 => some (.inl (m2.1 (a0 + 2) j3), m2))
set_option maxRecDepth 20000 in
set_option maxHeartbeats 4000000 in
theorem c_X9_recordOf (nw : Nat) (hnw : 109 ≤ nw) (a0 : Nat) (p1 : Int32) (ha0 : isVer a0) : s_Con s_i 0 nw yX9_recordOf wsX9_recordOf 14 185 1 (f_X9_recordOf a0 p1) (fun ad => [.ref (ad a0), .int p1]) := by
  refine s_con_of cX9_recordOf 2 (some .int) RX9 (by decide) rfl rfl (fun _ => Nat.le_of_ble_eq_true rfl) (fun ad m res V C h => ?_)
  unfold f_X9_recordOf at h
  have F_i8 : ∀ w ∈ wsX80, w ∈ wsX9_recordOf := by decide +kernel
  have F_k225 : Cond.fieldLink RX9 225 "ShadowFile$Version" "keys" "J" ∈ wsX9_recordOf := by decide +kernel
  have F_q174 : Cond.classLink RX9 174 "java/util/NoSuchElementException" ∈ wsX9_recordOf := by decide +kernel
  have F_u174 : Cond.initialized "java/util/NoSuchElementException" ∈ wsX9_recordOf := by decide +kernel
  have F_z178 : ∀ w ∈ (vy_at RX9 178 "java/util/NoSuchElementException" "java/lang/RuntimeException" ["java/lang/Exception"]).filter goodWord, w ∈ wsX9_recordOf := by decide +kernel
  have F_y178 : ∀ w ∈ (vy_at RX9 178 "java/util/NoSuchElementException" "java/lang/RuntimeException" ["java/lang/Exception"]).filter (fun w => !goodWord w), w ∈ Cond.castable "java/util/NoSuchElementException" "java/util/NoSuchElementException" :: s_dec.map Cond.declares := by decide +kernel
  have F_v178 : ∀ w ∈ Cond.classLink RX9 174 "java/util/NoSuchElementException" :: Cond.initialized "java/util/NoSuchElementException" :: vy_at RX9 178 "java/util/NoSuchElementException" "java/lang/RuntimeException" ["java/lang/Exception"], vx_ot w = true := by decide +kernel
  have F_k228 : Cond.fieldLink RX9 228 "ShadowFile$Version" "values" "[I" ∈ wsX9_recordOf := by decide +kernel
  show V 1 0 [(0, .ref (ad a0)), (1, .int p1)] [] m
  refine r_aload_n C dX9_recordOf_0 rfl 0 rfl ?_
  refine r_getl C (ci := 8) (k9 := 2) dX9_recordOf_1 rfl F_i8 (by decide) F_k225 (by have := isVer_b ha0; omega) (isVer_0 ha0) rfl ?_
  refine r_iload_n C dX9_recordOf_4 rfl 1 rfl ?_
  refine r_callS C (c_X9_isIn nw hnw (m.2 a0 2) p1) (As := [.long (m.2 a0 2), .int p1]) (nn := 2) (stk := [.int p1, .long (m.2 a0 2)]) dX9_recordOf_5 gX9_recordOf_X9_isIn ⟨by decide, by decide, by decide +kernel⟩ rfl rfl (by decide) rfl rfl (Nat.le_of_ble_eq_true rfl) (by decide) h (fun r1 m2 h => ?_)
  show V 1 8 [(0, .ref (ad a0)), (1, .int p1)] [.int r1] m2
  refine r_if_ne C (tgt := 22) dX9_recordOf_8 (by decide) h (fun _ h => ?_) (fun _ h => ?_)
  · skip
    exact r_throwNW C (text := "the version has no record with the key") dX9_recordOf_11 dX9_recordOf_14 dX9_recordOf_15 dX9_recordOf_18 dX9_recordOf_21 (by decide) (by decide) F_q174 F_u174 F_z178 F_y178 F_v178 (by decide +kernel) (by decide +kernel) (by decide) (Nat.le_of_ble_eq_true rfl) (by decide) h
  · skip
    refine r_aload_n C dX9_recordOf_22 rfl 0 rfl ?_
    refine r_getr C (ci := 8) (k9 := 1) dX9_recordOf_23 rfl F_i8 (by decide) F_k228 (by have := isVer_b ha0; omega) (isVer_0 ha0) rfl ?_
    refine r_iload_n C dX9_recordOf_26 rfl 1 rfl ?_
    refine r_iald C dX9_recordOf_27 (by have := isVer_b ha0; omega) (isVer_2 ha0) h (fun j3 hj3 h => ?_)
    exact r_iret C dX9_recordOf_28 rfl h
noncomputable def f_X9_value (p1 : Int32) (m : sM) : Option (sR Int32) :=
  s_bd (f_X9_requireOpen m) fun r1 m2 => s_bd (f_X9_requireKey p1 m2) fun r3 m4 => s_bd (f_X9_recordOf 36 p1 m4) fun r5 m6 => some (.inl r5, m6)
set_option maxRecDepth 20000 in
set_option maxHeartbeats 4000000 in
theorem c_X9_value (nw : Nat) (hnw : 109 ≤ nw) (p1 : Int32) : s_Con s_i 0 nw yX9_value wsX9_value 16 230 3 (f_X9_value p1) (fun ad => [.ref (ad 0), .int p1]) := by
  refine s_con_of cX9_value 2 (some .int) RX9 (by decide) rfl rfl (fun _ => Nat.le_of_ble_eq_true rfl) (fun ad m res V C h => ?_)
  unfold f_X9_value at h
  have F_i9 : ∀ w ∈ wsX90, w ∈ wsX9_value := by decide +kernel
  have F_k19 : Cond.fieldLink RX9 19 "ShadowFile" "present" "LShadowFile$Version;" ∈ wsX9_value := by decide +kernel
  show V 3 0 [(0, .ref (ad 0)), (1, .int p1)] [] m
  refine r_aload_n C dX9_value_0 rfl 0 rfl ?_
  refine r_callV C (c_X9_requireOpen nw hnw) (As := []) (nn := 0) (stk := [.ref (ad 0)]) (ci := 9) dX9_value_1 gX9_value_X9_requireOpen ⟨rfl, by decide, by decide, by decide +kernel⟩ (by omega) la_0 rfl rfl rfl (by decide) rfl rfl (Nat.le_of_ble_eq_true rfl) (by decide) h (fun r1 m2 h => ?_)
  show V 2 4 [(0, .ref (ad 0)), (1, .int p1)] [] m2
  refine r_iload_n C dX9_value_4 rfl 1 rfl ?_
  refine r_callS C (c_X9_requireKey nw hnw p1) (As := [.int p1]) (nn := 1) (stk := [.int p1]) dX9_value_5 gX9_value_X9_requireKey ⟨by decide, by decide, by decide +kernel⟩ rfl rfl (by decide) rfl rfl (Nat.le_of_ble_eq_true rfl) (by decide) h (fun r3 m4 h => ?_)
  show V 1 8 [(0, .ref (ad 0)), (1, .int p1)] [] m4
  refine r_aload_n C dX9_value_8 rfl 0 rfl ?_
  refine r_getr C (ci := 9) (k9 := 1) dX9_value_9 rfl F_i9 (by decide) F_k19 (by omega) la_0 rfl ?_
  refine r_iload_n C dX9_value_12 rfl 1 rfl ?_
  refine r_callS C (c_X9_recordOf nw hnw 36 p1 (by unfold isVer; omega)) (As := [.ref (ad 36), .int p1]) (nn := 2) (stk := [.int p1, .ref (ad 36)]) dX9_value_13 gX9_value_X9_recordOf ⟨by decide, by decide, by decide +kernel⟩ rfl rfl (by decide) rfl rfl (Nat.le_of_ble_eq_true rfl) (by decide) h (fun r5 m6 h => ?_)
  show V 0 16 [(0, .ref (ad 0)), (1, .int p1)] [.int r5] m6
  exact r_iret C dX9_value_16 rfl h
noncomputable def f_X9_keyAt (p1 : Int32) (m : sM) : Option (sR Int32) :=
  s_bd (f_X9_requireOpen m) fun r1 m2 => s_bd (f_J13_bitCount_95d88 (m2.2 36 2) m2) fun r3 m4 => s_bd (f_X9_requireIndex p1 r3 m4) fun r5 m6 => s_bd (f_X9_memberAt (m6.2 36 2) p1 m6) fun r7 m8 => some (.inl r7, m8)
set_option maxRecDepth 20000 in
set_option maxHeartbeats 4000000 in
theorem c_X9_keyAt (nw : Nat) (hnw : 109 ≤ nw) (p1 : Int32) : s_Con s_i 0 nw yX9_keyAt wsX9_keyAt 16 230 2 (f_X9_keyAt p1) (fun ad => [.ref (ad 0), .int p1]) := by
  refine s_con_of cX9_keyAt 2 (some .int) RX9 (by decide) rfl rfl (fun _ => Nat.le_of_ble_eq_true rfl) (fun ad m res V C h => ?_)
  unfold f_X9_keyAt at h
  have F_i9 : ∀ w ∈ wsX90, w ∈ wsX9_keyAt := by decide +kernel
  have F_k19 : Cond.fieldLink RX9 19 "ShadowFile" "present" "LShadowFile$Version;" ∈ wsX9_keyAt := by decide +kernel
  have F_i8 : ∀ w ∈ wsX80, w ∈ wsX9_keyAt := by decide +kernel
  have F_k225 : Cond.fieldLink RX9 225 "ShadowFile$Version" "keys" "J" ∈ wsX9_keyAt := by decide +kernel
  show V 2 0 [(0, .ref (ad 0)), (1, .int p1)] [] m
  refine r_aload_n C dX9_keyAt_0 rfl 0 rfl ?_
  refine r_callV C (c_X9_requireOpen nw hnw) (As := []) (nn := 0) (stk := [.ref (ad 0)]) (ci := 9) dX9_keyAt_1 gX9_keyAt_X9_requireOpen ⟨rfl, by decide, by decide, by decide +kernel⟩ (by omega) la_0 rfl rfl rfl (by decide) rfl rfl (Nat.le_of_ble_eq_true rfl) (by decide) h (fun r1 m2 h => ?_)
  show V 1 4 [(0, .ref (ad 0)), (1, .int p1)] [] m2
  refine r_iload_n C dX9_keyAt_4 rfl 1 rfl ?_
  refine r_aload_n C dX9_keyAt_5 rfl 0 rfl ?_
  refine r_getr C (ci := 9) (k9 := 1) dX9_keyAt_6 rfl F_i9 (by decide) F_k19 (by omega) la_0 rfl ?_
  refine r_getl C (ci := 8) (k9 := 2) dX9_keyAt_9 rfl F_i8 (by decide) F_k225 (by omega) la_36 rfl ?_
  refine r_callS C (c_J13_bitCount_95d88 nw hnw (m2.2 36 2)) (As := [.long (m2.2 36 2)]) (nn := 1) (stk := [.long (m2.2 36 2), .int p1]) dX9_keyAt_12 gX9_keyAt_J13_bitCount_95d88 ⟨by decide, by decide, by decide +kernel⟩ rfl rfl (by decide) rfl rfl (Nat.le_of_ble_eq_true rfl) (by decide) h (fun r3 m4 h => ?_)
  show V 1 15 [(0, .ref (ad 0)), (1, .int p1)] [.int r3, .int p1] m4
  refine r_callS C (c_X9_requireIndex nw hnw p1 r3) (As := [.int p1, .int r3]) (nn := 2) (stk := [.int r3, .int p1]) dX9_keyAt_15 gX9_keyAt_X9_requireIndex ⟨by decide, by decide, by decide +kernel⟩ rfl rfl (by decide) rfl rfl (Nat.le_of_ble_eq_true rfl) (by decide) h (fun r5 m6 h => ?_)
  show V 0 18 [(0, .ref (ad 0)), (1, .int p1)] [] m6
  refine r_aload_n C dX9_keyAt_18 rfl 0 rfl ?_
  refine r_getr C (ci := 9) (k9 := 1) dX9_keyAt_19 rfl F_i9 (by decide) F_k19 (by omega) la_0 rfl ?_
  refine r_getl C (ci := 8) (k9 := 2) dX9_keyAt_22 rfl F_i8 (by decide) F_k225 (by omega) la_36 rfl ?_
  refine r_iload_n C dX9_keyAt_25 rfl 1 rfl ?_
  refine r_callS C (c_X9_memberAt nw hnw (m6.2 36 2) p1) (As := [.long (m6.2 36 2), .int p1]) (nn := 2) (stk := [.int p1, .long (m6.2 36 2)]) dX9_keyAt_26 gX9_keyAt_X9_memberAt ⟨by decide, by decide, by decide +kernel⟩ rfl rfl (by decide) rfl rfl (Nat.le_of_ble_eq_true rfl) (by decide) h (fun r7 m8 h => ?_)
  show V 0 29 [(0, .ref (ad 0)), (1, .int p1)] [.int r7] m8
  exact r_iret C dX9_keyAt_29 rfl h
noncomputable def f_X9_sum_L33 (y2_33 : Int32) (e73_33 : Int32 → sM → Option (sR Int32)) : Nat → Int32 → Int32 → sM → Option (sR Int32)
  | 0, _, _, _ => none
  | n + 1, x3_33, x4_33, m33_ =>
    if y2_33 < x4_33 then (e73_33 x3_33 m33_) else (s_bd (f_X9_isIn (m33_.2 36 2) x4_33 m33_) fun r7 m8 => s_jn (fun (x3_67 : Int32) => f_X9_sum_L33 y2_33 e73_33 n x3_67 (x4_33 + 1) m8) fun k67 => if r7 = 0 then (k67 x3_33) else (s_ix x4_33 64 fun j9 => k67 (x3_33 + (m8.1 38 j9))))
noncomputable def f_X9_sum (p1 : Int32) (p2 : Int32) (m : sM) : Option (sR Int32) :=
  s_bd (f_X9_requireOpen m) fun r1 m2 => s_bd (f_X9_requireKey p1 m2) fun r3 m4 => s_bd (f_X9_requireKey p2 m4) fun r5 m6 => if p1 ≤ p2 then (s_jn (fun (x3_73 : Int32) (m73_ : sM) => some (.inl x3_73, m73_)) fun e73_33 => f_X9_sum_L33 p2 e73_33 5000 0 p1 m6) else (some (.inr "java/lang/IllegalArgumentException", m6))
set_option maxRecDepth 20000 in
set_option maxHeartbeats 4000000 in
theorem c_X9_sum (nw : Nat) (hnw : 109 ≤ nw) (p1 : Int32) (p2 : Int32) : s_Con s_i 0 nw yX9_sum wsX9_sum 14 185 4 (f_X9_sum p1 p2) (fun ad => [.ref (ad 0), .int p1, .int p2]) := by
  refine s_con_of cX9_sum 5 (some .int) RX9 (by decide) rfl rfl (fun _ => Nat.le_of_ble_eq_true rfl) (fun ad m res V C h => ?_)
  unfold f_X9_sum at h
  have F_i9 : ∀ w ∈ wsX90, w ∈ wsX9_sum := by decide +kernel
  have F_k19 : Cond.fieldLink RX9 19 "ShadowFile" "present" "LShadowFile$Version;" ∈ wsX9_sum := by decide +kernel
  have F_i8 : ∀ w ∈ wsX80, w ∈ wsX9_sum := by decide +kernel
  have F_k225 : Cond.fieldLink RX9 225 "ShadowFile$Version" "keys" "J" ∈ wsX9_sum := by decide +kernel
  have F_k228 : Cond.fieldLink RX9 228 "ShadowFile$Version" "values" "[I" ∈ wsX9_sum := by decide +kernel
  have F_q130 : Cond.classLink RX9 130 "java/lang/IllegalArgumentException" ∈ wsX9_sum := by decide +kernel
  have F_u130 : Cond.initialized "java/lang/IllegalArgumentException" ∈ wsX9_sum := by decide +kernel
  have F_z134 : ∀ w ∈ (vx_atS RX9 134 "java/lang/IllegalArgumentException" ["java/lang/RuntimeException", "java/lang/Exception"]).filter goodWord, w ∈ wsX9_sum := by decide +kernel
  have F_y134 : ∀ w ∈ (vx_atS RX9 134 "java/lang/IllegalArgumentException" ["java/lang/RuntimeException", "java/lang/Exception"]).filter (fun w => !goodWord w), w ∈ Cond.castable "java/lang/IllegalArgumentException" "java/lang/IllegalArgumentException" :: s_dec.map Cond.declares := by decide +kernel
  have F_v134 : ∀ w ∈ Cond.classLink RX9 130 "java/lang/IllegalArgumentException" :: Cond.initialized "java/lang/IllegalArgumentException" :: vx_atS RX9 134 "java/lang/IllegalArgumentException" ["java/lang/RuntimeException", "java/lang/Exception"], vx_ot w = true := by decide +kernel
  show V 4 0 [(0, .ref (ad 0)), (1, .int p1), (2, .int p2)] [] m
  refine r_aload_n C dX9_sum_0 rfl 0 rfl ?_
  refine r_callV C (c_X9_requireOpen nw hnw) (As := []) (nn := 0) (stk := [.ref (ad 0)]) (ci := 9) dX9_sum_1 gX9_sum_X9_requireOpen ⟨rfl, by decide, by decide, by decide +kernel⟩ (by omega) la_0 rfl rfl rfl (by decide) rfl rfl (Nat.le_of_ble_eq_true rfl) (by decide) h (fun r1 m2 h => ?_)
  show V 3 4 [(0, .ref (ad 0)), (1, .int p1), (2, .int p2)] [] m2
  refine r_iload_n C dX9_sum_4 rfl 1 rfl ?_
  refine r_callS C (c_X9_requireKey nw hnw p1) (As := [.int p1]) (nn := 1) (stk := [.int p1]) dX9_sum_5 gX9_sum_X9_requireKey ⟨by decide, by decide, by decide +kernel⟩ rfl rfl (by decide) rfl rfl (Nat.le_of_ble_eq_true rfl) (by decide) h (fun r3 m4 h => ?_)
  show V 2 8 [(0, .ref (ad 0)), (1, .int p1), (2, .int p2)] [] m4
  refine r_iload_n C dX9_sum_8 rfl 2 rfl ?_
  refine r_callS C (c_X9_requireKey nw hnw p2) (As := [.int p2]) (nn := 1) (stk := [.int p2]) dX9_sum_9 gX9_sum_X9_requireKey ⟨by decide, by decide, by decide +kernel⟩ rfl rfl (by decide) rfl rfl (Nat.le_of_ble_eq_true rfl) (by decide) h (fun r5 m6 h => ?_)
  show V 1 12 [(0, .ref (ad 0)), (1, .int p1), (2, .int p2)] [] m6
  refine r_iload_n C dX9_sum_12 rfl 1 rfl ?_
  refine r_iload_n C dX9_sum_13 rfl 2 rfl ?_
  refine r_icmp_le C (tgt := 28) dX9_sum_14 (by decide) h (fun _ h => ?_) (fun _ h => ?_)
  · skip
    refine r_iconst C (v := 0) dX9_sum_28 (by decide) ?_
    refine r_istore_n C dX9_sum_29 rfl (by decide) (show _ = [(3, .int 0), (0, .ref (ad 0)), (1, .int p1), (2, .int p2)] from rfl) ?_
    refine r_iload_n C dX9_sum_30 rfl 2 rfl ?_
    refine r_istore C dX9_sum_31 (by decide) (show _ = [(4, .int p1), (3, .int 0), (0, .ref (ad 0)), (1, .int p1), (2, .int p2)] from rfl) ?_
    refine s_join h (fun e73_33 => ∀ (x3_73 : Int32) (m73_ : sM), e73_33 x3_73 m73_ = some res → V 1 73 [(3, .int x3_73)] [] m73_) ?_ (fun e73_33 he73_33 h => ?_)
    · intro x3_73 m73_ h
      refine r_iload_n C dX9_sum_73 rfl 0 rfl ?_
      exact r_iret C dX9_sum_74 rfl h
    have L33 : ∀ (n : Nat) (x3_33 : Int32) (x4_33 : Int32) (m33_ : sM), f_X9_sum_L33 p2 e73_33 n x3_33 x4_33 m33_ = some res → V 1 33 [(0, .ref (ad 0)), (2, .int p2), (3, .int x3_33), (4, .int x4_33)] [] m33_ := by
      intro n
      induction n with
      | zero => intro x3_33 x4_33 m33_ h; rw [f_X9_sum_L33] at h; cases h
      | succ n ih =>
        intro x3_33 x4_33 m33_ h
        rw [f_X9_sum_L33] at h
        refine r_iload C dX9_sum_33 3 rfl ?_
        refine r_iload_n C dX9_sum_35 rfl 1 rfl ?_
        refine r_icmp_gt C (tgt := 73) dX9_sum_36 (by decide) h (fun _ h => ?_) (fun _ h => ?_)
        · skip
          refine r_sub C [2] (show _ = [(3, .int x3_33)] from rfl) ?_
          exact he73_33 x3_33 m33_ h
        · skip
          refine r_aload_n C dX9_sum_39 rfl 0 rfl ?_
          refine r_getr C (ci := 9) (k9 := 1) dX9_sum_40 rfl F_i9 (by decide) F_k19 (by omega) la_0 rfl ?_
          refine r_getl C (ci := 8) (k9 := 2) dX9_sum_43 rfl F_i8 (by decide) F_k225 (by omega) la_36 rfl ?_
          refine r_iload C dX9_sum_46 3 rfl ?_
          refine r_callS C (c_X9_isIn nw hnw (m33_.2 36 2) x4_33) (As := [.long (m33_.2 36 2), .int x4_33]) (nn := 2) (stk := [.int x4_33, .long (m33_.2 36 2)]) dX9_sum_48 gX9_sum_X9_isIn ⟨by decide, by decide, by decide +kernel⟩ rfl rfl (by decide) rfl rfl (Nat.le_of_ble_eq_true rfl) (by decide) h (fun r7 m8 h => ?_)
          show V 1 51 [(0, .ref (ad 0)), (2, .int p2), (3, .int x3_33), (4, .int x4_33)] [.int r7] m8
          refine s_join h (fun k67 => ∀ (x3_67 : Int32), k67 x3_67 = some res → V 1 67 [(0, .ref (ad 0)), (2, .int p2), (3, .int x3_67), (4, .int x4_33)] [] m8) ?_ (fun k67 hk67 h => ?_)
          · intro x3_67 h
            refine r_iinc C (v := x4_33 + 1) dX9_sum_67 3 rfl rfl (by decide) (show _ = [(4, .int (x4_33 + 1)), (0, .ref (ad 0)), (2, .int p2), (3, .int x3_67)] from rfl) ?_
            refine r_goto C (tgt := 33) dX9_sum_70 (by decide) ?_
            refine r_sub C [1, 2, 3, 0] (show _ = [(0, .ref (ad 0)), (2, .int p2), (3, .int x3_67), (4, .int (x4_33 + 1))] from rfl) ?_
            exact ih x3_67 (x4_33 + 1) m8 h
          refine r_if_eq C (tgt := 67) dX9_sum_51 (by decide) h (fun _ h => ?_) (fun _ h => ?_)
          · skip
            exact hk67 x3_33 h
          · skip
            refine r_iload_n C dX9_sum_54 rfl 2 rfl ?_
            refine r_aload_n C dX9_sum_55 rfl 0 rfl ?_
            refine r_getr C (ci := 9) (k9 := 1) dX9_sum_56 rfl F_i9 (by decide) F_k19 (by omega) la_0 rfl ?_
            refine r_getr C (ci := 8) (k9 := 1) dX9_sum_59 rfl F_i8 (by decide) F_k228 (by omega) la_36 rfl ?_
            refine r_iload C dX9_sum_62 3 rfl ?_
            refine r_iald C dX9_sum_64 (by omega) la_38 h (fun j9 hj9 h => ?_)
            refine r_iadd C dX9_sum_65 ?_
            refine r_istore_n C dX9_sum_66 rfl (by decide) (show _ = [(3, .int (x3_33 + (m8.1 38 j9))), (0, .ref (ad 0)), (2, .int p2), (4, .int x4_33)] from rfl) ?_
            refine r_sub C [1, 2, 0, 3] (show _ = [(0, .ref (ad 0)), (2, .int p2), (3, .int (x3_33 + (m8.1 38 j9))), (4, .int x4_33)] from rfl) ?_
            exact hk67 (x3_33 + (m8.1 38 j9)) h
    refine r_sub C [2, 4, 1, 0] (show _ = [(0, .ref (ad 0)), (2, .int p2), (3, .int 0), (4, .int p1)] from rfl) ?_
    exact L33 5000 0 p1 m6 h
  · skip
    exact r_throwW C (text := "the lowest key is greater than the highest") (names := ["java/lang/RuntimeException", "java/lang/Exception"]) dX9_sum_17 dX9_sum_20 dX9_sum_21 dX9_sum_24 dX9_sum_27 (by decide) (by decide) F_q130 F_u130 F_z134 F_y134 F_v134 (by decide +kernel) (by decide +kernel) (by decide) (Nat.le_of_ble_eq_true rfl) (by decide) h
noncomputable def f_X9_pageBlock (p1 : Int32) (m : sM) : Option (sR Int32) :=
  s_bd (f_X9_requireOpen m) fun r1 m2 => s_bd (f_X9_requireIndex p1 8 m2) fun r3 m4 => s_ix p1 8 fun j5 => some (.inl (m4.1 37 j5), m4)
set_option maxRecDepth 20000 in
set_option maxHeartbeats 4000000 in
theorem c_X9_pageBlock (nw : Nat) (hnw : 109 ≤ nw) (p1 : Int32) : s_Con s_i 0 nw yX9_pageBlock wsX9_pageBlock 14 185 2 (f_X9_pageBlock p1) (fun ad => [.ref (ad 0), .int p1]) := by
  refine s_con_of cX9_pageBlock 2 (some .int) RX9 (by decide) rfl rfl (fun _ => Nat.le_of_ble_eq_true rfl) (fun ad m res V C h => ?_)
  unfold f_X9_pageBlock at h
  have F_i9 : ∀ w ∈ wsX90, w ∈ wsX9_pageBlock := by decide +kernel
  have F_k19 : Cond.fieldLink RX9 19 "ShadowFile" "present" "LShadowFile$Version;" ∈ wsX9_pageBlock := by decide +kernel
  have F_i8 : ∀ w ∈ wsX80, w ∈ wsX9_pageBlock := by decide +kernel
  have F_k297 : Cond.fieldLink RX9 297 "ShadowFile$Version" "blocks" "[I" ∈ wsX9_pageBlock := by decide +kernel
  show V 2 0 [(0, .ref (ad 0)), (1, .int p1)] [] m
  refine r_aload_n C dX9_pageBlock_0 rfl 0 rfl ?_
  refine r_callV C (c_X9_requireOpen nw hnw) (As := []) (nn := 0) (stk := [.ref (ad 0)]) (ci := 9) dX9_pageBlock_1 gX9_pageBlock_X9_requireOpen ⟨rfl, by decide, by decide, by decide +kernel⟩ (by omega) la_0 rfl rfl rfl (by decide) rfl rfl (Nat.le_of_ble_eq_true rfl) (by decide) h (fun r1 m2 h => ?_)
  show V 1 4 [(0, .ref (ad 0)), (1, .int p1)] [] m2
  refine r_iload_n C dX9_pageBlock_4 rfl 1 rfl ?_
  refine r_bipush C (v := 8) dX9_pageBlock_5 (by decide) ?_
  refine r_callS C (c_X9_requireIndex nw hnw p1 8) (As := [.int p1, .int 8]) (nn := 2) (stk := [.int 8, .int p1]) dX9_pageBlock_7 gX9_pageBlock_X9_requireIndex ⟨by decide, by decide, by decide +kernel⟩ rfl rfl (by decide) rfl rfl (Nat.le_of_ble_eq_true rfl) (by decide) h (fun r3 m4 h => ?_)
  show V 0 10 [(0, .ref (ad 0)), (1, .int p1)] [] m4
  refine r_aload_n C dX9_pageBlock_10 rfl 0 rfl ?_
  refine r_getr C (ci := 9) (k9 := 1) dX9_pageBlock_11 rfl F_i9 (by decide) F_k19 (by omega) la_0 rfl ?_
  refine r_getr C (ci := 8) (k9 := 0) dX9_pageBlock_14 rfl F_i8 (by decide) F_k297 (by omega) la_36 rfl ?_
  refine r_iload_n C dX9_pageBlock_17 rfl 1 rfl ?_
  refine r_iald C dX9_pageBlock_18 (by omega) la_37 h (fun j5 hj5 h => ?_)
  exact r_iret C dX9_pageBlock_19 rfl h
noncomputable def f_X9_freeCount (m : sM) : Option (sR Int32) :=
  s_bd (f_X9_requireOpen m) fun r1 m2 => s_bd (f_X9_freeBlocks m2) fun r3 m4 => s_bd (f_J13_bitCount_95d88 r3 m4) fun r5 m6 => some (.inl r5, m6)
set_option maxRecDepth 20000 in
set_option maxHeartbeats 4000000 in
theorem c_X9_freeCount (nw : Nat) (hnw : 109 ≤ nw) : s_Con s_i 0 nw yX9_freeCount wsX9_freeCount 18 275 1 (f_X9_freeCount) (fun ad => [.ref (ad 0)]) := by
  refine s_con_of cX9_freeCount 1 (some .int) RX9 (by decide) rfl rfl (fun _ => Nat.le_of_ble_eq_true rfl) (fun ad m res V C h => ?_)
  unfold f_X9_freeCount at h
  show V 1 0 [(0, .ref (ad 0))] [] m
  refine r_aload_n C dX9_freeCount_0 rfl 0 rfl ?_
  refine r_callV C (c_X9_requireOpen nw hnw) (As := []) (nn := 0) (stk := [.ref (ad 0)]) (ci := 9) dX9_freeCount_1 gX9_freeCount_X9_requireOpen ⟨rfl, by decide, by decide, by decide +kernel⟩ (by omega) la_0 rfl rfl rfl (by decide) rfl rfl (Nat.le_of_ble_eq_true rfl) (by decide) h (fun r1 m2 h => ?_)
  show V 0 4 [(0, .ref (ad 0))] [] m2
  refine r_aload_n C dX9_freeCount_4 rfl 0 rfl ?_
  refine r_callV C (c_X9_freeBlocks nw hnw) (As := []) (nn := 0) (stk := [.ref (ad 0)]) (ci := 9) dX9_freeCount_5 gX9_freeCount_X9_freeBlocks ⟨rfl, by decide, by decide, by decide +kernel⟩ (by omega) la_0 rfl rfl rfl (by decide) rfl rfl (Nat.le_of_ble_eq_true rfl) (by decide) h (fun r3 m4 h => ?_)
  show V 0 8 [(0, .ref (ad 0))] [.long r3] m4
  refine r_callS C (c_J13_bitCount_95d88 nw hnw r3) (As := [.long r3]) (nn := 1) (stk := [.long r3]) dX9_freeCount_8 gX9_freeCount_J13_bitCount_95d88 ⟨by decide, by decide, by decide +kernel⟩ rfl rfl (by decide) rfl rfl (Nat.le_of_ble_eq_true rfl) (by decide) h (fun r5 m6 h => ?_)
  show V 0 11 [(0, .ref (ad 0))] [.int r5] m6
  exact r_iret C dX9_freeCount_11 rfl h
noncomputable def f_X9_freeBlock (p1 : Int32) (m : sM) : Option (sR Int32) :=
  s_bd (f_X9_requireOpen m) fun r1 m2 => s_bd (f_X9_freeBlocks m2) fun r3 m4 => s_bd (f_J13_bitCount_95d88 r3 m4) fun r5 m6 => s_bd (f_X9_requireIndex p1 r5 m6) fun r7 m8 => s_bd (f_X9_memberAt r3 p1 m8) fun r9 m10 => some (.inl r9, m10)
set_option maxRecDepth 20000 in
set_option maxHeartbeats 4000000 in
theorem c_X9_freeBlock (nw : Nat) (hnw : 109 ≤ nw) (p1 : Int32) : s_Con s_i 0 nw yX9_freeBlock wsX9_freeBlock 18 275 2 (f_X9_freeBlock p1) (fun ad => [.ref (ad 0), .int p1]) := by
  refine s_con_of cX9_freeBlock 4 (some .int) RX9 (by decide) rfl rfl (fun _ => Nat.le_of_ble_eq_true rfl) (fun ad m res V C h => ?_)
  unfold f_X9_freeBlock at h
  show V 2 0 [(0, .ref (ad 0)), (1, .int p1)] [] m
  refine r_aload_n C dX9_freeBlock_0 rfl 0 rfl ?_
  refine r_callV C (c_X9_requireOpen nw hnw) (As := []) (nn := 0) (stk := [.ref (ad 0)]) (ci := 9) dX9_freeBlock_1 gX9_freeBlock_X9_requireOpen ⟨rfl, by decide, by decide, by decide +kernel⟩ (by omega) la_0 rfl rfl rfl (by decide) rfl rfl (Nat.le_of_ble_eq_true rfl) (by decide) h (fun r1 m2 h => ?_)
  show V 1 4 [(0, .ref (ad 0)), (1, .int p1)] [] m2
  refine r_aload_n C dX9_freeBlock_4 rfl 0 rfl ?_
  refine r_callV C (c_X9_freeBlocks nw hnw) (As := []) (nn := 0) (stk := [.ref (ad 0)]) (ci := 9) dX9_freeBlock_5 gX9_freeBlock_X9_freeBlocks ⟨rfl, by decide, by decide, by decide +kernel⟩ (by omega) la_0 rfl rfl rfl (by decide) rfl rfl (Nat.le_of_ble_eq_true rfl) (by decide) h (fun r3 m4 h => ?_)
  show V 1 8 [(0, .ref (ad 0)), (1, .int p1)] [.long r3] m4
  refine r_lstore_n C dX9_freeBlock_8 rfl (by decide) (show _ = [(2, .long r3), (0, .ref (ad 0)), (1, .int p1)] from rfl) ?_
  refine r_iload_n C dX9_freeBlock_9 rfl 2 rfl ?_
  refine r_lload_n C dX9_freeBlock_10 rfl 0 rfl ?_
  refine r_callS C (c_J13_bitCount_95d88 nw hnw r3) (As := [.long r3]) (nn := 1) (stk := [.long r3, .int p1]) dX9_freeBlock_11 gX9_freeBlock_J13_bitCount_95d88 ⟨by decide, by decide, by decide +kernel⟩ rfl rfl (by decide) rfl rfl (Nat.le_of_ble_eq_true rfl) (by decide) h (fun r5 m6 h => ?_)
  show V 1 14 [(2, .long r3), (0, .ref (ad 0)), (1, .int p1)] [.int r5, .int p1] m6
  refine r_callS C (c_X9_requireIndex nw hnw p1 r5) (As := [.int p1, .int r5]) (nn := 2) (stk := [.int r5, .int p1]) dX9_freeBlock_14 gX9_freeBlock_X9_requireIndex ⟨by decide, by decide, by decide +kernel⟩ rfl rfl (by decide) rfl rfl (Nat.le_of_ble_eq_true rfl) (by decide) h (fun r7 m8 h => ?_)
  show V 0 17 [(2, .long r3), (0, .ref (ad 0)), (1, .int p1)] [] m8
  refine r_lload_n C dX9_freeBlock_17 rfl 0 rfl ?_
  refine r_iload_n C dX9_freeBlock_18 rfl 2 rfl ?_
  refine r_callS C (c_X9_memberAt nw hnw r3 p1) (As := [.long r3, .int p1]) (nn := 2) (stk := [.int p1, .long r3]) dX9_freeBlock_19 gX9_freeBlock_X9_memberAt ⟨by decide, by decide, by decide +kernel⟩ rfl rfl (by decide) rfl rfl (Nat.le_of_ble_eq_true rfl) (by decide) h (fun r9 m10 h => ?_)
  show V 0 22 [(2, .long r3), (0, .ref (ad 0)), (1, .int p1)] [.int r9] m10
  exact r_iret C dX9_freeBlock_22 rfl h
noncomputable def f_X8_isOurRoot (a : Nat) (a1 : Nat) (m : sM) : Option (sR Int32) :=
  s_ix 1 13 fun j1 => s_jn (fun (s0_25 : Int32) => s_gd (s0_25 = 0 ∨ s0_25 = 1) (some (.inl s0_25, m))) fun k25 => s_jn (k25 0) fun k24 => if (m.1 a1 j1) = (m.1 a 3) then (s_ix 2 13 fun j2 => if (m.1 a1 j2) = (m.1 a 5) then (k25 1) else (k24)) else (k24)
set_option maxRecDepth 20000 in
set_option maxHeartbeats 4000000 in
theorem c_X8_isOurRoot (nw : Nat) (hnw : 109 ≤ nw) (a : Nat) (a1 : Nat) (ha : isVer a) (ha1 : isRow a1) : s_Con s_i 0 nw yX8_isOurRoot wsX8_isOurRoot 12 140 0 (f_X8_isOurRoot a a1) (fun ad => [.ref (ad a), .ref (ad a1)]) := by
  refine s_con_of cX8_isOurRoot 2 (some .boolean) RX8 (by decide) rfl rfl (fun _ => Nat.le_of_ble_eq_true rfl) (fun ad m res V C h => ?_)
  unfold f_X8_isOurRoot at h
  have F_i8 : ∀ w ∈ wsX80, w ∈ wsX8_isOurRoot := by decide +kernel
  have F_k22 : Cond.fieldLink RX8 22 "ShadowFile$Version" "number" "I" ∈ wsX8_isOurRoot := by decide +kernel
  have F_k29 : Cond.fieldLink RX8 29 "ShadowFile$Version" "table" "I" ∈ wsX8_isOurRoot := by decide +kernel
  show V 0 0 [(0, .ref (ad a)), (1, .ref (ad a1))] [] m
  refine r_aload_n C dX8_isOurRoot_0 rfl 1 rfl ?_
  refine r_iconst C (v := 1) dX8_isOurRoot_1 (by decide) ?_
  refine r_iald C dX8_isOurRoot_2 (by have := isRow_b ha1; omega) (isRow_0 ha1) h (fun j1 hj1 h => ?_)
  refine r_aload_n C dX8_isOurRoot_3 rfl 0 rfl ?_
  refine r_geti C (ci := 8) (k9 := 3) dX8_isOurRoot_4 rfl F_i8 (by decide) F_k22 (by have := isVer_b ha; omega) (isVer_0 ha) rfl ?_
  refine s_join h (fun k25 => ∀ (s0_25 : Int32), k25 s0_25 = some res → V 0 25 [] [.int s0_25] m) ?_ (fun k25 hk25 h => ?_)
  · intro s0_25 h
    obtain ⟨hg, h⟩ := s_gd_of h
    exact r_zret C dX8_isOurRoot_25 rfl (s_z hg) h
  refine s_join h (fun k24 => k24  = some res → V 0 24 [] [] m) ?_ (fun k24 hk24 h => ?_)
  · intro  h
    refine r_iconst C (v := 0) dX8_isOurRoot_24 (by decide) ?_
    exact hk25 0 h
  refine r_icmp_ne C (tgt := 24) dX8_isOurRoot_7 (by decide) h (fun _ h => ?_) (fun _ h => ?_)
  · skip
    refine r_aload_n C dX8_isOurRoot_10 rfl 1 rfl ?_
    refine r_iconst C (v := 2) dX8_isOurRoot_11 (by decide) ?_
    refine r_iald C dX8_isOurRoot_12 (by have := isRow_b ha1; omega) (isRow_0 ha1) h (fun j2 hj2 h => ?_)
    refine r_aload_n C dX8_isOurRoot_13 rfl 0 rfl ?_
    refine r_geti C (ci := 8) (k9 := 5) dX8_isOurRoot_14 rfl F_i8 (by decide) F_k29 (by have := isVer_b ha; omega) (isVer_0 ha) rfl ?_
    refine r_icmp_ne C (tgt := 24) dX8_isOurRoot_17 (by decide) h (fun _ h => ?_) (fun _ h => ?_)
    · skip
      refine r_iconst C (v := 1) dX8_isOurRoot_20 (by decide) ?_
      refine r_goto C (tgt := 25) dX8_isOurRoot_21 (by decide) ?_
      refine r_sub C [] (show _ = [] from rfl) ?_
      exact hk25 1 h
    · skip
      refine r_sub C [] (show _ = [] from rfl) ?_
      exact hk24 h
  · skip
    refine r_sub C [] (show _ = [] from rfl) ?_
    exact hk24 h
noncomputable def f_X8_isOurTable_L2 (a : Nat) (a1_2 : Nat) (m : sM) (e30_2 : Option (sR Int32)) (e22_2 : Option (sR Int32)) : Nat → Int32 → Option (sR Int32)
  | 0, _ => none
  | n + 1, x2_2 =>
    if 8 ≤ x2_2 then (e30_2) else (s_ix (4 + x2_2) 13 fun j1 => s_ix x2_2 8 fun j2 => if (m.1 a1_2 j1) = (m.1 (a + 1) j2) then (f_X8_isOurTable_L2 a a1_2 m e30_2 e22_2 n (x2_2 + 1)) else (e22_2))
noncomputable def f_X8_isOurTable (a : Nat) (a1 : Nat) (m : sM) : Option (sR Int32) :=
  s_jn (some (.inl 1, m)) fun e30_2 => s_jn (some (.inl 0, m)) fun e22_2 => f_X8_isOurTable_L2 a a1 m e30_2 e22_2 5000 0
set_option maxRecDepth 20000 in
set_option maxHeartbeats 4000000 in
theorem c_X8_isOurTable (nw : Nat) (hnw : 109 ≤ nw) (a : Nat) (a1 : Nat) (ha : isVer a) (ha1 : isRow a1) : s_Con s_i 0 nw yX8_isOurTable wsX8_isOurTable 12 140 0 (f_X8_isOurTable a a1) (fun ad => [.ref (ad a), .ref (ad a1)]) := by
  refine s_con_of cX8_isOurTable 3 (some .boolean) RX8 (by decide) rfl rfl (fun _ => Nat.le_of_ble_eq_true rfl) (fun ad m res V C h => ?_)
  unfold f_X8_isOurTable at h
  have F_i8 : ∀ w ∈ wsX80, w ∈ wsX8_isOurTable := by decide +kernel
  have F_k9 : Cond.fieldLink RX8 9 "ShadowFile$Version" "blocks" "[I" ∈ wsX8_isOurTable := by decide +kernel
  show V 0 0 [(0, .ref (ad a)), (1, .ref (ad a1))] [] m
  refine r_iconst C (v := 0) dX8_isOurTable_0 (by decide) ?_
  refine r_istore_n C dX8_isOurTable_1 rfl (by decide) (show _ = [(2, .int 0), (0, .ref (ad a)), (1, .ref (ad a1))] from rfl) ?_
  refine s_join h (fun e30_2 => e30_2  = some res → V 0 30 [] [] m) ?_ (fun e30_2 he30_2 h => ?_)
  · intro  h
    refine r_iconst C (v := 1) dX8_isOurTable_30 (by decide) ?_
    exact r_zret C dX8_isOurTable_31 rfl (by decide) h
  refine s_join h (fun e22_2 => e22_2  = some res → V 0 22 [] [] m) ?_ (fun e22_2 he22_2 h => ?_)
  · intro  h
    refine r_iconst C (v := 0) dX8_isOurTable_22 (by decide) ?_
    exact r_zret C dX8_isOurTable_23 rfl (by decide) h
  have L2 : ∀ (n : Nat) (x2_2 : Int32), f_X8_isOurTable_L2 a a1 m e30_2 e22_2 n x2_2 = some res → V 0 2 [(0, .ref (ad a)), (1, .ref (ad a1)), (2, .int x2_2)] [] m := by
    intro n
    induction n with
    | zero => intro x2_2 h; rw [f_X8_isOurTable_L2] at h; cases h
    | succ n ih =>
      intro x2_2 h
      rw [f_X8_isOurTable_L2] at h
      refine r_iload_n C dX8_isOurTable_2 rfl 2 rfl ?_
      refine r_bipush C (v := 8) dX8_isOurTable_3 (by decide) ?_
      refine r_icmp_ge C (tgt := 30) dX8_isOurTable_5 (by decide) h (fun _ h => ?_) (fun _ h => ?_)
      · skip
        refine r_sub C [] (show _ = [] from rfl) ?_
        exact he30_2 h
      · skip
        refine r_aload_n C dX8_isOurTable_8 rfl 1 rfl ?_
        refine r_iconst C (v := 4) dX8_isOurTable_9 (by decide) ?_
        refine r_iload_n C dX8_isOurTable_10 rfl 2 rfl ?_
        refine r_iadd C dX8_isOurTable_11 ?_
        refine r_iald C dX8_isOurTable_12 (by have := isRow_b ha1; omega) (isRow_0 ha1) h (fun j1 hj1 h => ?_)
        refine r_aload_n C dX8_isOurTable_13 rfl 0 rfl ?_
        refine r_getr C (ci := 8) (k9 := 0) dX8_isOurTable_14 rfl F_i8 (by decide) F_k9 (by have := isVer_b ha; omega) (isVer_0 ha) rfl ?_
        refine r_iload_n C dX8_isOurTable_17 rfl 2 rfl ?_
        refine r_iald C dX8_isOurTable_18 (by have := isVer_b ha; omega) (isVer_1 ha) h (fun j2 hj2 h => ?_)
        refine r_icmp_eq C (tgt := 24) dX8_isOurTable_19 (by decide) h (fun _ h => ?_) (fun _ h => ?_)
        · skip
          refine r_iinc C (v := x2_2 + 1) dX8_isOurTable_24 2 rfl rfl (by decide) (show _ = [(2, .int (x2_2 + 1)), (0, .ref (ad a)), (1, .ref (ad a1))] from rfl) ?_
          refine r_goto C (tgt := 2) dX8_isOurTable_27 (by decide) ?_
          refine r_sub C [1, 2, 0] (show _ = [(0, .ref (ad a)), (1, .ref (ad a1)), (2, .int (x2_2 + 1))] from rfl) ?_
          exact ih (x2_2 + 1) h
        · skip
          refine r_sub C [] (show _ = [] from rfl) ?_
          exact he22_2 h
  refine r_sub C [1, 2, 0] (show _ = [(0, .ref (ad a)), (1, .ref (ad a1)), (2, .int 0)] from rfl) ?_
  exact L2 5000 0 h
noncomputable def f_X8_isOurPage_L2 (a : Nat) (a1_2 : Nat) (y2_2 : Int32) (e72_2 : sM → Option (sR Int32)) (e64_2 : sM → Option (sR Int32)) (e35_2 : sM → Option (sR Int32)) : Nat → Int32 → sM → Option (sR Int32)
  | 0, _, _ => none
  | n + 1, x3_2, m2_ =>
    if 8 ≤ x3_2 then (e72_2  m2_) else (s_bd (f_X8_keyOf y2_2 x3_2 m2_) fun r2 m3 => s_ix 3 13 fun j4 => s_bd (f_X9_isIn (Int32.toInt64 (m3.1 a1_2 j4)) x3_2 m3) fun r5 m6 => s_bd (f_X9_isIn (m6.2 a 2) r2 m6) fun r7 m8 => if r5 = r7 then (s_bd (f_X9_isIn (m8.2 a 2) r2 m8) fun r9 m10 => s_jn (f_X8_isOurPage_L2 a a1_2 y2_2 e72_2 e64_2 e35_2 n (x3_2 + 1) m10) fun k66 => if r9 = 0 then (k66) else (s_ix (4 + x3_2) 13 fun j11 => s_ix r2 64 fun j12 => if (m10.1 a1_2 j11) = (m10.1 (a + 2) j12) then (k66) else (e64_2  m10))) else (e35_2  m8))
noncomputable def f_X8_isOurPage (a : Nat) (a1 : Nat) (p2 : Int32) (m : sM) : Option (sR Int32) :=
  s_jn (fun (m72_ : sM) => s_ix 2 13 fun j1 => s_jn (fun (s0_84 : Int32) => s_gd (s0_84 = 0 ∨ s0_84 = 1) (some (.inl s0_84, m72_))) fun k84 => if (m72_.1 a1 j1) = p2 then (k84 1) else (k84 0)) fun e72_2 => s_jn (fun (m64_ : sM) => some (.inl 0, m64_)) fun e64_2 => s_jn (fun (m35_ : sM) => some (.inl 0, m35_)) fun e35_2 => f_X8_isOurPage_L2 a a1 p2 e72_2 e64_2 e35_2 5000 0 m
set_option maxRecDepth 20000 in
set_option maxHeartbeats 4000000 in
theorem c_X8_isOurPage (nw : Nat) (hnw : 109 ≤ nw) (a : Nat) (a1 : Nat) (p2 : Int32) (ha : isVer a) (ha1 : isRow a1) : s_Con s_i 0 nw yX8_isOurPage wsX8_isOurPage 14 185 0 (f_X8_isOurPage a a1 p2) (fun ad => [.ref (ad a), .ref (ad a1), .int p2]) := by
  refine s_con_of cX8_isOurPage 5 (some .boolean) RX8 (by decide) rfl rfl (fun _ => Nat.le_of_ble_eq_true rfl) (fun ad m res V C h => ?_)
  unfold f_X8_isOurPage at h
  have F_tyX9_isIn : Cond.static yX9_isIn ∈ wsX8_isOurPage := by decide +kernel
  have F_nyX9_isIn : Cond.initialized RX9 ∈ wsX8_isOurPage := by decide +kernel
  have F_i8 : ∀ w ∈ wsX80, w ∈ wsX8_isOurPage := by decide +kernel
  have F_k18 : Cond.fieldLink RX8 18 "ShadowFile$Version" "keys" "J" ∈ wsX8_isOurPage := by decide +kernel
  have F_k15 : Cond.fieldLink RX8 15 "ShadowFile$Version" "values" "[I" ∈ wsX8_isOurPage := by decide +kernel
  show V 0 0 [(0, .ref (ad a)), (1, .ref (ad a1)), (2, .int p2)] [] m
  refine r_iconst C (v := 0) dX8_isOurPage_0 (by decide) ?_
  refine r_istore_n C dX8_isOurPage_1 rfl (by decide) (show _ = [(3, .int 0), (0, .ref (ad a)), (1, .ref (ad a1)), (2, .int p2)] from rfl) ?_
  refine s_join h (fun e72_2 => ∀ (m72_ : sM), e72_2 m72_ = some res → V 0 72 [(1, .ref (ad a1)), (2, .int p2)] [] m72_) ?_ (fun e72_2 he72_2 h => ?_)
  · intro m72_ h
    refine r_aload_n C dX8_isOurPage_72 rfl 0 rfl ?_
    refine r_iconst C (v := 2) dX8_isOurPage_73 (by decide) ?_
    refine r_iald C dX8_isOurPage_74 (by have := isRow_b ha1; omega) (isRow_0 ha1) h (fun j1 hj1 h => ?_)
    refine r_iload_n C dX8_isOurPage_75 rfl 1 rfl ?_
    refine s_join h (fun k84 => ∀ (s0_84 : Int32), k84 s0_84 = some res → V 0 84 [] [.int s0_84] m72_) ?_ (fun k84 hk84 h => ?_)
    · intro s0_84 h
      obtain ⟨hg, h⟩ := s_gd_of h
      exact r_zret C dX8_isOurPage_84 rfl (s_z hg) h
    refine r_icmp_ne C (tgt := 83) dX8_isOurPage_76 (by decide) h (fun _ h => ?_) (fun _ h => ?_)
    · skip
      refine r_iconst C (v := 1) dX8_isOurPage_79 (by decide) ?_
      refine r_goto C (tgt := 84) dX8_isOurPage_80 (by decide) ?_
      refine r_sub C [] (show _ = [] from rfl) ?_
      exact hk84 1 h
    · skip
      refine r_iconst C (v := 0) dX8_isOurPage_83 (by decide) ?_
      refine r_sub C [] (show _ = [] from rfl) ?_
      exact hk84 0 h
  refine s_join h (fun e64_2 => ∀ (m64_ : sM), e64_2 m64_ = some res → V 0 64 [] [] m64_) ?_ (fun e64_2 he64_2 h => ?_)
  · intro m64_ h
    refine r_iconst C (v := 0) dX8_isOurPage_64 (by decide) ?_
    exact r_zret C dX8_isOurPage_65 rfl (by decide) h
  refine s_join h (fun e35_2 => ∀ (m35_ : sM), e35_2 m35_ = some res → V 0 35 [] [] m35_) ?_ (fun e35_2 he35_2 h => ?_)
  · intro m35_ h
    refine r_iconst C (v := 0) dX8_isOurPage_35 (by decide) ?_
    exact r_zret C dX8_isOurPage_36 rfl (by decide) h
  have L2 : ∀ (n : Nat) (x3_2 : Int32) (m2_ : sM), f_X8_isOurPage_L2 a a1 p2 e72_2 e64_2 e35_2 n x3_2 m2_ = some res → V 0 2 [(0, .ref (ad a)), (1, .ref (ad a1)), (2, .int p2), (3, .int x3_2)] [] m2_ := by
    intro n
    induction n with
    | zero => intro x3_2 m2_ h; rw [f_X8_isOurPage_L2] at h; cases h
    | succ n ih =>
      intro x3_2 m2_ h
      rw [f_X8_isOurPage_L2] at h
      refine r_iload_n C dX8_isOurPage_2 rfl 3 rfl ?_
      refine r_bipush C (v := 8) dX8_isOurPage_3 (by decide) ?_
      refine r_icmp_ge C (tgt := 72) dX8_isOurPage_5 (by decide) h (fun _ h => ?_) (fun _ h => ?_)
      · skip
        refine r_sub C [1, 2] (show _ = [(1, .ref (ad a1)), (2, .int p2)] from rfl) ?_
        exact he72_2 m2_ h
      · skip
        refine r_iload_n C dX8_isOurPage_8 rfl 2 rfl ?_
        refine r_iload_n C dX8_isOurPage_9 rfl 3 rfl ?_
        refine r_callS C (c_X8_keyOf nw hnw p2 x3_2) (As := [.int p2, .int x3_2]) (nn := 2) (stk := [.int x3_2, .int p2]) dX8_isOurPage_10 gX8_isOurPage_X8_keyOf ⟨by decide, by decide, by decide +kernel⟩ rfl rfl (by decide) rfl rfl (Nat.le_of_ble_eq_true rfl) (by decide) h (fun r2 m3 h => ?_)
        show V 0 13 [(0, .ref (ad a)), (1, .ref (ad a1)), (2, .int p2), (3, .int x3_2)] [.int r2] m3
        refine r_istore C dX8_isOurPage_13 (by decide) (show _ = [(4, .int r2), (0, .ref (ad a)), (1, .ref (ad a1)), (2, .int p2), (3, .int x3_2)] from rfl) ?_
        refine r_aload_n C dX8_isOurPage_15 rfl 2 rfl ?_
        refine r_iconst C (v := 3) dX8_isOurPage_16 (by decide) ?_
        refine r_iald C dX8_isOurPage_17 (by have := isRow_b ha1; omega) (isRow_0 ha1) h (fun j4 hj4 h => ?_)
        refine r_i2l C dX8_isOurPage_18 ?_
        refine r_iload_n C dX8_isOurPage_19 rfl 4 rfl ?_
        refine r_callN C (c_X9_isIn nw hnw (Int32.toInt64 (m3.1 a1 j4)) x3_2) (host := RX9) (As := [.long (Int32.toInt64 (m3.1 a1 j4)), .int x3_2]) (nn := 2) (stk := [.int x3_2, .long (Int32.toInt64 (m3.1 a1 j4))]) dX8_isOurPage_20 gX8_isOurPage_X9_isIn_n49 (by decide +kernel) F_tyX9_isIn F_nyX9_isIn ⟨by decide, by decide, by decide +kernel⟩ rfl rfl (by decide) rfl rfl (Nat.le_of_ble_eq_true rfl) (by decide) h (fun r5 m6 h => ?_)
        show V 0 23 [(4, .int r2), (0, .ref (ad a)), (1, .ref (ad a1)), (2, .int p2), (3, .int x3_2)] [.int r5] m6
        refine r_aload_n C dX8_isOurPage_23 rfl 1 rfl ?_
        refine r_getl C (ci := 8) (k9 := 2) dX8_isOurPage_24 rfl F_i8 (by decide) F_k18 (by have := isVer_b ha; omega) (isVer_0 ha) rfl ?_
        refine r_iload C dX8_isOurPage_27 0 rfl ?_
        refine r_callN C (c_X9_isIn nw hnw (m6.2 a 2) r2) (host := RX9) (As := [.long (m6.2 a 2), .int r2]) (nn := 2) (stk := [.int r2, .long (m6.2 a 2), .int r5]) dX8_isOurPage_29 gX8_isOurPage_X9_isIn_n49 (by decide +kernel) F_tyX9_isIn F_nyX9_isIn ⟨by decide, by decide, by decide +kernel⟩ rfl rfl (by decide) rfl rfl (Nat.le_of_ble_eq_true rfl) (by decide) h (fun r7 m8 h => ?_)
        show V 0 32 [(4, .int r2), (0, .ref (ad a)), (1, .ref (ad a1)), (2, .int p2), (3, .int x3_2)] [.int r7, .int r5] m8
        refine r_icmp_eq C (tgt := 37) dX8_isOurPage_32 (by decide) h (fun _ h => ?_) (fun _ h => ?_)
        · skip
          refine r_aload_n C dX8_isOurPage_37 rfl 1 rfl ?_
          refine r_getl C (ci := 8) (k9 := 2) dX8_isOurPage_38 rfl F_i8 (by decide) F_k18 (by have := isVer_b ha; omega) (isVer_0 ha) rfl ?_
          refine r_iload C dX8_isOurPage_41 0 rfl ?_
          refine r_callN C (c_X9_isIn nw hnw (m8.2 a 2) r2) (host := RX9) (As := [.long (m8.2 a 2), .int r2]) (nn := 2) (stk := [.int r2, .long (m8.2 a 2)]) dX8_isOurPage_43 gX8_isOurPage_X9_isIn_n49 (by decide +kernel) F_tyX9_isIn F_nyX9_isIn ⟨by decide, by decide, by decide +kernel⟩ rfl rfl (by decide) rfl rfl (Nat.le_of_ble_eq_true rfl) (by decide) h (fun r9 m10 h => ?_)
          show V 0 46 [(4, .int r2), (0, .ref (ad a)), (1, .ref (ad a1)), (2, .int p2), (3, .int x3_2)] [.int r9] m10
          refine s_join h (fun k66 => k66  = some res → V 0 66 [(0, .ref (ad a)), (1, .ref (ad a1)), (2, .int p2), (3, .int x3_2)] [] m10) ?_ (fun k66 hk66 h => ?_)
          · intro  h
            refine r_iinc C (v := x3_2 + 1) dX8_isOurPage_66 3 rfl rfl (by decide) (show _ = [(3, .int (x3_2 + 1)), (0, .ref (ad a)), (1, .ref (ad a1)), (2, .int p2)] from rfl) ?_
            refine r_goto C (tgt := 2) dX8_isOurPage_69 (by decide) ?_
            refine r_sub C [1, 2, 3, 0] (show _ = [(0, .ref (ad a)), (1, .ref (ad a1)), (2, .int p2), (3, .int (x3_2 + 1))] from rfl) ?_
            exact ih (x3_2 + 1) m10 h
          refine r_if_eq C (tgt := 66) dX8_isOurPage_46 (by decide) h (fun _ h => ?_) (fun _ h => ?_)
          · skip
            refine r_sub C [1, 2, 3, 4] (show _ = [(0, .ref (ad a)), (1, .ref (ad a1)), (2, .int p2), (3, .int x3_2)] from rfl) ?_
            exact hk66 h
          · skip
            refine r_aload_n C dX8_isOurPage_49 rfl 2 rfl ?_
            refine r_iconst C (v := 4) dX8_isOurPage_50 (by decide) ?_
            refine r_iload_n C dX8_isOurPage_51 rfl 4 rfl ?_
            refine r_iadd C dX8_isOurPage_52 ?_
            refine r_iald C dX8_isOurPage_53 (by have := isRow_b ha1; omega) (isRow_0 ha1) h (fun j11 hj11 h => ?_)
            refine r_aload_n C dX8_isOurPage_54 rfl 1 rfl ?_
            refine r_getr C (ci := 8) (k9 := 1) dX8_isOurPage_55 rfl F_i8 (by decide) F_k15 (by have := isVer_b ha; omega) (isVer_0 ha) rfl ?_
            refine r_iload C dX8_isOurPage_58 0 rfl ?_
            refine r_iald C dX8_isOurPage_60 (by have := isVer_b ha; omega) (isVer_2 ha) h (fun j12 hj12 h => ?_)
            refine r_icmp_eq C (tgt := 66) dX8_isOurPage_61 (by decide) h (fun _ h => ?_) (fun _ h => ?_)
            · skip
              refine r_sub C [1, 2, 3, 4] (show _ = [(0, .ref (ad a)), (1, .ref (ad a1)), (2, .int p2), (3, .int x3_2)] from rfl) ?_
              exact hk66 h
            · skip
              refine r_sub C [] (show _ = [] from rfl) ?_
              exact he64_2 m10 h
        · skip
          refine r_sub C [] (show _ = [] from rfl) ?_
          exact he35_2 m8 h
  refine r_sub C [1, 2, 3, 0] (show _ = [(0, .ref (ad a)), (1, .ref (ad a1)), (2, .int p2), (3, .int 0)] from rfl) ?_
  exact L2 5000 0 m h
