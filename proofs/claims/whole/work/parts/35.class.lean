noncomputable def f_X9_freeBlocks_L39 (e75_39 : Int64 → sM → Option (sR Int64)) : Nat → Int64 → Int32 → sM → Option (sR Int64)
  | 0, _, _, _ => none
  | n + 1, x1_39, x3_39, m39_ =>
    if 2 ≤ x3_39 then (e75_39 x1_39 m39_) else (s_ix x3_39 2 fun j3 => s_jn (fun (x1_69 : Int64) (m69_ : sM) => f_X9_freeBlocks_L39 e75_39 n x1_69 (x3_39 + 1) m69_) fun k69 => if (m39_.1 49 j3) = 0 then (k69 x1_39 m39_) else (s_ix x3_39 2 fun j4 => s_bd (f_X8_usedBlocks (42 + 3 * j4) m39_) fun r5 m6 => k69 (x1_39 &&& (r5 ^^^ (-1))) m6))
noncomputable def f_X9_freeBlocks_L4 (e23_4 : Int64 → sM → Option (sR Int64)) : Nat → Int64 → Int32 → sM → Option (sR Int64)
  | 0, _, _, _ => none
  | n + 1, x1_4, x3_4, m4_ =>
    if 32 ≤ x3_4 then (e23_4 x1_4 m4_) else (s_bd (f_X9_setOf x3_4 m4_) fun r7 m8 => f_X9_freeBlocks_L4 e23_4 n (x1_4 ||| r7) (x3_4 + 1) m8)
noncomputable def f_X9_freeBlocks (m : sM) : Option (sR Int64) :=
  s_jn (fun (x1_23 : Int64) (m23_ : sM) => s_bd (f_X8_usedBlocks 36 m23_) fun r1 m2 => s_jn (fun (x1_75 : Int64) (m75_ : sM) => some (.inl x1_75, m75_)) fun e75_39 => f_X9_freeBlocks_L39 e75_39 5000 (x1_23 &&& (r1 ^^^ (-1))) 0 m2) fun e23_4 => f_X9_freeBlocks_L4 e23_4 5000 0 2 m
set_option maxRecDepth 20000 in
set_option maxHeartbeats 4000000 in
theorem c_X9_freeBlocks (nw : Nat) (hnw : 109 ≤ nw) : s_Con s_l 0 nw yX9_freeBlocks wsX9_freeBlocks 16 230 0 (f_X9_freeBlocks) (fun ad => [.ref (ad 0)]) := by
  refine s_con_of cX9_freeBlocks 4 (some .long) RX9 (by decide) rfl rfl (fun _ => Nat.le_of_ble_eq_true rfl) (fun ad m res V C h => ?_)
  unfold f_X9_freeBlocks at h
  have F_i9 : ∀ w ∈ wsX90, w ∈ wsX9_freeBlocks := by decide +kernel
  have F_k19 : Cond.fieldLink RX9 19 "ShadowFile" "present" "LShadowFile$Version;" ∈ wsX9_freeBlocks := by decide +kernel
  have F_w403 : Cond.constantLong RX9 403 (-1) ∈ wsX9_freeBlocks := by decide +kernel
  have F_k58 : Cond.fieldLink RX9 58 "ShadowFile" "pinUsed" "[Z" ∈ wsX9_freeBlocks := by decide +kernel
  have F_k54 : Cond.fieldLink RX9 54 "ShadowFile" "pinned" "[LShadowFile$Version;" ∈ wsX9_freeBlocks := by decide +kernel
  show V 0 0 [(0, .ref (ad 0))] [] m
  refine r_lconst C (v := 0) dX9_freeBlocks_0 (by decide) ?_
  refine r_lstore_n C dX9_freeBlocks_1 rfl (by decide) (show _ = [(1, .long 0), (0, .ref (ad 0))] from rfl) ?_
  refine r_iconst C (v := 2) dX9_freeBlocks_2 (by decide) ?_
  refine r_istore_n C dX9_freeBlocks_3 rfl (by decide) (show _ = [(3, .int 2), (1, .long 0), (0, .ref (ad 0))] from rfl) ?_
  refine s_join h (fun e23_4 => ∀ (x1_23 : Int64) (m23_ : sM), e23_4 x1_23 m23_ = some res → V 0 23 [(0, .ref (ad 0)), (1, .long x1_23)] [] m23_) ?_ (fun e23_4 he23_4 h => ?_)
  · intro x1_23 m23_ h
    refine r_lload_n C dX9_freeBlocks_23 rfl 1 rfl ?_
    refine r_aload_n C dX9_freeBlocks_24 rfl 0 rfl ?_
    refine r_getr C (ci := 9) (k9 := 1) dX9_freeBlocks_25 rfl F_i9 (by decide) F_k19 (by omega) la_0 rfl ?_
    refine r_callV C (c_X8_usedBlocks nw hnw 36 (by unfold isVer; omega)) (As := []) (nn := 0) (stk := [.ref (ad 36), .long x1_23]) (ci := 8) dX9_freeBlocks_28 gX9_freeBlocks_X8_usedBlocks ⟨rfl, by decide, by decide, by decide +kernel⟩ (by omega) la_36 rfl rfl rfl (by decide) rfl rfl (Nat.le_of_ble_eq_true rfl) (by decide) h (fun r1 m2 h => ?_)
    show V 0 31 [(0, .ref (ad 0)), (1, .long x1_23)] [.long r1, .long x1_23] m2
    refine r_ldc2 C dX9_freeBlocks_31 F_w403 ?_
    refine r_lxor C dX9_freeBlocks_34 ?_
    refine r_land C dX9_freeBlocks_35 ?_
    refine r_lstore_n C dX9_freeBlocks_36 rfl (by decide) (show _ = [(1, .long (x1_23 &&& (r1 ^^^ (-1)))), (0, .ref (ad 0))] from rfl) ?_
    refine r_iconst C (v := 0) dX9_freeBlocks_37 (by decide) ?_
    refine r_istore_n C dX9_freeBlocks_38 rfl (by decide) (show _ = [(3, .int 0), (1, .long (x1_23 &&& (r1 ^^^ (-1)))), (0, .ref (ad 0))] from rfl) ?_
    refine s_join h (fun e75_39 => ∀ (x1_75 : Int64) (m75_ : sM), e75_39 x1_75 m75_ = some res → V 0 75 [(1, .long x1_75)] [] m75_) ?_ (fun e75_39 he75_39 h => ?_)
    · intro x1_75 m75_ h
      refine r_lload_n C dX9_freeBlocks_75 rfl 0 rfl ?_
      exact r_lret C dX9_freeBlocks_76 rfl h
    have L39 : ∀ (n : Nat) (x1_39 : Int64) (x3_39 : Int32) (m39_ : sM), f_X9_freeBlocks_L39 e75_39 n x1_39 x3_39 m39_ = some res → V 0 39 [(0, .ref (ad 0)), (1, .long x1_39), (3, .int x3_39)] [] m39_ := by
      intro n
      induction n with
      | zero => intro x1_39 x3_39 m39_ h; rw [f_X9_freeBlocks_L39] at h; cases h
      | succ n ih =>
        intro x1_39 x3_39 m39_ h
        rw [f_X9_freeBlocks_L39] at h
        refine r_iload_n C dX9_freeBlocks_39 rfl 2 rfl ?_
        refine r_iconst C (v := 2) dX9_freeBlocks_40 (by decide) ?_
        refine r_icmp_ge C (tgt := 75) dX9_freeBlocks_41 (by decide) h (fun _ h => ?_) (fun _ h => ?_)
        · skip
          refine r_sub C [1] (show _ = [(1, .long x1_39)] from rfl) ?_
          exact he75_39 x1_39 m39_ h
        · skip
          refine r_aload_n C dX9_freeBlocks_44 rfl 0 rfl ?_
          refine r_getr C (ci := 9) (k9 := 9) dX9_freeBlocks_45 rfl F_i9 (by decide) F_k58 (by omega) la_0 rfl ?_
          refine r_iload_n C dX9_freeBlocks_48 rfl 2 rfl ?_
          refine r_zald C dX9_freeBlocks_49 (by omega) la_49 h (fun j3 hj3 h => ?_)
          refine s_join h (fun k69 => ∀ (x1_69 : Int64) (m69_ : sM), k69 x1_69 m69_ = some res → V 0 69 [(0, .ref (ad 0)), (1, .long x1_69), (3, .int x3_39)] [] m69_) ?_ (fun k69 hk69 h => ?_)
          · intro x1_69 m69_ h
            refine r_iinc C (v := x3_39 + 1) dX9_freeBlocks_69 2 rfl rfl (by decide) (show _ = [(3, .int (x3_39 + 1)), (0, .ref (ad 0)), (1, .long x1_69)] from rfl) ?_
            refine r_goto C (tgt := 39) dX9_freeBlocks_72 (by decide) ?_
            refine r_sub C [1, 2, 0] (show _ = [(0, .ref (ad 0)), (1, .long x1_69), (3, .int (x3_39 + 1))] from rfl) ?_
            exact ih x1_69 (x3_39 + 1) m69_ h
          refine r_if_eq C (tgt := 69) dX9_freeBlocks_50 (by decide) h (fun _ h => ?_) (fun _ h => ?_)
          · skip
            exact hk69 x1_39 m39_ h
          · skip
            refine r_lload_n C dX9_freeBlocks_53 rfl 1 rfl ?_
            refine r_aload_n C dX9_freeBlocks_54 rfl 0 rfl ?_
            refine r_getr C (ci := 9) (k9 := 8) dX9_freeBlocks_55 rfl F_i9 (by decide) F_k54 (by omega) la_0 rfl ?_
            refine r_iload_n C dX9_freeBlocks_58 rfl 2 rfl ?_
            refine r_aald C (b0 := 42) (d0 := 3) dX9_freeBlocks_59 (by omega) la_48 (fun _ => rfl) rfl h (fun j4 hj4 h => ?_)
            refine r_callV C (c_X8_usedBlocks nw hnw (42 + 3 * j4) (isVer_p hj4)) (As := []) (nn := 0) (stk := [.ref (ad (42 + 3 * j4)), .long x1_39]) (ci := 8) dX9_freeBlocks_60 gX9_freeBlocks_X8_usedBlocks ⟨rfl, by decide, by decide, by decide +kernel⟩ (by have := isVer_b (isVer_p hj4); omega) (isVer_0 (isVer_p hj4)) rfl rfl rfl (by decide) rfl rfl (Nat.le_of_ble_eq_true rfl) (by decide) h (fun r5 m6 h => ?_)
            show V 0 63 [(0, .ref (ad 0)), (1, .long x1_39), (3, .int x3_39)] [.long r5, .long x1_39] m6
            refine r_ldc2 C dX9_freeBlocks_63 F_w403 ?_
            refine r_lxor C dX9_freeBlocks_66 ?_
            refine r_land C dX9_freeBlocks_67 ?_
            refine r_lstore_n C dX9_freeBlocks_68 rfl (by decide) (show _ = [(1, .long (x1_39 &&& (r5 ^^^ (-1)))), (0, .ref (ad 0)), (3, .int x3_39)] from rfl) ?_
            refine r_sub C [1, 0, 2] (show _ = [(0, .ref (ad 0)), (1, .long (x1_39 &&& (r5 ^^^ (-1)))), (3, .int x3_39)] from rfl) ?_
            exact hk69 (x1_39 &&& (r5 ^^^ (-1))) m6 h
    refine r_sub C [2, 1, 0] (show _ = [(0, .ref (ad 0)), (1, .long (x1_23 &&& (r1 ^^^ (-1)))), (3, .int 0)] from rfl) ?_
    exact L39 5000 (x1_23 &&& (r1 ^^^ (-1))) 0 m2 h
  have L4 : ∀ (n : Nat) (x1_4 : Int64) (x3_4 : Int32) (m4_ : sM), f_X9_freeBlocks_L4 e23_4 n x1_4 x3_4 m4_ = some res → V 0 4 [(0, .ref (ad 0)), (1, .long x1_4), (3, .int x3_4)] [] m4_ := by
    intro n
    induction n with
    | zero => intro x1_4 x3_4 m4_ h; rw [f_X9_freeBlocks_L4] at h; cases h
    | succ n ih =>
      intro x1_4 x3_4 m4_ h
      rw [f_X9_freeBlocks_L4] at h
      refine r_iload_n C dX9_freeBlocks_4 rfl 2 rfl ?_
      refine r_bipush C (v := 32) dX9_freeBlocks_5 (by decide) ?_
      refine r_icmp_ge C (tgt := 23) dX9_freeBlocks_7 (by decide) h (fun _ h => ?_) (fun _ h => ?_)
      · skip
        refine r_sub C [0, 1] (show _ = [(0, .ref (ad 0)), (1, .long x1_4)] from rfl) ?_
        exact he23_4 x1_4 m4_ h
      · skip
        refine r_lload_n C dX9_freeBlocks_10 rfl 1 rfl ?_
        refine r_iload_n C dX9_freeBlocks_11 rfl 2 rfl ?_
        refine r_callS C (c_X9_setOf nw hnw x3_4) (As := [.int x3_4]) (nn := 1) (stk := [.int x3_4, .long x1_4]) dX9_freeBlocks_12 gX9_freeBlocks_X9_setOf ⟨by decide, by decide, by decide +kernel⟩ rfl rfl (by decide) rfl rfl (Nat.le_of_ble_eq_true rfl) (by decide) h (fun r7 m8 h => ?_)
        show V 0 15 [(0, .ref (ad 0)), (1, .long x1_4), (3, .int x3_4)] [.long r7, .long x1_4] m8
        refine r_lor C dX9_freeBlocks_15 ?_
        refine r_lstore_n C dX9_freeBlocks_16 rfl (by decide) (show _ = [(1, .long (x1_4 ||| r7)), (0, .ref (ad 0)), (3, .int x3_4)] from rfl) ?_
        refine r_iinc C (v := x3_4 + 1) dX9_freeBlocks_17 2 rfl rfl (by decide) (show _ = [(3, .int (x3_4 + 1)), (1, .long (x1_4 ||| r7)), (0, .ref (ad 0))] from rfl) ?_
        refine r_goto C (tgt := 4) dX9_freeBlocks_20 (by decide) ?_
        refine r_sub C [2, 1, 0] (show _ = [(0, .ref (ad 0)), (1, .long (x1_4 ||| r7)), (3, .int (x3_4 + 1))] from rfl) ?_
        exact ih (x1_4 ||| r7) (x3_4 + 1) m8 h
  refine r_sub C [2, 1, 0] (show _ = [(0, .ref (ad 0)), (1, .long 0), (3, .int 2)] from rfl) ?_
  exact L4 5000 0 2 m h
noncomputable def f_X9_memberAt_L5 (y0_5 : Int64) (e37_5 : sM → Option (sR Int32)) (e25_5 : Int32 → sM → Option (sR Int32)) : Nat → Int32 → Int32 → sM → Option (sR Int32)
  | 0, _, _, _ => none
  | n + 1, x3_5, x4_5, m5_ =>
    if 64 ≤ x4_5 then (e37_5  m5_) else (s_bd (f_X9_isIn y0_5 x4_5 m5_) fun r1 m2 => s_jn (fun (x3_31 : Int32) => f_X9_memberAt_L5 y0_5 e37_5 e25_5 n x3_31 (x4_5 + 1) m2) fun k31 => if r1 = 0 then (k31 x3_5) else (if x3_5 = 0 then (e25_5 x4_5 m2) else (k31 (x3_5 + (-1)))))
noncomputable def f_X9_memberAt (p0 : Int64) (p2 : Int32) (m : sM) : Option (sR Int32) :=
  s_jn (fun (m37_ : sM) => some (.inl (-1), m37_)) fun e37_5 => s_jn (fun (x4_25 : Int32) (m25_ : sM) => some (.inl x4_25, m25_)) fun e25_5 => f_X9_memberAt_L5 p0 e37_5 e25_5 5000 p2 0 m
set_option maxRecDepth 20000 in
set_option maxHeartbeats 4000000 in
theorem c_X9_memberAt (nw : Nat) (hnw : 109 ≤ nw) (p0 : Int64) (p2 : Int32) : s_Con s_i 0 nw yX9_memberAt wsX9_memberAt 14 185 0 (f_X9_memberAt p0 p2) (fun ad => [.long p0, .int p2]) := by
  refine s_con_of cX9_memberAt 5 (some .int) RX9 (by decide) rfl rfl (fun _ => Nat.le_of_ble_eq_true rfl) (fun ad m res V C h => ?_)
  unfold f_X9_memberAt at h
  show V 0 0 [(0, .long p0), (2, .int p2)] [] m
  refine r_iload_n C dX9_memberAt_0 rfl 1 rfl ?_
  refine r_istore_n C dX9_memberAt_1 rfl (by decide) (show _ = [(3, .int p2), (0, .long p0), (2, .int p2)] from rfl) ?_
  refine r_iconst C (v := 0) dX9_memberAt_2 (by decide) ?_
  refine r_istore C dX9_memberAt_3 (by decide) (show _ = [(4, .int 0), (3, .int p2), (0, .long p0), (2, .int p2)] from rfl) ?_
  refine s_join h (fun e37_5 => ∀ (m37_ : sM), e37_5 m37_ = some res → V 0 37 [] [] m37_) ?_ (fun e37_5 he37_5 h => ?_)
  · intro m37_ h
    refine r_iconst C (v := -1) dX9_memberAt_37 (by decide) ?_
    exact r_iret C dX9_memberAt_38 rfl h
  refine s_join h (fun e25_5 => ∀ (x4_25 : Int32) (m25_ : sM), e25_5 x4_25 m25_ = some res → V 0 25 [(4, .int x4_25)] [] m25_) ?_ (fun e25_5 he25_5 h => ?_)
  · intro x4_25 m25_ h
    refine r_iload C dX9_memberAt_25 0 rfl ?_
    exact r_iret C dX9_memberAt_27 rfl h
  have L5 : ∀ (n : Nat) (x3_5 : Int32) (x4_5 : Int32) (m5_ : sM), f_X9_memberAt_L5 p0 e37_5 e25_5 n x3_5 x4_5 m5_ = some res → V 0 5 [(0, .long p0), (3, .int x3_5), (4, .int x4_5)] [] m5_ := by
    intro n
    induction n with
    | zero => intro x3_5 x4_5 m5_ h; rw [f_X9_memberAt_L5] at h; cases h
    | succ n ih =>
      intro x3_5 x4_5 m5_ h
      rw [f_X9_memberAt_L5] at h
      refine r_iload C dX9_memberAt_5 2 rfl ?_
      refine r_bipush C (v := 64) dX9_memberAt_7 (by decide) ?_
      refine r_icmp_ge C (tgt := 37) dX9_memberAt_9 (by decide) h (fun _ h => ?_) (fun _ h => ?_)
      · skip
        refine r_sub C [] (show _ = [] from rfl) ?_
        exact he37_5 m5_ h
      · skip
        refine r_lload_n C dX9_memberAt_12 rfl 0 rfl ?_
        refine r_iload C dX9_memberAt_13 2 rfl ?_
        refine r_callS C (c_X9_isIn nw hnw p0 x4_5) (As := [.long p0, .int x4_5]) (nn := 2) (stk := [.int x4_5, .long p0]) dX9_memberAt_15 gX9_memberAt_X9_isIn ⟨by decide, by decide, by decide +kernel⟩ rfl rfl (by decide) rfl rfl (Nat.le_of_ble_eq_true rfl) (by decide) h (fun r1 m2 h => ?_)
        show V 0 18 [(0, .long p0), (3, .int x3_5), (4, .int x4_5)] [.int r1] m2
        refine s_join h (fun k31 => ∀ (x3_31 : Int32), k31 x3_31 = some res → V 0 31 [(0, .long p0), (3, .int x3_31), (4, .int x4_5)] [] m2) ?_ (fun k31 hk31 h => ?_)
        · intro x3_31 h
          refine r_iinc C (v := x4_5 + 1) dX9_memberAt_31 2 rfl rfl (by decide) (show _ = [(4, .int (x4_5 + 1)), (0, .long p0), (3, .int x3_31)] from rfl) ?_
          refine r_goto C (tgt := 5) dX9_memberAt_34 (by decide) ?_
          refine r_sub C [1, 2, 0] (show _ = [(0, .long p0), (3, .int x3_31), (4, .int (x4_5 + 1))] from rfl) ?_
          exact ih x3_31 (x4_5 + 1) m2 h
        refine r_if_eq C (tgt := 31) dX9_memberAt_18 (by decide) h (fun _ h => ?_) (fun _ h => ?_)
        · skip
          exact hk31 x3_5 h
        · skip
          refine r_iload_n C dX9_memberAt_21 rfl 1 rfl ?_
          refine r_if_ne C (tgt := 28) dX9_memberAt_22 (by decide) h (fun _ h => ?_) (fun _ h => ?_)
          · skip
            refine r_sub C [2] (show _ = [(4, .int x4_5)] from rfl) ?_
            exact he25_5 x4_5 m2 h
          · skip
            refine r_iinc C (v := x3_5 + (-1)) dX9_memberAt_28 1 rfl rfl (by decide) (show _ = [(3, .int (x3_5 + (-1))), (0, .long p0), (4, .int x4_5)] from rfl) ?_
            refine r_sub C [1, 0, 2] (show _ = [(0, .long p0), (3, .int (x3_5 + (-1))), (4, .int x4_5)] from rfl) ?_
            exact hk31 (x3_5 + (-1)) h
  refine r_sub C [2, 1, 0] (show _ = [(0, .long p0), (3, .int p2), (4, .int 0)] from rfl) ?_
  exact L5 5000 p2 0 m h
noncomputable def f_X9_placeNext_L10 (y1_10 : Int64) (e76_10 : Int32 → sM → Option (sR Unit)) : Nat → Int32 → Int32 → sM → Option (sR Unit)
  | 0, _, _, _ => none
  | n + 1, x3_10, x4_10, m10_ =>
    if 8 ≤ x4_10 then (e76_10 x3_10 m10_) else (s_bd (f_X9_isPageToWrite x4_10 m10_) fun r6 m7 => s_jn (fun (x3_70 : Int32) (m70_ : sM) => f_X9_placeNext_L10 y1_10 e76_10 n x3_70 (x4_10 + 1) m70_) fun k70 => if r6 = 0 then (s_bd (f_X0_touchesPage 50 x4_10 m7) fun r8 m9 => if r8 = 0 then (k70 x3_10 m9) else (s_ix x4_10 8 fun j10 => s_md (s_up m9 40 j10 (-1)) fun m11 => k70 x3_10 m11)) else (s_bd (f_X9_memberAt y1_10 x3_10 m7) fun r12 m13 => s_ix x4_10 8 fun j14 => s_md (s_up m13 40 j14 r12) fun m15 => k70 (x3_10 + 1) m15))
noncomputable def f_X9_placeNext (m : sM) : Option (sR Unit) :=
  s_bd (f_X9_freeBlocks m) fun r1 m2 => s_jn (fun (x3_76 : Int32) (m76_ : sM) => s_bd (f_X9_memberAt r1 x3_76 m76_) fun r3 m4 => s_md (s_up m4 39 5 r3) fun m5 => some (.inl (), m5)) fun e76_10 => f_X9_placeNext_L10 r1 e76_10 5000 0 0 m2
set_option maxRecDepth 20000 in
set_option maxHeartbeats 4000000 in
theorem c_X9_placeNext (nw : Nat) (hnw : 109 ≤ nw) : s_Con s_u 0 nw yX9_placeNext wsX9_placeNext 18 275 0 (f_X9_placeNext) (fun ad => [.ref (ad 0)]) := by
  refine s_con_of cX9_placeNext 5 none RX9 (by decide) rfl rfl (fun _ => Nat.le_of_ble_eq_true rfl) (fun ad m res V C h => ?_)
  unfold f_X9_placeNext at h
  have F_i9 : ∀ w ∈ wsX90, w ∈ wsX9_placeNext := by decide +kernel
  have F_k23 : Cond.fieldLink RX9 23 "ShadowFile" "next" "LShadowFile$Version;" ∈ wsX9_placeNext := by decide +kernel
  have F_i8 : ∀ w ∈ wsX80, w ∈ wsX9_placeNext := by decide +kernel
  have F_k379 : Cond.fieldLink RX9 379 "ShadowFile$Version" "table" "I" ∈ wsX9_placeNext := by decide +kernel
  have F_k29 : Cond.fieldLink RX9 29 "ShadowFile" "combined" "LShadowFile$Changes;" ∈ wsX9_placeNext := by decide +kernel
  have F_k297 : Cond.fieldLink RX9 297 "ShadowFile$Version" "blocks" "[I" ∈ wsX9_placeNext := by decide +kernel
  show V 0 0 [(0, .ref (ad 0))] [] m
  refine r_aload_n C dX9_placeNext_0 rfl 0 rfl ?_
  refine r_callV C (c_X9_freeBlocks nw hnw) (As := []) (nn := 0) (stk := [.ref (ad 0)]) (ci := 9) dX9_placeNext_1 gX9_placeNext_X9_freeBlocks ⟨rfl, by decide, by decide, by decide +kernel⟩ (by omega) la_0 rfl rfl rfl (by decide) rfl rfl (Nat.le_of_ble_eq_true rfl) (by decide) h (fun r1 m2 h => ?_)
  show V 0 4 [(0, .ref (ad 0))] [.long r1] m2
  refine r_lstore_n C dX9_placeNext_4 rfl (by decide) (show _ = [(1, .long r1), (0, .ref (ad 0))] from rfl) ?_
  refine r_iconst C (v := 0) dX9_placeNext_5 (by decide) ?_
  refine r_istore_n C dX9_placeNext_6 rfl (by decide) (show _ = [(3, .int 0), (1, .long r1), (0, .ref (ad 0))] from rfl) ?_
  refine r_iconst C (v := 0) dX9_placeNext_7 (by decide) ?_
  refine r_istore C dX9_placeNext_8 (by decide) (show _ = [(4, .int 0), (3, .int 0), (1, .long r1), (0, .ref (ad 0))] from rfl) ?_
  refine s_join h (fun e76_10 => ∀ (x3_76 : Int32) (m76_ : sM), e76_10 x3_76 m76_ = some res → V 0 76 [(0, .ref (ad 0)), (1, .long r1), (3, .int x3_76)] [] m76_) ?_ (fun e76_10 he76_10 h => ?_)
  · intro x3_76 m76_ h
    refine r_aload_n C dX9_placeNext_76 rfl 0 rfl ?_
    refine r_getr C (ci := 9) (k9 := 2) dX9_placeNext_77 rfl F_i9 (by decide) F_k23 (by omega) la_0 rfl ?_
    refine r_lload_n C dX9_placeNext_80 rfl 1 rfl ?_
    refine r_iload_n C dX9_placeNext_81 rfl 2 rfl ?_
    refine r_callS C (c_X9_memberAt nw hnw r1 x3_76) (As := [.long r1, .int x3_76]) (nn := 2) (stk := [.int x3_76, .long r1, .ref (ad 39)]) dX9_placeNext_82 gX9_placeNext_X9_memberAt ⟨by decide, by decide, by decide +kernel⟩ rfl rfl (by decide) rfl rfl (Nat.le_of_ble_eq_true rfl) (by decide) h (fun r3 m4 h => ?_)
    show V 0 85 [(0, .ref (ad 0)), (1, .long r1), (3, .int x3_76)] [.int r3, .ref (ad 39)] m4
    refine r_puti C (ci := 8) (k9 := 5) dX9_placeNext_85 rfl F_i8 (by decide) F_k379 (by omega) la_39 rfl tyX8 tyX8_ok nmX8 rfl (tyX8_ok 5 (by decide)) rfl rfl h (fun m5 _ h => ?_)
    exact r_vret C dX9_placeNext_88 rfl h
  have L10 : ∀ (n : Nat) (x3_10 : Int32) (x4_10 : Int32) (m10_ : sM), f_X9_placeNext_L10 r1 e76_10 n x3_10 x4_10 m10_ = some res → V 0 10 [(0, .ref (ad 0)), (1, .long r1), (3, .int x3_10), (4, .int x4_10)] [] m10_ := by
    intro n
    induction n with
    | zero => intro x3_10 x4_10 m10_ h; rw [f_X9_placeNext_L10] at h; cases h
    | succ n ih =>
      intro x3_10 x4_10 m10_ h
      rw [f_X9_placeNext_L10] at h
      refine r_iload C dX9_placeNext_10 3 rfl ?_
      refine r_bipush C (v := 8) dX9_placeNext_12 (by decide) ?_
      refine r_icmp_ge C (tgt := 76) dX9_placeNext_14 (by decide) h (fun _ h => ?_) (fun _ h => ?_)
      · skip
        refine r_sub C [0, 1, 2] (show _ = [(0, .ref (ad 0)), (1, .long r1), (3, .int x3_10)] from rfl) ?_
        exact he76_10 x3_10 m10_ h
      · skip
        refine r_aload_n C dX9_placeNext_17 rfl 0 rfl ?_
        refine r_iload C dX9_placeNext_18 3 rfl ?_
        refine r_callV C (c_X9_isPageToWrite nw hnw x4_10) (As := [.int x4_10]) (nn := 1) (stk := [.int x4_10, .ref (ad 0)]) (ci := 9) dX9_placeNext_20 gX9_placeNext_X9_isPageToWrite ⟨rfl, by decide, by decide, by decide +kernel⟩ (by omega) la_0 rfl rfl rfl (by decide) rfl rfl (Nat.le_of_ble_eq_true rfl) (by decide) h (fun r6 m7 h => ?_)
        show V 0 23 [(0, .ref (ad 0)), (1, .long r1), (3, .int x3_10), (4, .int x4_10)] [.int r6] m7
        refine s_join h (fun k70 => ∀ (x3_70 : Int32) (m70_ : sM), k70 x3_70 m70_ = some res → V 0 70 [(0, .ref (ad 0)), (1, .long r1), (3, .int x3_70), (4, .int x4_10)] [] m70_) ?_ (fun k70 hk70 h => ?_)
        · intro x3_70 m70_ h
          refine r_iinc C (v := x4_10 + 1) dX9_placeNext_70 3 rfl rfl (by decide) (show _ = [(4, .int (x4_10 + 1)), (0, .ref (ad 0)), (1, .long r1), (3, .int x3_70)] from rfl) ?_
          refine r_goto C (tgt := 10) dX9_placeNext_73 (by decide) ?_
          refine r_sub C [1, 2, 3, 0] (show _ = [(0, .ref (ad 0)), (1, .long r1), (3, .int x3_70), (4, .int (x4_10 + 1))] from rfl) ?_
          exact ih x3_70 (x4_10 + 1) m70_ h
        refine r_if_eq C (tgt := 47) dX9_placeNext_23 (by decide) h (fun _ h => ?_) (fun _ h => ?_)
        · skip
          refine r_aload_n C dX9_placeNext_47 rfl 0 rfl ?_
          refine r_getr C (ci := 9) (k9 := 3) dX9_placeNext_48 rfl F_i9 (by decide) F_k29 (by omega) la_0 rfl ?_
          refine r_iload C dX9_placeNext_51 3 rfl ?_
          refine r_callV C (c_X0_touchesPage nw hnw 50 x4_10 (by unfold isChg; omega)) (As := [.int x4_10]) (nn := 1) (stk := [.int x4_10, .ref (ad 50)]) (ci := 0) dX9_placeNext_53 gX9_placeNext_X0_touchesPage ⟨rfl, by decide, by decide, by decide +kernel⟩ (by omega) la_50 rfl rfl rfl (by decide) rfl rfl (Nat.le_of_ble_eq_true rfl) (by decide) h (fun r8 m9 h => ?_)
          show V 0 56 [(0, .ref (ad 0)), (1, .long r1), (3, .int x3_10), (4, .int x4_10)] [.int r8] m9
          refine r_if_eq C (tgt := 70) dX9_placeNext_56 (by decide) h (fun _ h => ?_) (fun _ h => ?_)
          · skip
            exact hk70 x3_10 m9 h
          · skip
            refine r_aload_n C dX9_placeNext_59 rfl 0 rfl ?_
            refine r_getr C (ci := 9) (k9 := 2) dX9_placeNext_60 rfl F_i9 (by decide) F_k23 (by omega) la_0 rfl ?_
            refine r_getr C (ci := 8) (k9 := 0) dX9_placeNext_63 rfl F_i8 (by decide) F_k297 (by omega) la_39 rfl ?_
            refine r_iload C dX9_placeNext_66 3 rfl ?_
            refine r_iconst C (v := -1) dX9_placeNext_68 (by decide) ?_
            refine r_iast C dX9_placeNext_69 (by omega) la_40 h (fun j10 m11 hj10 _ h => ?_)
            exact hk70 x3_10 m11 h
        · skip
          refine r_aload_n C dX9_placeNext_26 rfl 0 rfl ?_
          refine r_getr C (ci := 9) (k9 := 2) dX9_placeNext_27 rfl F_i9 (by decide) F_k23 (by omega) la_0 rfl ?_
          refine r_getr C (ci := 8) (k9 := 0) dX9_placeNext_30 rfl F_i8 (by decide) F_k297 (by omega) la_39 rfl ?_
          refine r_iload C dX9_placeNext_33 3 rfl ?_
          refine r_lload_n C dX9_placeNext_35 rfl 1 rfl ?_
          refine r_iload_n C dX9_placeNext_36 rfl 2 rfl ?_
          refine r_callS C (c_X9_memberAt nw hnw r1 x3_10) (As := [.long r1, .int x3_10]) (nn := 2) (stk := [.int x3_10, .long r1, .int x4_10, .ref (ad 40)]) dX9_placeNext_37 gX9_placeNext_X9_memberAt ⟨by decide, by decide, by decide +kernel⟩ rfl rfl (by decide) rfl rfl (Nat.le_of_ble_eq_true rfl) (by decide) h (fun r12 m13 h => ?_)
          show V 0 40 [(0, .ref (ad 0)), (1, .long r1), (3, .int x3_10), (4, .int x4_10)] [.int r12, .int x4_10, .ref (ad 40)] m13
          refine r_iast C dX9_placeNext_40 (by omega) la_40 h (fun j14 m15 hj14 _ h => ?_)
          refine r_iinc C (v := x3_10 + 1) dX9_placeNext_41 2 rfl rfl (by decide) (show _ = [(3, .int (x3_10 + 1)), (0, .ref (ad 0)), (1, .long r1), (4, .int x4_10)] from rfl) ?_
          refine r_goto C (tgt := 70) dX9_placeNext_44 (by decide) ?_
          refine r_sub C [1, 2, 0, 3] (show _ = [(0, .ref (ad 0)), (1, .long r1), (3, .int (x3_10 + 1)), (4, .int x4_10)] from rfl) ?_
          exact hk70 (x3_10 + 1) m15 h
  refine r_sub C [3, 2, 1, 0] (show _ = [(0, .ref (ad 0)), (1, .long r1), (3, .int 0), (4, .int 0)] from rfl) ?_
  exact L10 5000 0 0 m2 h
noncomputable def f_X5_start (p1 : Int32) (m : sM) : Option (sR Unit) :=
  s_md (s_up m 52 0 p1) fun m1 => s_md (s_up m1 52 1 0) fun m2 => s_md (s_up m2 52 2 0) fun m3 => some (.inl (), m3)
set_option maxRecDepth 20000 in
set_option maxHeartbeats 4000000 in
theorem c_X5_start (nw : Nat) (hnw : 109 ≤ nw) (p1 : Int32) : s_Con s_u 0 nw yX5_start wsX5_start 12 140 0 (f_X5_start p1) (fun ad => [.ref (ad 52), .int p1]) := by
  refine s_con_of cX5_start 2 none RX5 (by decide) rfl rfl (fun _ => Nat.le_of_ble_eq_true rfl) (fun ad m res V C h => ?_)
  unfold f_X5_start at h
  have F_i5 : ∀ w ∈ wsX50, w ∈ wsX5_start := by decide +kernel
  have F_k9 : Cond.fieldLink RX5 9 "ShadowFile$Power" "limit" "I" ∈ wsX5_start := by decide +kernel
  have F_k15 : Cond.fieldLink RX5 15 "ShadowFile$Power" "wholeBlocks" "I" ∈ wsX5_start := by decide +kernel
  have F_k18 : Cond.fieldLink RX5 18 "ShadowFile$Power" "partBlocks" "I" ∈ wsX5_start := by decide +kernel
  show V 0 0 [(0, .ref (ad 52)), (1, .int p1)] [] m
  refine r_aload_n C dX5_start_0 rfl 0 rfl ?_
  refine r_iload_n C dX5_start_1 rfl 1 rfl ?_
  refine r_puti C (ci := 5) (k9 := 0) dX5_start_2 rfl F_i5 (by decide) F_k9 (by omega) la_52 rfl tyX5 tyX5_ok nmX5 rfl (tyX5_ok 0 (by decide)) rfl rfl h (fun m1 _ h => ?_)
  refine r_aload_n C dX5_start_5 rfl 0 rfl ?_
  refine r_iconst C (v := 0) dX5_start_6 (by decide) ?_
  refine r_puti C (ci := 5) (k9 := 1) dX5_start_7 rfl F_i5 (by decide) F_k15 (by omega) la_52 rfl tyX5 tyX5_ok nmX5 rfl (tyX5_ok 1 (by decide)) rfl rfl h (fun m2 _ h => ?_)
  refine r_aload_n C dX5_start_10 rfl 0 rfl ?_
  refine r_iconst C (v := 0) dX5_start_11 (by decide) ?_
  refine r_puti C (ci := 5) (k9 := 2) dX5_start_12 rfl F_i5 (by decide) F_k18 (by omega) la_52 rfl tyX5 tyX5_ok nmX5 rfl (tyX5_ok 2 (by decide)) rfl rfl h (fun m3 _ h => ?_)
  exact r_vret C dX5_start_15 rfl h
noncomputable def f_X8_describePage_L30 (a : Nat) (y1_30 : Int32) (a2_30 : Nat) (e73_30 : sM → Option (sR Unit)) : Nat → Int32 → sM → Option (sR Unit)
  | 0, _, _ => none
  | n + 1, x3_30, m30_ =>
    if 8 ≤ x3_30 then (e73_30  m30_) else (s_bd (f_X8_keyOf y1_30 x3_30 m30_) fun r13 m14 => s_bd (f_X9_isIn (m14.2 a 2) r13 m14) fun r15 m16 => s_jn (fun (m67_ : sM) => f_X8_describePage_L30 a y1_30 a2_30 e73_30 n (x3_30 + 1) m67_) fun k67 => if r15 = 0 then (k67  m16) else (s_ix r13 64 fun j17 => s_ix (4 + x3_30) 13 fun j18 => s_md (s_up m16 a2_30 j18 (m16.1 (a + 2) j17)) fun m19 => k67  m19))
noncomputable def f_X8_describePage (a : Nat) (p1 : Int32) (a2 : Nat) (m : sM) : Option (sR Unit) :=
  s_bd (f_J7_fill_53178 a2 13 0 m) fun r1 m2 => s_ix 0 13 fun j3 => s_md (s_up m2 a2 j3 3) fun m4 => s_ix 1 13 fun j5 => s_md (s_up m4 a2 j5 (m4.1 a 3)) fun m6 => s_ix 2 13 fun j7 => s_md (s_up m6 a2 j7 p1) fun m8 => s_bd (f_X8_bitsOf a p1 m8) fun r9 m10 => s_ix 3 13 fun j11 => s_md (s_up m10 a2 j11 r9) fun m12 => s_jn (fun (m73_ : sM) => some (.inl (), m73_)) fun e73_30 => f_X8_describePage_L30 a p1 a2 e73_30 5000 0 m12
set_option maxRecDepth 20000 in
set_option maxHeartbeats 4000000 in
theorem c_X8_describePage (nw : Nat) (hnw : 109 ≤ nw) (a : Nat) (p1 : Int32) (a2 : Nat) (ha : isVer a) (ha2 : isRow a2) : s_Con s_u 0 nw yX8_describePage wsX8_describePage 16 230 0 (f_X8_describePage a p1 a2) (fun ad => [.ref (ad a), .int p1, .ref (ad a2)]) := by
  refine s_con_of cX8_describePage 5 none RX8 (by decide) rfl rfl (fun _ => Nat.le_of_ble_eq_true rfl) (fun ad m res V C h => ?_)
  unfold f_X8_describePage at h
  have F_i8 : ∀ w ∈ wsX80, w ∈ wsX8_describePage := by decide +kernel
  have F_k22 : Cond.fieldLink RX8 22 "ShadowFile$Version" "number" "I" ∈ wsX8_describePage := by decide +kernel
  have F_k18 : Cond.fieldLink RX8 18 "ShadowFile$Version" "keys" "J" ∈ wsX8_describePage := by decide +kernel
  have F_tyX9_isIn : Cond.static yX9_isIn ∈ wsX8_describePage := by decide +kernel
  have F_nyX9_isIn : Cond.initialized RX9 ∈ wsX8_describePage := by decide +kernel
  have F_k15 : Cond.fieldLink RX8 15 "ShadowFile$Version" "values" "[I" ∈ wsX8_describePage := by decide +kernel
  show V 0 0 [(0, .ref (ad a)), (1, .int p1), (2, .ref (ad a2))] [] m
  refine r_aload_n C dX8_describePage_0 rfl 2 rfl ?_
  refine r_iconst C (v := 0) dX8_describePage_1 (by decide) ?_
  refine r_callS C (c_J7_fill_53178 nw hnw a2 13 0 (isRow_0 ha2) (by have := isRow_b ha2; omega) (by decide)) (As := [.ref (ad a2), .int 0]) (nn := 2) (stk := [.int 0, .ref (ad a2)]) dX8_describePage_2 gX8_describePage_J7_fill_53178 ⟨by decide, by decide, by decide +kernel⟩ rfl rfl (by decide) rfl rfl (Nat.le_of_ble_eq_true rfl) (by decide) h (fun r1 m2 h => ?_)
  show V 0 5 [(0, .ref (ad a)), (1, .int p1), (2, .ref (ad a2))] [] m2
  refine r_aload_n C dX8_describePage_5 rfl 2 rfl ?_
  refine r_iconst C (v := 0) dX8_describePage_6 (by decide) ?_
  refine r_iconst C (v := 3) dX8_describePage_7 (by decide) ?_
  refine r_iast C dX8_describePage_8 (by have := isRow_b ha2; omega) (isRow_0 ha2) h (fun j3 m4 hj3 _ h => ?_)
  refine r_aload_n C dX8_describePage_9 rfl 2 rfl ?_
  refine r_iconst C (v := 1) dX8_describePage_10 (by decide) ?_
  refine r_aload_n C dX8_describePage_11 rfl 0 rfl ?_
  refine r_geti C (ci := 8) (k9 := 3) dX8_describePage_12 rfl F_i8 (by decide) F_k22 (by have := isVer_b ha; omega) (isVer_0 ha) rfl ?_
  refine r_iast C dX8_describePage_15 (by have := isRow_b ha2; omega) (isRow_0 ha2) h (fun j5 m6 hj5 _ h => ?_)
  refine r_aload_n C dX8_describePage_16 rfl 2 rfl ?_
  refine r_iconst C (v := 2) dX8_describePage_17 (by decide) ?_
  refine r_iload_n C dX8_describePage_18 rfl 1 rfl ?_
  refine r_iast C dX8_describePage_19 (by have := isRow_b ha2; omega) (isRow_0 ha2) h (fun j7 m8 hj7 _ h => ?_)
  refine r_aload_n C dX8_describePage_20 rfl 2 rfl ?_
  refine r_iconst C (v := 3) dX8_describePage_21 (by decide) ?_
  refine r_aload_n C dX8_describePage_22 rfl 0 rfl ?_
  refine r_iload_n C dX8_describePage_23 rfl 1 rfl ?_
  refine r_callV C (c_X8_bitsOf nw hnw a p1 ha) (As := [.int p1]) (nn := 1) (stk := [.int p1, .ref (ad a), .int 3, .ref (ad a2)]) (ci := 8) dX8_describePage_24 gX8_describePage_X8_bitsOf ⟨rfl, by decide, by decide, by decide +kernel⟩ (by have := isVer_b ha; omega) (isVer_0 ha) rfl rfl rfl (by decide) rfl rfl (Nat.le_of_ble_eq_true rfl) (by decide) h (fun r9 m10 h => ?_)
  show V 0 27 [(0, .ref (ad a)), (1, .int p1), (2, .ref (ad a2))] [.int r9, .int 3, .ref (ad a2)] m10
  refine r_iast C dX8_describePage_27 (by have := isRow_b ha2; omega) (isRow_0 ha2) h (fun j11 m12 hj11 _ h => ?_)
  refine r_iconst C (v := 0) dX8_describePage_28 (by decide) ?_
  refine r_istore_n C dX8_describePage_29 rfl (by decide) (show _ = [(3, .int 0), (0, .ref (ad a)), (1, .int p1), (2, .ref (ad a2))] from rfl) ?_
  refine s_join h (fun e73_30 => ∀ (m73_ : sM), e73_30 m73_ = some res → V 0 73 [] [] m73_) ?_ (fun e73_30 he73_30 h => ?_)
  · intro m73_ h
    exact r_vret C dX8_describePage_73 rfl h
  have L30 : ∀ (n : Nat) (x3_30 : Int32) (m30_ : sM), f_X8_describePage_L30 a p1 a2 e73_30 n x3_30 m30_ = some res → V 0 30 [(0, .ref (ad a)), (1, .int p1), (2, .ref (ad a2)), (3, .int x3_30)] [] m30_ := by
    intro n
    induction n with
    | zero => intro x3_30 m30_ h; rw [f_X8_describePage_L30] at h; cases h
    | succ n ih =>
      intro x3_30 m30_ h
      rw [f_X8_describePage_L30] at h
      refine r_iload_n C dX8_describePage_30 rfl 3 rfl ?_
      refine r_bipush C (v := 8) dX8_describePage_31 (by decide) ?_
      refine r_icmp_ge C (tgt := 73) dX8_describePage_33 (by decide) h (fun _ h => ?_) (fun _ h => ?_)
      · skip
        refine r_sub C [] (show _ = [] from rfl) ?_
        exact he73_30 m30_ h
      · skip
        refine r_iload_n C dX8_describePage_36 rfl 1 rfl ?_
        refine r_iload_n C dX8_describePage_37 rfl 3 rfl ?_
        refine r_callS C (c_X8_keyOf nw hnw p1 x3_30) (As := [.int p1, .int x3_30]) (nn := 2) (stk := [.int x3_30, .int p1]) dX8_describePage_38 gX8_describePage_X8_keyOf ⟨by decide, by decide, by decide +kernel⟩ rfl rfl (by decide) rfl rfl (Nat.le_of_ble_eq_true rfl) (by decide) h (fun r13 m14 h => ?_)
        show V 0 41 [(0, .ref (ad a)), (1, .int p1), (2, .ref (ad a2)), (3, .int x3_30)] [.int r13] m14
        refine r_istore C dX8_describePage_41 (by decide) (show _ = [(4, .int r13), (0, .ref (ad a)), (1, .int p1), (2, .ref (ad a2)), (3, .int x3_30)] from rfl) ?_
        refine r_aload_n C dX8_describePage_43 rfl 1 rfl ?_
        refine r_getl C (ci := 8) (k9 := 2) dX8_describePage_44 rfl F_i8 (by decide) F_k18 (by have := isVer_b ha; omega) (isVer_0 ha) rfl ?_
        refine r_iload C dX8_describePage_47 0 rfl ?_
        refine r_callN C (c_X9_isIn nw hnw (m14.2 a 2) r13) (host := RX9) (As := [.long (m14.2 a 2), .int r13]) (nn := 2) (stk := [.int r13, .long (m14.2 a 2)]) dX8_describePage_49 gX8_describePage_X9_isIn_n49 (by decide +kernel) F_tyX9_isIn F_nyX9_isIn ⟨by decide, by decide, by decide +kernel⟩ rfl rfl (by decide) rfl rfl (Nat.le_of_ble_eq_true rfl) (by decide) h (fun r15 m16 h => ?_)
        show V 0 52 [(4, .int r13), (0, .ref (ad a)), (1, .int p1), (2, .ref (ad a2)), (3, .int x3_30)] [.int r15] m16
        refine s_join h (fun k67 => ∀ (m67_ : sM), k67 m67_ = some res → V 0 67 [(0, .ref (ad a)), (1, .int p1), (2, .ref (ad a2)), (3, .int x3_30)] [] m67_) ?_ (fun k67 hk67 h => ?_)
        · intro m67_ h
          refine r_iinc C (v := x3_30 + 1) dX8_describePage_67 3 rfl rfl (by decide) (show _ = [(3, .int (x3_30 + 1)), (0, .ref (ad a)), (1, .int p1), (2, .ref (ad a2))] from rfl) ?_
          refine r_goto C (tgt := 30) dX8_describePage_70 (by decide) ?_
          refine r_sub C [1, 2, 3, 0] (show _ = [(0, .ref (ad a)), (1, .int p1), (2, .ref (ad a2)), (3, .int (x3_30 + 1))] from rfl) ?_
          exact ih (x3_30 + 1) m67_ h
        refine r_if_eq C (tgt := 67) dX8_describePage_52 (by decide) h (fun _ h => ?_) (fun _ h => ?_)
        · skip
          refine r_sub C [1, 2, 3, 4] (show _ = [(0, .ref (ad a)), (1, .int p1), (2, .ref (ad a2)), (3, .int x3_30)] from rfl) ?_
          exact hk67 m16 h
        · skip
          refine r_aload_n C dX8_describePage_55 rfl 3 rfl ?_
          refine r_iconst C (v := 4) dX8_describePage_56 (by decide) ?_
          refine r_iload_n C dX8_describePage_57 rfl 4 rfl ?_
          refine r_iadd C dX8_describePage_58 ?_
          refine r_aload_n C dX8_describePage_59 rfl 1 rfl ?_
          refine r_getr C (ci := 8) (k9 := 1) dX8_describePage_60 rfl F_i8 (by decide) F_k15 (by have := isVer_b ha; omega) (isVer_0 ha) rfl ?_
          refine r_iload C dX8_describePage_63 0 rfl ?_
          refine r_iald C dX8_describePage_65 (by have := isVer_b ha; omega) (isVer_2 ha) h (fun j17 hj17 h => ?_)
          refine r_iast C dX8_describePage_66 (by have := isRow_b ha2; omega) (isRow_0 ha2) h (fun j18 m19 hj18 _ h => ?_)
          refine r_sub C [1, 2, 3, 4] (show _ = [(0, .ref (ad a)), (1, .int p1), (2, .ref (ad a2)), (3, .int x3_30)] from rfl) ?_
          exact hk67 m19 h
  refine r_sub C [1, 2, 3, 0] (show _ = [(0, .ref (ad a)), (1, .int p1), (2, .ref (ad a2)), (3, .int 0)] from rfl) ?_
  exact L30 5000 0 m12 h
noncomputable def f_X1_writePart (p1 : Int32) (m : sM) : Option (sR Unit) :=
  s_ix p1 32 fun j1 => s_gd (¬ (0 : Int32) < 0 ∧ ¬ (0 : Int32) < 0 ∧ ¬ (6 : Int32) < 0 ∧ (0 : Int32).toNatClampNeg + (6 : Int32).toNatClampNeg ≤ 13 ∧ (0 : Int32).toNatClampNeg + (6 : Int32).toNatClampNeg ≤ 13 ∧ ∀ i, i < (6 : Int32).toNatClampNeg → fits .int (.int (m.1 3 ((0 : Int32).toNatClampNeg + i))) = true) (s_md (s_cp m 3 (4 + 1 * j1) (0 : Int32).toNatClampNeg (0 : Int32).toNatClampNeg (6 : Int32).toNatClampNeg) fun m2 => some (.inl (), m2))
set_option maxRecDepth 20000 in
set_option maxHeartbeats 4000000 in
theorem c_X1_writePart (nw : Nat) (hnw : 109 ≤ nw) (p1 : Int32) : s_Con s_u 0 nw yX1_writePart wsX1_writePart 12 140 0 (f_X1_writePart p1) (fun ad => [.ref (ad 1), .int p1]) := by
  refine s_con_of cX1_writePart 2 none RX1 (by decide) rfl rfl (fun _ => Nat.le_of_ble_eq_true rfl) (fun ad m res V C h => ?_)
  unfold f_X1_writePart at h
  have F_i1 : ∀ w ∈ wsX10, w ∈ wsX1_writePart := by decide +kernel
  have F_k16 : Cond.fieldLink RX1 16 "ShadowFile$Disk" "draft" "[I" ∈ wsX1_writePart := by decide +kernel
  have F_k11 : Cond.fieldLink RX1 11 "ShadowFile$Disk" "cells" "[[I" ∈ wsX1_writePart := by decide +kernel
  have F_c26 : Cond.methodLink RX1 26 arraycopyName ∈ wsX1_writePart := by decide +kernel
  have F_cnat : Cond.native arraycopyName ∈ wsX1_writePart := by decide +kernel
  have F_csta : Cond.static arraycopyName ∈ wsX1_writePart := by decide +kernel
  have F_cini : Cond.initialized "java/lang/System" ∈ wsX1_writePart := by decide +kernel
  show V 0 0 [(0, .ref (ad 1)), (1, .int p1)] [] m
  refine r_aload_n C dX1_writePart_0 rfl 0 rfl ?_
  refine r_getr C (ci := 1) (k9 := 1) dX1_writePart_1 rfl F_i1 (by decide) F_k16 (by omega) la_1 rfl ?_
  refine r_iconst C (v := 0) dX1_writePart_4 (by decide) ?_
  refine r_aload_n C dX1_writePart_5 rfl 0 rfl ?_
  refine r_getr C (ci := 1) (k9 := 0) dX1_writePart_6 rfl F_i1 (by decide) F_k11 (by omega) la_1 rfl ?_
  refine r_iload_n C dX1_writePart_9 rfl 1 rfl ?_
  refine r_aald C (b0 := 4) (d0 := 1) dX1_writePart_10 (by omega) la_2 (fun _ => rfl) rfl h (fun j1 hj1 h => ?_)
  refine r_iconst C (v := 0) dX1_writePart_11 (by decide) ?_
  refine r_bipush C (v := 6) dX1_writePart_12 (by decide) ?_
  refine r_copy C dX1_writePart_14 F_c26 F_cnat F_csta F_cini (by omega) (by have := isRow_b (isRow_d hj1); omega) la_3 (isRow_0 (isRow_d hj1)) (by decide) (fun _ => rfl) rfl (by decide) (Nat.le_of_ble_eq_true rfl) h (fun m2 _ h => ?_)
  exact r_vret C dX1_writePart_17 rfl h
noncomputable def f_X5_write (p2 : Int32) (m : sM) : Option (sR Unit) :=
  s_jn (fun (m59_ : sM) => some (.inl (), m59_)) fun k59 => s_jn (s_bd (f_X1_writeWhole p2 m) fun r1 m2 => s_md (s_up m2 52 1 ((m2.1 52 1) + 1)) fun m3 => k59  m3) fun k19 => if (m.1 52 0) = (-1) then (k19) else (if (m.1 52 0) ≤ (m.1 52 1) then (if (m.1 52 2) = 0 then (s_bd (f_X1_writePart p2 m) fun r4 m5 => s_md (s_up m5 52 2 ((m5.1 52 2) + 1)) fun m6 => k59  m6) else (k59  m)) else (k19))
set_option maxRecDepth 20000 in
set_option maxHeartbeats 4000000 in
theorem c_X5_write (nw : Nat) (hnw : 109 ≤ nw) (p2 : Int32) : s_Con s_u 0 nw yX5_write wsX5_write 16 230 0 (f_X5_write p2) (fun ad => [.ref (ad 52), .ref (ad 1), .int p2]) := by
  refine s_con_of cX5_write 3 none RX5 (by decide) rfl rfl (fun _ => Nat.le_of_ble_eq_true rfl) (fun ad m res V C h => ?_)
  unfold f_X5_write at h
  have F_i5 : ∀ w ∈ wsX50, w ∈ wsX5_write := by decide +kernel
  have F_k9 : Cond.fieldLink RX5 9 "ShadowFile$Power" "limit" "I" ∈ wsX5_write := by decide +kernel
  have F_k15 : Cond.fieldLink RX5 15 "ShadowFile$Power" "wholeBlocks" "I" ∈ wsX5_write := by decide +kernel
  have F_k18 : Cond.fieldLink RX5 18 "ShadowFile$Power" "partBlocks" "I" ∈ wsX5_write := by decide +kernel
  show V 0 0 [(0, .ref (ad 52)), (1, .ref (ad 1)), (2, .int p2)] [] m
  refine r_aload_n C dX5_write_0 rfl 0 rfl ?_
  refine r_geti C (ci := 5) (k9 := 0) dX5_write_1 rfl F_i5 (by decide) F_k9 (by omega) la_52 rfl ?_
  refine r_iconst C (v := -1) dX5_write_4 (by decide) ?_
  refine s_join h (fun k59 => ∀ (m59_ : sM), k59 m59_ = some res → V 0 59 [] [] m59_) ?_ (fun k59 hk59 h => ?_)
  · intro m59_ h
    exact r_vret C dX5_write_59 rfl h
  refine s_join h (fun k19 => k19  = some res → V 0 19 [(0, .ref (ad 52)), (1, .ref (ad 1)), (2, .int p2)] [] m) ?_ (fun k19 hk19 h => ?_)
  · intro  h
    refine r_aload_n C dX5_write_19 rfl 1 rfl ?_
    refine r_iload_n C dX5_write_20 rfl 2 rfl ?_
    refine r_callV C (c_X1_writeWhole nw hnw p2) (As := [.int p2]) (nn := 1) (stk := [.int p2, .ref (ad 1)]) (ci := 1) dX5_write_21 gX5_write_X1_writeWhole ⟨rfl, by decide, by decide, by decide +kernel⟩ (by omega) la_1 rfl rfl rfl (by decide) rfl rfl (Nat.le_of_ble_eq_true rfl) (by decide) h (fun r1 m2 h => ?_)
    show V 0 24 [(0, .ref (ad 52)), (1, .ref (ad 1)), (2, .int p2)] [] m2
    refine r_aload_n C dX5_write_24 rfl 0 rfl ?_
    refine r_dup C dX5_write_25 rfl ?_
    refine r_geti C (ci := 5) (k9 := 1) dX5_write_26 rfl F_i5 (by decide) F_k15 (by omega) la_52 rfl ?_
    refine r_iconst C (v := 1) dX5_write_29 (by decide) ?_
    refine r_iadd C dX5_write_30 ?_
    refine r_puti C (ci := 5) (k9 := 1) dX5_write_31 rfl F_i5 (by decide) F_k15 (by omega) la_52 rfl tyX5 tyX5_ok nmX5 rfl (tyX5_ok 1 (by decide)) rfl rfl h (fun m3 _ h => ?_)
    refine r_goto C (tgt := 59) dX5_write_34 (by decide) ?_
    refine r_sub C [] (show _ = [] from rfl) ?_
    exact hk59 m3 h
  refine r_icmp_eq C (tgt := 19) dX5_write_5 (by decide) h (fun _ h => ?_) (fun _ h => ?_)
  · skip
    exact hk19 h
  · skip
    refine r_aload_n C dX5_write_8 rfl 0 rfl ?_
    refine r_geti C (ci := 5) (k9 := 1) dX5_write_9 rfl F_i5 (by decide) F_k15 (by omega) la_52 rfl ?_
    refine r_aload_n C dX5_write_12 rfl 0 rfl ?_
    refine r_geti C (ci := 5) (k9 := 0) dX5_write_13 rfl F_i5 (by decide) F_k9 (by omega) la_52 rfl ?_
    refine r_icmp_ge C (tgt := 37) dX5_write_16 (by decide) h (fun _ h => ?_) (fun _ h => ?_)
    · skip
      refine r_aload_n C dX5_write_37 rfl 0 rfl ?_
      refine r_geti C (ci := 5) (k9 := 2) dX5_write_38 rfl F_i5 (by decide) F_k18 (by omega) la_52 rfl ?_
      refine r_if_ne C (tgt := 59) dX5_write_41 (by decide) h (fun _ h => ?_) (fun _ h => ?_)
      · skip
        refine r_aload_n C dX5_write_44 rfl 1 rfl ?_
        refine r_iload_n C dX5_write_45 rfl 2 rfl ?_
        refine r_callV C (c_X1_writePart nw hnw p2) (As := [.int p2]) (nn := 1) (stk := [.int p2, .ref (ad 1)]) (ci := 1) dX5_write_46 gX5_write_X1_writePart ⟨rfl, by decide, by decide, by decide +kernel⟩ (by omega) la_1 rfl rfl rfl (by decide) rfl rfl (Nat.le_of_ble_eq_true rfl) (by decide) h (fun r4 m5 h => ?_)
        show V 0 49 [(0, .ref (ad 52)), (1, .ref (ad 1)), (2, .int p2)] [] m5
        refine r_aload_n C dX5_write_49 rfl 0 rfl ?_
        refine r_dup C dX5_write_50 rfl ?_
        refine r_geti C (ci := 5) (k9 := 2) dX5_write_51 rfl F_i5 (by decide) F_k18 (by omega) la_52 rfl ?_
        refine r_iconst C (v := 1) dX5_write_54 (by decide) ?_
        refine r_iadd C dX5_write_55 ?_
        refine r_puti C (ci := 5) (k9 := 2) dX5_write_56 rfl F_i5 (by decide) F_k18 (by omega) la_52 rfl tyX5 tyX5_ok nmX5 rfl (tyX5_ok 2 (by decide)) rfl rfl h (fun m6 _ h => ?_)
        refine r_sub C [] (show _ = [] from rfl) ?_
        exact hk59 m6 h
      · skip
        refine r_sub C [] (show _ = [] from rfl) ?_
        exact hk59 m h
    · skip
      exact hk19 h
noncomputable def f_X9_writeNext_L10 (e65_10 : sM → Option (sR Unit)) : Nat → Int32 → sM → Option (sR Unit)
  | 0, _, _ => none
  | n + 1, x2_10, m10_ =>
    if 8 ≤ x2_10 then (e65_10  m10_) else (s_bd (f_X9_isPageToWrite x2_10 m10_) fun r11 m12 => s_jn (fun (m59_ : sM) => f_X9_writeNext_L10 e65_10 n (x2_10 + 1) m59_) fun k59 => if r11 = 0 then (k59  m12) else (s_bd (f_X8_describePage 39 x2_10 3 m12) fun r13 m14 => s_ix x2_10 8 fun j15 => s_bd (f_X5_write (m14.1 40 j15) m14) fun r16 m17 => k59  m17))
noncomputable def f_X9_writeNext (p1 : Int32) (m : sM) : Option (sR Unit) :=
  s_bd (f_X5_start p1 m) fun r1 m2 => s_jn (fun (m65_ : sM) => s_bd (f_X8_describeTable 39 3 m65_) fun r3 m4 => s_bd (f_X5_write (m4.1 39 5) m4) fun r5 m6 => s_bd (f_X8_describeRoot 39 3 m6) fun r7 m8 => s_bd (f_X5_write (m8.1 39 4) m8) fun r9 m10 => some (.inl (), m10)) fun e65_10 => f_X9_writeNext_L10 e65_10 5000 0 m2
set_option maxRecDepth 20000 in
set_option maxHeartbeats 4000000 in
theorem c_X9_writeNext (nw : Nat) (hnw : 109 ≤ nw) (p1 : Int32) : s_Con s_u 0 nw yX9_writeNext wsX9_writeNext 18 275 0 (f_X9_writeNext p1) (fun ad => [.ref (ad 0), .int p1]) := by
  refine s_con_of cX9_writeNext 3 none RX9 (by decide) rfl rfl (fun _ => Nat.le_of_ble_eq_true rfl) (fun ad m res V C h => ?_)
  unfold f_X9_writeNext at h
  have F_i9 : ∀ w ∈ wsX90, w ∈ wsX9_writeNext := by decide +kernel
  have F_k36 : Cond.fieldLink RX9 36 "ShadowFile" "power" "LShadowFile$Power;" ∈ wsX9_writeNext := by decide +kernel
  have F_k23 : Cond.fieldLink RX9 23 "ShadowFile" "next" "LShadowFile$Version;" ∈ wsX9_writeNext := by decide +kernel
  have F_k10 : Cond.fieldLink RX9 10 "ShadowFile" "disk" "LShadowFile$Disk;" ∈ wsX9_writeNext := by decide +kernel
  have F_i1 : ∀ w ∈ wsX10, w ∈ wsX9_writeNext := by decide +kernel
  have F_k372 : Cond.fieldLink RX9 372 "ShadowFile$Disk" "draft" "[I" ∈ wsX9_writeNext := by decide +kernel
  have F_i8 : ∀ w ∈ wsX80, w ∈ wsX9_writeNext := by decide +kernel
  have F_k379 : Cond.fieldLink RX9 379 "ShadowFile$Version" "table" "I" ∈ wsX9_writeNext := by decide +kernel
  have F_k388 : Cond.fieldLink RX9 388 "ShadowFile$Version" "root" "I" ∈ wsX9_writeNext := by decide +kernel
  have F_k297 : Cond.fieldLink RX9 297 "ShadowFile$Version" "blocks" "[I" ∈ wsX9_writeNext := by decide +kernel
  show V 0 0 [(0, .ref (ad 0)), (1, .int p1)] [] m
  refine r_aload_n C dX9_writeNext_0 rfl 0 rfl ?_
  refine r_getr C (ci := 9) (k9 := 4) dX9_writeNext_1 rfl F_i9 (by decide) F_k36 (by omega) la_0 rfl ?_
  refine r_iload_n C dX9_writeNext_4 rfl 1 rfl ?_
  refine r_callV C (c_X5_start nw hnw p1) (As := [.int p1]) (nn := 1) (stk := [.int p1, .ref (ad 52)]) (ci := 5) dX9_writeNext_5 gX9_writeNext_X5_start ⟨rfl, by decide, by decide, by decide +kernel⟩ (by omega) la_52 rfl rfl rfl (by decide) rfl rfl (Nat.le_of_ble_eq_true rfl) (by decide) h (fun r1 m2 h => ?_)
  show V 0 8 [(0, .ref (ad 0)), (1, .int p1)] [] m2
  refine r_iconst C (v := 0) dX9_writeNext_8 (by decide) ?_
  refine r_istore_n C dX9_writeNext_9 rfl (by decide) (show _ = [(2, .int 0), (0, .ref (ad 0)), (1, .int p1)] from rfl) ?_
  refine s_join h (fun e65_10 => ∀ (m65_ : sM), e65_10 m65_ = some res → V 0 65 [(0, .ref (ad 0))] [] m65_) ?_ (fun e65_10 he65_10 h => ?_)
  · intro m65_ h
    refine r_aload_n C dX9_writeNext_65 rfl 0 rfl ?_
    refine r_getr C (ci := 9) (k9 := 2) dX9_writeNext_66 rfl F_i9 (by decide) F_k23 (by omega) la_0 rfl ?_
    refine r_aload_n C dX9_writeNext_69 rfl 0 rfl ?_
    refine r_getr C (ci := 9) (k9 := 0) dX9_writeNext_70 rfl F_i9 (by decide) F_k10 (by omega) la_0 rfl ?_
    refine r_getr C (ci := 1) (k9 := 1) dX9_writeNext_73 rfl F_i1 (by decide) F_k372 (by omega) la_1 rfl ?_
    refine r_callV C (c_X8_describeTable nw hnw 39 3 (by unfold isVer; omega) (by unfold isRow; omega)) (As := [.ref (ad 3)]) (nn := 1) (stk := [.ref (ad 3), .ref (ad 39)]) (ci := 8) dX9_writeNext_76 gX9_writeNext_X8_describeTable ⟨rfl, by decide, by decide, by decide +kernel⟩ (by omega) la_39 rfl rfl rfl (by decide) rfl rfl (Nat.le_of_ble_eq_true rfl) (by decide) h (fun r3 m4 h => ?_)
    show V 0 79 [(0, .ref (ad 0))] [] m4
    refine r_aload_n C dX9_writeNext_79 rfl 0 rfl ?_
    refine r_getr C (ci := 9) (k9 := 4) dX9_writeNext_80 rfl F_i9 (by decide) F_k36 (by omega) la_0 rfl ?_
    refine r_aload_n C dX9_writeNext_83 rfl 0 rfl ?_
    refine r_getr C (ci := 9) (k9 := 0) dX9_writeNext_84 rfl F_i9 (by decide) F_k10 (by omega) la_0 rfl ?_
    refine r_aload_n C dX9_writeNext_87 rfl 0 rfl ?_
    refine r_getr C (ci := 9) (k9 := 2) dX9_writeNext_88 rfl F_i9 (by decide) F_k23 (by omega) la_0 rfl ?_
    refine r_geti C (ci := 8) (k9 := 5) dX9_writeNext_91 rfl F_i8 (by decide) F_k379 (by omega) la_39 rfl ?_
    refine r_callV C (c_X5_write nw hnw (m4.1 39 5)) (As := [.ref (ad 1), .int (m4.1 39 5)]) (nn := 2) (stk := [.int (m4.1 39 5), .ref (ad 1), .ref (ad 52)]) (ci := 5) dX9_writeNext_94 gX9_writeNext_X5_write ⟨rfl, by decide, by decide, by decide +kernel⟩ (by omega) la_52 rfl rfl rfl (by decide) rfl rfl (Nat.le_of_ble_eq_true rfl) (by decide) h (fun r5 m6 h => ?_)
    show V 0 97 [(0, .ref (ad 0))] [] m6
    refine r_aload_n C dX9_writeNext_97 rfl 0 rfl ?_
    refine r_getr C (ci := 9) (k9 := 2) dX9_writeNext_98 rfl F_i9 (by decide) F_k23 (by omega) la_0 rfl ?_
    refine r_aload_n C dX9_writeNext_101 rfl 0 rfl ?_
    refine r_getr C (ci := 9) (k9 := 0) dX9_writeNext_102 rfl F_i9 (by decide) F_k10 (by omega) la_0 rfl ?_
    refine r_getr C (ci := 1) (k9 := 1) dX9_writeNext_105 rfl F_i1 (by decide) F_k372 (by omega) la_1 rfl ?_
    refine r_callV C (c_X8_describeRoot nw hnw 39 3 (by unfold isVer; omega) (by unfold isRow; omega)) (As := [.ref (ad 3)]) (nn := 1) (stk := [.ref (ad 3), .ref (ad 39)]) (ci := 8) dX9_writeNext_108 gX9_writeNext_X8_describeRoot ⟨rfl, by decide, by decide, by decide +kernel⟩ (by omega) la_39 rfl rfl rfl (by decide) rfl rfl (Nat.le_of_ble_eq_true rfl) (by decide) h (fun r7 m8 h => ?_)
    show V 0 111 [(0, .ref (ad 0))] [] m8
    refine r_aload_n C dX9_writeNext_111 rfl 0 rfl ?_
    refine r_getr C (ci := 9) (k9 := 4) dX9_writeNext_112 rfl F_i9 (by decide) F_k36 (by omega) la_0 rfl ?_
    refine r_aload_n C dX9_writeNext_115 rfl 0 rfl ?_
    refine r_getr C (ci := 9) (k9 := 0) dX9_writeNext_116 rfl F_i9 (by decide) F_k10 (by omega) la_0 rfl ?_
    refine r_aload_n C dX9_writeNext_119 rfl 0 rfl ?_
    refine r_getr C (ci := 9) (k9 := 2) dX9_writeNext_120 rfl F_i9 (by decide) F_k23 (by omega) la_0 rfl ?_
    refine r_geti C (ci := 8) (k9 := 4) dX9_writeNext_123 rfl F_i8 (by decide) F_k388 (by omega) la_39 rfl ?_
    refine r_callV C (c_X5_write nw hnw (m8.1 39 4)) (As := [.ref (ad 1), .int (m8.1 39 4)]) (nn := 2) (stk := [.int (m8.1 39 4), .ref (ad 1), .ref (ad 52)]) (ci := 5) dX9_writeNext_126 gX9_writeNext_X5_write ⟨rfl, by decide, by decide, by decide +kernel⟩ (by omega) la_52 rfl rfl rfl (by decide) rfl rfl (Nat.le_of_ble_eq_true rfl) (by decide) h (fun r9 m10 h => ?_)
    show V 0 129 [(0, .ref (ad 0))] [] m10
    exact r_vret C dX9_writeNext_129 rfl h
  have L10 : ∀ (n : Nat) (x2_10 : Int32) (m10_ : sM), f_X9_writeNext_L10 e65_10 n x2_10 m10_ = some res → V 0 10 [(0, .ref (ad 0)), (2, .int x2_10)] [] m10_ := by
    intro n
    induction n with
    | zero => intro x2_10 m10_ h; rw [f_X9_writeNext_L10] at h; cases h
    | succ n ih =>
      intro x2_10 m10_ h
      rw [f_X9_writeNext_L10] at h
      refine r_iload_n C dX9_writeNext_10 rfl 1 rfl ?_
      refine r_bipush C (v := 8) dX9_writeNext_11 (by decide) ?_
      refine r_icmp_ge C (tgt := 65) dX9_writeNext_13 (by decide) h (fun _ h => ?_) (fun _ h => ?_)
      · skip
        refine r_sub C [0] (show _ = [(0, .ref (ad 0))] from rfl) ?_
        exact he65_10 m10_ h
      · skip
        refine r_aload_n C dX9_writeNext_16 rfl 0 rfl ?_
        refine r_iload_n C dX9_writeNext_17 rfl 1 rfl ?_
        refine r_callV C (c_X9_isPageToWrite nw hnw x2_10) (As := [.int x2_10]) (nn := 1) (stk := [.int x2_10, .ref (ad 0)]) (ci := 9) dX9_writeNext_18 gX9_writeNext_X9_isPageToWrite ⟨rfl, by decide, by decide, by decide +kernel⟩ (by omega) la_0 rfl rfl rfl (by decide) rfl rfl (Nat.le_of_ble_eq_true rfl) (by decide) h (fun r11 m12 h => ?_)
        show V 0 21 [(0, .ref (ad 0)), (2, .int x2_10)] [.int r11] m12
        refine s_join h (fun k59 => ∀ (m59_ : sM), k59 m59_ = some res → V 0 59 [(0, .ref (ad 0)), (2, .int x2_10)] [] m59_) ?_ (fun k59 hk59 h => ?_)
        · intro m59_ h
          refine r_iinc C (v := x2_10 + 1) dX9_writeNext_59 1 rfl rfl (by decide) (show _ = [(2, .int (x2_10 + 1)), (0, .ref (ad 0))] from rfl) ?_
          refine r_goto C (tgt := 10) dX9_writeNext_62 (by decide) ?_
          refine r_sub C [1, 0] (show _ = [(0, .ref (ad 0)), (2, .int (x2_10 + 1))] from rfl) ?_
          exact ih (x2_10 + 1) m59_ h
        refine r_if_eq C (tgt := 59) dX9_writeNext_21 (by decide) h (fun _ h => ?_) (fun _ h => ?_)
        · skip
          exact hk59 m12 h
        · skip
          refine r_aload_n C dX9_writeNext_24 rfl 0 rfl ?_
          refine r_getr C (ci := 9) (k9 := 2) dX9_writeNext_25 rfl F_i9 (by decide) F_k23 (by omega) la_0 rfl ?_
          refine r_iload_n C dX9_writeNext_28 rfl 1 rfl ?_
          refine r_aload_n C dX9_writeNext_29 rfl 0 rfl ?_
          refine r_getr C (ci := 9) (k9 := 0) dX9_writeNext_30 rfl F_i9 (by decide) F_k10 (by omega) la_0 rfl ?_
          refine r_getr C (ci := 1) (k9 := 1) dX9_writeNext_33 rfl F_i1 (by decide) F_k372 (by omega) la_1 rfl ?_
          refine r_callV C (c_X8_describePage nw hnw 39 x2_10 3 (by unfold isVer; omega) (by unfold isRow; omega)) (As := [.int x2_10, .ref (ad 3)]) (nn := 2) (stk := [.ref (ad 3), .int x2_10, .ref (ad 39)]) (ci := 8) dX9_writeNext_36 gX9_writeNext_X8_describePage ⟨rfl, by decide, by decide, by decide +kernel⟩ (by omega) la_39 rfl rfl rfl (by decide) rfl rfl (Nat.le_of_ble_eq_true rfl) (by decide) h (fun r13 m14 h => ?_)
          show V 0 39 [(0, .ref (ad 0)), (2, .int x2_10)] [] m14
          refine r_aload_n C dX9_writeNext_39 rfl 0 rfl ?_
          refine r_getr C (ci := 9) (k9 := 4) dX9_writeNext_40 rfl F_i9 (by decide) F_k36 (by omega) la_0 rfl ?_
          refine r_aload_n C dX9_writeNext_43 rfl 0 rfl ?_
          refine r_getr C (ci := 9) (k9 := 0) dX9_writeNext_44 rfl F_i9 (by decide) F_k10 (by omega) la_0 rfl ?_
          refine r_aload_n C dX9_writeNext_47 rfl 0 rfl ?_
          refine r_getr C (ci := 9) (k9 := 2) dX9_writeNext_48 rfl F_i9 (by decide) F_k23 (by omega) la_0 rfl ?_
          refine r_getr C (ci := 8) (k9 := 0) dX9_writeNext_51 rfl F_i8 (by decide) F_k297 (by omega) la_39 rfl ?_
          refine r_iload_n C dX9_writeNext_54 rfl 1 rfl ?_
          refine r_iald C dX9_writeNext_55 (by omega) la_40 h (fun j15 hj15 h => ?_)
          refine r_callV C (c_X5_write nw hnw (m14.1 40 j15)) (As := [.ref (ad 1), .int (m14.1 40 j15)]) (nn := 2) (stk := [.int (m14.1 40 j15), .ref (ad 1), .ref (ad 52)]) (ci := 5) dX9_writeNext_56 gX9_writeNext_X5_write ⟨rfl, by decide, by decide, by decide +kernel⟩ (by omega) la_52 rfl rfl rfl (by decide) rfl rfl (Nat.le_of_ble_eq_true rfl) (by decide) h (fun r16 m17 h => ?_)
          show V 0 59 [(0, .ref (ad 0)), (2, .int x2_10)] [] m17
          exact hk59 m17 h
  refine r_sub C [1, 0] (show _ = [(0, .ref (ad 0)), (2, .int 0)] from rfl) ?_
  exact L10 5000 0 m2 h
noncomputable def f_X0_countPages_L4 (a : Nat) (e27_4 : Int32 → sM → Option (sR Int32)) : Nat → Int32 → Int32 → sM → Option (sR Int32)
  | 0, _, _, _ => none
  | n + 1, x1_4, x2_4, m4_ =>
    if 8 ≤ x2_4 then (e27_4 x1_4 m4_) else (s_bd (f_X0_touchesPage a x2_4 m4_) fun r1 m2 => s_jn (fun (x1_21 : Int32) => f_X0_countPages_L4 a e27_4 n x1_21 (x2_4 + 1) m2) fun k21 => if r1 = 0 then (k21 x1_4) else (k21 (x1_4 + 1)))
noncomputable def f_X0_countPages (a : Nat) (m : sM) : Option (sR Int32) :=
  s_jn (fun (x1_27 : Int32) (m27_ : sM) => some (.inl x1_27, m27_)) fun e27_4 => f_X0_countPages_L4 a e27_4 5000 0 0 m
set_option maxRecDepth 20000 in
set_option maxHeartbeats 4000000 in
theorem c_X0_countPages (nw : Nat) (hnw : 109 ≤ nw) (a : Nat) (ha : isChg a) : s_Con s_i 0 nw yX0_countPages wsX0_countPages 16 230 0 (f_X0_countPages a) (fun ad => [.ref (ad a)]) := by
  refine s_con_of cX0_countPages 3 (some .int) RX0 (by decide) rfl rfl (fun _ => Nat.le_of_ble_eq_true rfl) (fun ad m res V C h => ?_)
  unfold f_X0_countPages at h
  show V 0 0 [(0, .ref (ad a))] [] m
  refine r_iconst C (v := 0) dX0_countPages_0 (by decide) ?_
  refine r_istore_n C dX0_countPages_1 rfl (by decide) (show _ = [(1, .int 0), (0, .ref (ad a))] from rfl) ?_
  refine r_iconst C (v := 0) dX0_countPages_2 (by decide) ?_
  refine r_istore_n C dX0_countPages_3 rfl (by decide) (show _ = [(2, .int 0), (1, .int 0), (0, .ref (ad a))] from rfl) ?_
  refine s_join h (fun e27_4 => ∀ (x1_27 : Int32) (m27_ : sM), e27_4 x1_27 m27_ = some res → V 0 27 [(1, .int x1_27)] [] m27_) ?_ (fun e27_4 he27_4 h => ?_)
  · intro x1_27 m27_ h
    refine r_iload_n C dX0_countPages_27 rfl 0 rfl ?_
    exact r_iret C dX0_countPages_28 rfl h
  have L4 : ∀ (n : Nat) (x1_4 : Int32) (x2_4 : Int32) (m4_ : sM), f_X0_countPages_L4 a e27_4 n x1_4 x2_4 m4_ = some res → V 0 4 [(0, .ref (ad a)), (1, .int x1_4), (2, .int x2_4)] [] m4_ := by
    intro n
    induction n with
    | zero => intro x1_4 x2_4 m4_ h; rw [f_X0_countPages_L4] at h; cases h
    | succ n ih =>
      intro x1_4 x2_4 m4_ h
      rw [f_X0_countPages_L4] at h
      refine r_iload_n C dX0_countPages_4 rfl 2 rfl ?_
      refine r_bipush C (v := 8) dX0_countPages_5 (by decide) ?_
      refine r_icmp_ge C (tgt := 27) dX0_countPages_7 (by decide) h (fun _ h => ?_) (fun _ h => ?_)
      · skip
        refine r_sub C [1] (show _ = [(1, .int x1_4)] from rfl) ?_
        exact he27_4 x1_4 m4_ h
      · skip
        refine r_aload_n C dX0_countPages_10 rfl 0 rfl ?_
        refine r_iload_n C dX0_countPages_11 rfl 2 rfl ?_
        refine r_callV C (c_X0_touchesPage nw hnw a x2_4 ha) (As := [.int x2_4]) (nn := 1) (stk := [.int x2_4, .ref (ad a)]) (ci := 0) dX0_countPages_12 gX0_countPages_X0_touchesPage ⟨rfl, by decide, by decide, by decide +kernel⟩ (by have := isChg_b ha; omega) (isChg_0 ha) rfl rfl rfl (by decide) rfl rfl (Nat.le_of_ble_eq_true rfl) (by decide) h (fun r1 m2 h => ?_)
        show V 0 15 [(0, .ref (ad a)), (1, .int x1_4), (2, .int x2_4)] [.int r1] m2
        refine s_join h (fun k21 => ∀ (x1_21 : Int32), k21 x1_21 = some res → V 0 21 [(0, .ref (ad a)), (1, .int x1_21), (2, .int x2_4)] [] m2) ?_ (fun k21 hk21 h => ?_)
        · intro x1_21 h
          refine r_iinc C (v := x2_4 + 1) dX0_countPages_21 2 rfl rfl (by decide) (show _ = [(2, .int (x2_4 + 1)), (0, .ref (ad a)), (1, .int x1_21)] from rfl) ?_
          refine r_goto C (tgt := 4) dX0_countPages_24 (by decide) ?_
          refine r_sub C [1, 2, 0] (show _ = [(0, .ref (ad a)), (1, .int x1_21), (2, .int (x2_4 + 1))] from rfl) ?_
          exact ih x1_21 (x2_4 + 1) m2 h
        refine r_if_eq C (tgt := 21) dX0_countPages_15 (by decide) h (fun _ h => ?_) (fun _ h => ?_)
        · skip
          exact hk21 x1_4 h
        · skip
          refine r_iinc C (v := x1_4 + 1) dX0_countPages_18 1 rfl rfl (by decide) (show _ = [(1, .int (x1_4 + 1)), (0, .ref (ad a)), (2, .int x2_4)] from rfl) ?_
          refine r_sub C [1, 0, 2] (show _ = [(0, .ref (ad a)), (1, .int (x1_4 + 1)), (2, .int x2_4)] from rfl) ?_
          exact hk21 (x1_4 + 1) h
  refine r_sub C [2, 1, 0] (show _ = [(0, .ref (ad a)), (1, .int 0), (2, .int 0)] from rfl) ?_
  exact L4 5000 0 0 m h
noncomputable def f_X3_append_L4 (y1_4 : Int32) (y2_4 : Int32) (y3_4 : Int32) (y4_4 : Int32) (e37_4 : sM → Option (sR Unit)) : Nat → Int32 → sM → Option (sR Unit)
  | 0, _, _ => none
  | n + 1, x5_4, m4_ =>
    if x5_4 ≤ 0 then (e37_4  m4_) else (s_ix (x5_4 - 1) 8 fun j14 => s_ix x5_4 8 fun j15 => s_gd (¬ (0 : Int32) < 0 ∧ ¬ (0 : Int32) < 0 ∧ ¬ (4 : Int32) < 0 ∧ (0 : Int32).toNatClampNeg + (4 : Int32).toNatClampNeg ≤ 4 ∧ (0 : Int32).toNatClampNeg + (4 : Int32).toNatClampNeg ≤ 4 ∧ ∀ i, i < (4 : Int32).toNatClampNeg → fits .int (.int (m4_.1 (96 + 1 * j14) ((0 : Int32).toNatClampNeg + i))) = true) (s_md (s_cp m4_ (96 + 1 * j14) (96 + 1 * j15) (0 : Int32).toNatClampNeg (0 : Int32).toNatClampNeg (4 : Int32).toNatClampNeg) fun m16 => f_X3_append_L4 y1_4 y2_4 y3_4 y4_4 e37_4 n (x5_4 + (-1)) m16))
noncomputable def f_X3_append (p1 : Int32) (p2 : Int32) (p3 : Int32) (p4 : Int32) (m : sM) : Option (sR Unit) :=
  s_jn (fun (m37_ : sM) => s_ix 0 8 fun j1 => s_ix 0 4 fun j2 => s_md (s_up m37_ (96 + 1 * j1) j2 p1) fun m3 => s_ix 0 8 fun j4 => s_ix 1 4 fun j5 => s_md (s_up m3 (96 + 1 * j4) j5 p2) fun m6 => s_ix 0 8 fun j7 => s_ix 2 4 fun j8 => s_md (s_up m6 (96 + 1 * j7) j8 p3) fun m9 => s_ix 0 8 fun j10 => s_ix 3 4 fun j11 => s_md (s_up m9 (96 + 1 * j10) j11 p4) fun m12 => s_jn (fun (m93_ : sM) => some (.inl (), m93_)) fun k93 => if 8 ≤ (m12.1 94 1) then (k93  m12) else (s_md (s_up m12 94 1 ((m12.1 94 1) + 1)) fun m13 => k93  m13)) fun e37_4 => f_X3_append_L4 p1 p2 p3 p4 e37_4 5000 7 m
set_option maxRecDepth 20000 in
set_option maxHeartbeats 4000000 in
theorem c_X3_append (nw : Nat) (hnw : 109 ≤ nw) (p1 : Int32) (p2 : Int32) (p3 : Int32) (p4 : Int32) : s_Con s_u 0 nw yX3_append wsX3_append 12 140 0 (f_X3_append p1 p2 p3 p4) (fun ad => [.ref (ad 94), .int p1, .int p2, .int p3, .int p4]) := by
  refine s_con_of cX3_append 6 none RX3 (by decide) rfl rfl (fun _ => Nat.le_of_ble_eq_true rfl) (fun ad m res V C h => ?_)
  unfold f_X3_append at h
  have F_i3 : ∀ w ∈ wsX30, w ∈ wsX3_append := by decide +kernel
  have F_k11 : Cond.fieldLink RX3 11 "ShadowFile$Log" "rows" "[[I" ∈ wsX3_append := by decide +kernel
  have F_k16 : Cond.fieldLink RX3 16 "ShadowFile$Log" "size" "I" ∈ wsX3_append := by decide +kernel
  have F_c20 : Cond.methodLink RX3 20 arraycopyName ∈ wsX3_append := by decide +kernel
  have F_cnat : Cond.native arraycopyName ∈ wsX3_append := by decide +kernel
  have F_csta : Cond.static arraycopyName ∈ wsX3_append := by decide +kernel
  have F_cini : Cond.initialized "java/lang/System" ∈ wsX3_append := by decide +kernel
  show V 0 0 [(0, .ref (ad 94)), (1, .int p1), (2, .int p2), (3, .int p3), (4, .int p4)] [] m
  refine r_bipush C (v := 7) dX3_append_0 (by decide) ?_
  refine r_istore C dX3_append_2 (by decide) (show _ = [(5, .int 7), (0, .ref (ad 94)), (1, .int p1), (2, .int p2), (3, .int p3), (4, .int p4)] from rfl) ?_
  refine s_join h (fun e37_4 => ∀ (m37_ : sM), e37_4 m37_ = some res → V 0 37 [(0, .ref (ad 94)), (1, .int p1), (2, .int p2), (3, .int p3), (4, .int p4)] [] m37_) ?_ (fun e37_4 he37_4 h => ?_)
  · intro m37_ h
    refine r_aload_n C dX3_append_37 rfl 0 rfl ?_
    refine r_getr C (ci := 3) (k9 := 0) dX3_append_38 rfl F_i3 (by decide) F_k11 (by omega) la_94 rfl ?_
    refine r_iconst C (v := 0) dX3_append_41 (by decide) ?_
    refine r_aald C (b0 := 96) (d0 := 1) dX3_append_42 (by omega) la_95 (fun _ => rfl) rfl h (fun j1 hj1 h => ?_)
    refine r_iconst C (v := 0) dX3_append_43 (by decide) ?_
    refine r_iload_n C dX3_append_44 rfl 1 rfl ?_
    refine r_iast C dX3_append_45 (by have := isLog_b (isLog_d hj1); omega) (isLog_0 (isLog_d hj1)) h (fun j2 m3 hj2 _ h => ?_)
    refine r_aload_n C dX3_append_46 rfl 0 rfl ?_
    refine r_getr C (ci := 3) (k9 := 0) dX3_append_47 rfl F_i3 (by decide) F_k11 (by omega) la_94 rfl ?_
    refine r_iconst C (v := 0) dX3_append_50 (by decide) ?_
    refine r_aald C (b0 := 96) (d0 := 1) dX3_append_51 (by omega) la_95 (fun _ => rfl) rfl h (fun j4 hj4 h => ?_)
    refine r_iconst C (v := 1) dX3_append_52 (by decide) ?_
    refine r_iload_n C dX3_append_53 rfl 2 rfl ?_
    refine r_iast C dX3_append_54 (by have := isLog_b (isLog_d hj4); omega) (isLog_0 (isLog_d hj4)) h (fun j5 m6 hj5 _ h => ?_)
    refine r_aload_n C dX3_append_55 rfl 0 rfl ?_
    refine r_getr C (ci := 3) (k9 := 0) dX3_append_56 rfl F_i3 (by decide) F_k11 (by omega) la_94 rfl ?_
    refine r_iconst C (v := 0) dX3_append_59 (by decide) ?_
    refine r_aald C (b0 := 96) (d0 := 1) dX3_append_60 (by omega) la_95 (fun _ => rfl) rfl h (fun j7 hj7 h => ?_)
    refine r_iconst C (v := 2) dX3_append_61 (by decide) ?_
    refine r_iload_n C dX3_append_62 rfl 3 rfl ?_
    refine r_iast C dX3_append_63 (by have := isLog_b (isLog_d hj7); omega) (isLog_0 (isLog_d hj7)) h (fun j8 m9 hj8 _ h => ?_)
    refine r_aload_n C dX3_append_64 rfl 0 rfl ?_
    refine r_getr C (ci := 3) (k9 := 0) dX3_append_65 rfl F_i3 (by decide) F_k11 (by omega) la_94 rfl ?_
    refine r_iconst C (v := 0) dX3_append_68 (by decide) ?_
    refine r_aald C (b0 := 96) (d0 := 1) dX3_append_69 (by omega) la_95 (fun _ => rfl) rfl h (fun j10 hj10 h => ?_)
    refine r_iconst C (v := 3) dX3_append_70 (by decide) ?_
    refine r_iload C dX3_append_71 4 rfl ?_
    refine r_iast C dX3_append_73 (by have := isLog_b (isLog_d hj10); omega) (isLog_0 (isLog_d hj10)) h (fun j11 m12 hj11 _ h => ?_)
    refine r_aload_n C dX3_append_74 rfl 0 rfl ?_
    refine r_geti C (ci := 3) (k9 := 1) dX3_append_75 rfl F_i3 (by decide) F_k16 (by omega) la_94 rfl ?_
    refine r_bipush C (v := 8) dX3_append_78 (by decide) ?_
    refine s_join h (fun k93 => ∀ (m93_ : sM), k93 m93_ = some res → V 0 93 [] [] m93_) ?_ (fun k93 hk93 h => ?_)
    · intro m93_ h
      exact r_vret C dX3_append_93 rfl h
    refine r_icmp_ge C (tgt := 93) dX3_append_80 (by decide) h (fun _ h => ?_) (fun _ h => ?_)
    · skip
      refine r_sub C [] (show _ = [] from rfl) ?_
      exact hk93 m12 h
    · skip
      refine r_aload_n C dX3_append_83 rfl 0 rfl ?_
      refine r_dup C dX3_append_84 rfl ?_
      refine r_geti C (ci := 3) (k9 := 1) dX3_append_85 rfl F_i3 (by decide) F_k16 (by omega) la_94 rfl ?_
      refine r_iconst C (v := 1) dX3_append_88 (by decide) ?_
      refine r_iadd C dX3_append_89 ?_
      refine r_puti C (ci := 3) (k9 := 1) dX3_append_90 rfl F_i3 (by decide) F_k16 (by omega) la_94 rfl tyX3 tyX3_ok nmX3 rfl (tyX3_ok 1 (by decide)) rfl rfl h (fun m13 _ h => ?_)
      refine r_sub C [] (show _ = [] from rfl) ?_
      exact hk93 m13 h
  have L4 : ∀ (n : Nat) (x5_4 : Int32) (m4_ : sM), f_X3_append_L4 p1 p2 p3 p4 e37_4 n x5_4 m4_ = some res → V 0 4 [(0, .ref (ad 94)), (1, .int p1), (2, .int p2), (3, .int p3), (4, .int p4), (5, .int x5_4)] [] m4_ := by
    intro n
    induction n with
    | zero => intro x5_4 m4_ h; rw [f_X3_append_L4] at h; cases h
    | succ n ih =>
      intro x5_4 m4_ h
      rw [f_X3_append_L4] at h
      refine r_iload C dX3_append_4 5 rfl ?_
      refine r_if_le C (tgt := 37) dX3_append_6 (by decide) h (fun _ h => ?_) (fun _ h => ?_)
      · skip
        refine r_sub C [0, 1, 2, 3, 4] (show _ = [(0, .ref (ad 94)), (1, .int p1), (2, .int p2), (3, .int p3), (4, .int p4)] from rfl) ?_
        exact he37_4 m4_ h
      · skip
        refine r_aload_n C dX3_append_9 rfl 0 rfl ?_
        refine r_getr C (ci := 3) (k9 := 0) dX3_append_10 rfl F_i3 (by decide) F_k11 (by omega) la_94 rfl ?_
        refine r_iload C dX3_append_13 5 rfl ?_
        refine r_iconst C (v := 1) dX3_append_15 (by decide) ?_
        refine r_isub C dX3_append_16 ?_
        refine r_aald C (b0 := 96) (d0 := 1) dX3_append_17 (by omega) la_95 (fun _ => rfl) rfl h (fun j14 hj14 h => ?_)
        refine r_iconst C (v := 0) dX3_append_18 (by decide) ?_
        refine r_aload_n C dX3_append_19 rfl 0 rfl ?_
        refine r_getr C (ci := 3) (k9 := 0) dX3_append_20 rfl F_i3 (by decide) F_k11 (by omega) la_94 rfl ?_
        refine r_iload C dX3_append_23 5 rfl ?_
        refine r_aald C (b0 := 96) (d0 := 1) dX3_append_25 (by omega) la_95 (fun _ => rfl) rfl h (fun j15 hj15 h => ?_)
        refine r_iconst C (v := 0) dX3_append_26 (by decide) ?_
        refine r_iconst C (v := 4) dX3_append_27 (by decide) ?_
        refine r_copy C dX3_append_28 F_c20 F_cnat F_csta F_cini (by have := isLog_b (isLog_d hj14); omega) (by have := isLog_b (isLog_d hj15); omega) (isLog_0 (isLog_d hj14)) (isLog_0 (isLog_d hj15)) (by decide) (fun _ => rfl) rfl (by decide) (Nat.le_of_ble_eq_true rfl) h (fun m16 _ h => ?_)
        refine r_iinc C (v := x5_4 + (-1)) dX3_append_31 5 rfl rfl (by decide) (show _ = [(5, .int (x5_4 + (-1))), (0, .ref (ad 94)), (1, .int p1), (2, .int p2), (3, .int p3), (4, .int p4)] from rfl) ?_
        refine r_goto C (tgt := 4) dX3_append_34 (by decide) ?_
        refine r_sub C [1, 2, 3, 4, 5, 0] (show _ = [(0, .ref (ad 94)), (1, .int p1), (2, .int p2), (3, .int p3), (4, .int p4), (5, .int (x5_4 + (-1)))] from rfl) ?_
        exact ih (x5_4 + (-1)) m16 h
  refine r_sub C [1, 2, 3, 4, 5, 0] (show _ = [(0, .ref (ad 94)), (1, .int p1), (2, .int p2), (3, .int p3), (4, .int p4), (5, .int 7)] from rfl) ?_
  exact L4 5000 7 m h
