noncomputable def f_X9_outputAt (p1 : Int32) (m : sM) : Option (sR Int32) :=
  s_jn (some (.inr "java/lang/IndexOutOfBoundsException", m)) fun k15 => if p1 < 0 then (k15) else (if p1 < (m.1 91 2) then (s_ix p1 960 fun j1 => s_gd (narrow .char (.int (m.1 92 j1)) = .int (m.1 92 j1)) (some (.inl (m.1 92 j1), m))) else (k15))
set_option maxRecDepth 20000 in
set_option maxHeartbeats 4000000 in
theorem c_X9_outputAt (nw : Nat) (hnw : 109 ≤ nw) (p1 : Int32) : s_Con s_i 0 nw yX9_outputAt wsX9_outputAt 12 140 1 (f_X9_outputAt p1) (fun ad => [.ref (ad 0), .int p1]) := by
  refine s_con_of cX9_outputAt 2 (some .char) RX9 (by decide) rfl rfl (fun _ => Nat.le_of_ble_eq_true rfl) (fun ad m res V C h => ?_)
  unfold f_X9_outputAt at h
  have F_q229 : Cond.classLink RX9 229 "java/lang/IndexOutOfBoundsException" ∈ wsX9_outputAt := by decide +kernel
  have F_u229 : Cond.initialized "java/lang/IndexOutOfBoundsException" ∈ wsX9_outputAt := by decide +kernel
  have F_z233 : ∀ w ∈ (vx_atS RX9 233 "java/lang/IndexOutOfBoundsException" ["java/lang/RuntimeException", "java/lang/Exception"]).filter goodWord, w ∈ wsX9_outputAt := by decide +kernel
  have F_y233 : ∀ w ∈ (vx_atS RX9 233 "java/lang/IndexOutOfBoundsException" ["java/lang/RuntimeException", "java/lang/Exception"]).filter (fun w => !goodWord w), w ∈ Cond.castable "java/lang/IndexOutOfBoundsException" "java/lang/IndexOutOfBoundsException" :: s_dec.map Cond.declares := by decide +kernel
  have F_v233 : ∀ w ∈ Cond.classLink RX9 229 "java/lang/IndexOutOfBoundsException" :: Cond.initialized "java/lang/IndexOutOfBoundsException" :: vx_atS RX9 233 "java/lang/IndexOutOfBoundsException" ["java/lang/RuntimeException", "java/lang/Exception"], vx_ot w = true := by decide +kernel
  have F_i9 : ∀ w ∈ wsX90, w ∈ wsX9_outputAt := by decide +kernel
  have F_k72 : Cond.fieldLink RX9 72 "ShadowFile" "output" "LShadowFile$Output;" ∈ wsX9_outputAt := by decide +kernel
  have F_i4 : ∀ w ∈ wsX40, w ∈ wsX9_outputAt := by decide +kernel
  have F_k204 : Cond.fieldLink RX9 204 "ShadowFile$Output" "length" "I" ∈ wsX9_outputAt := by decide +kernel
  have F_k234 : Cond.fieldLink RX9 234 "ShadowFile$Output" "signs" "[C" ∈ wsX9_outputAt := by decide +kernel
  show V 1 0 [(0, .ref (ad 0)), (1, .int p1)] [] m
  refine r_iload_n C dX9_outputAt_0 rfl 1 rfl ?_
  refine s_join h (fun k15 => k15  = some res → V 1 15 [] [] m) ?_ (fun k15 hk15 h => ?_)
  · intro  h
    exact r_throw C (text := "no such index of the output") (names := ["java/lang/RuntimeException", "java/lang/Exception"]) dX9_outputAt_15 dX9_outputAt_18 dX9_outputAt_19 dX9_outputAt_21 dX9_outputAt_24 (by decide) (by decide) F_q229 F_u229 F_z233 F_y233 F_v233 (by decide +kernel) (by decide +kernel) (by decide) (Nat.le_of_ble_eq_true rfl) (by decide) h
  refine r_if_lt C (tgt := 15) dX9_outputAt_1 (by decide) h (fun _ h => ?_) (fun _ h => ?_)
  · skip
    refine r_sub C [] (show _ = [] from rfl) ?_
    exact hk15 h
  · skip
    refine r_iload_n C dX9_outputAt_4 rfl 1 rfl ?_
    refine r_aload_n C dX9_outputAt_5 rfl 0 rfl ?_
    refine r_getr C (ci := 9) (k9 := 11) dX9_outputAt_6 rfl F_i9 (by decide) F_k72 (by omega) la_0 rfl ?_
    refine r_geti C (ci := 4) (k9 := 2) dX9_outputAt_9 rfl F_i4 (by decide) F_k204 (by omega) la_91 rfl ?_
    refine r_icmp_lt C (tgt := 25) dX9_outputAt_12 (by decide) h (fun _ h => ?_) (fun _ h => ?_)
    · skip
      refine r_aload_n C dX9_outputAt_25 rfl 0 rfl ?_
      refine r_getr C (ci := 9) (k9 := 11) dX9_outputAt_26 rfl F_i9 (by decide) F_k72 (by omega) la_0 rfl ?_
      refine r_getr C (ci := 4) (k9 := 0) dX9_outputAt_29 rfl F_i4 (by decide) F_k234 (by omega) la_91 rfl ?_
      refine r_iload_n C dX9_outputAt_32 rfl 1 rfl ?_
      refine r_cald C dX9_outputAt_33 (by omega) la_92 h (fun j1 hj1 h => ?_)
      obtain ⟨hg, h⟩ := s_gd_of h
      exact r_zret C dX9_outputAt_34 rfl hg h
    · skip
      refine r_sub C [] (show _ = [] from rfl) ?_
      exact hk15 h
noncomputable def f_X0_add_L2 (a : Nat) (a1_2 : Nat) (e55_2 : sM → Option (sR Unit)) : Nat → Int32 → sM → Option (sR Unit)
  | 0, _, _ => none
  | n + 1, x2_2, m2_ =>
    if 64 ≤ x2_2 then (e55_2  m2_) else (s_bd (f_X9_isIn (m2_.2 a1_2 2) x2_2 m2_) fun r1 m2 => s_jn (fun (m49_ : sM) => f_X0_add_L2 a a1_2 e55_2 n (x2_2 + 1) m49_) fun k49 => if r1 = 0 then (s_bd (f_X9_isIn (m2.2 a1_2 1) x2_2 m2) fun r3 m4 => if r3 = 0 then (k49  m4) else (s_ix x2_2 64 fun j5 => s_bd (f_X0_renew a x2_2 (m4.1 (a1_2 + 1) j5) m4) fun r6 m7 => k49  m7)) else (s_bd (f_X0_drop a x2_2 m2) fun r8 m9 => k49  m9))
noncomputable def f_X0_add (a : Nat) (a1 : Nat) (m : sM) : Option (sR Unit) :=
  s_jn (fun (m55_ : sM) => some (.inl (), m55_)) fun e55_2 => f_X0_add_L2 a a1 e55_2 5000 0 m
set_option maxRecDepth 20000 in
set_option maxHeartbeats 4000000 in
theorem c_X0_add (nw : Nat) (hnw : 109 ≤ nw) (a : Nat) (a1 : Nat) (ha : isChg a) (ha1 : isChg a1) : s_Con s_u 0 nw yX0_add wsX0_add 16 230 0 (f_X0_add a a1) (fun ad => [.ref (ad a), .ref (ad a1)]) := by
  refine s_con_of cX0_add 3 none RX0 (by decide) rfl rfl (fun _ => Nat.le_of_ble_eq_true rfl) (fun ad m res V C h => ?_)
  unfold f_X0_add at h
  have F_i0 : ∀ w ∈ wsX00, w ∈ wsX0_add := by decide +kernel
  have F_k19 : Cond.fieldLink RX0 19 "ShadowFile$Changes" "removed" "J" ∈ wsX0_add := by decide +kernel
  have F_tyX9_isIn : Cond.static yX9_isIn ∈ wsX0_add := by decide +kernel
  have F_nyX9_isIn : Cond.initialized RX9 ∈ wsX0_add := by decide +kernel
  have F_k15 : Cond.fieldLink RX0 15 "ShadowFile$Changes" "touched" "J" ∈ wsX0_add := by decide +kernel
  have F_k9 : Cond.fieldLink RX0 9 "ShadowFile$Changes" "values" "[I" ∈ wsX0_add := by decide +kernel
  show V 0 0 [(0, .ref (ad a)), (1, .ref (ad a1))] [] m
  refine r_iconst C (v := 0) dX0_add_0 (by decide) ?_
  refine r_istore_n C dX0_add_1 rfl (by decide) (show _ = [(2, .int 0), (0, .ref (ad a)), (1, .ref (ad a1))] from rfl) ?_
  refine s_join h (fun e55_2 => ∀ (m55_ : sM), e55_2 m55_ = some res → V 0 55 [] [] m55_) ?_ (fun e55_2 he55_2 h => ?_)
  · intro m55_ h
    exact r_vret C dX0_add_55 rfl h
  have L2 : ∀ (n : Nat) (x2_2 : Int32) (m2_ : sM), f_X0_add_L2 a a1 e55_2 n x2_2 m2_ = some res → V 0 2 [(0, .ref (ad a)), (1, .ref (ad a1)), (2, .int x2_2)] [] m2_ := by
    intro n
    induction n with
    | zero => intro x2_2 m2_ h; rw [f_X0_add_L2] at h; cases h
    | succ n ih =>
      intro x2_2 m2_ h
      rw [f_X0_add_L2] at h
      refine r_iload_n C dX0_add_2 rfl 2 rfl ?_
      refine r_bipush C (v := 64) dX0_add_3 (by decide) ?_
      refine r_icmp_ge C (tgt := 55) dX0_add_5 (by decide) h (fun _ h => ?_) (fun _ h => ?_)
      · skip
        refine r_sub C [] (show _ = [] from rfl) ?_
        exact he55_2 m2_ h
      · skip
        refine r_aload_n C dX0_add_8 rfl 1 rfl ?_
        refine r_getl C (ci := 0) (k9 := 2) dX0_add_9 rfl F_i0 (by decide) F_k19 (by have := isChg_b ha1; omega) (isChg_0 ha1) rfl ?_
        refine r_iload_n C dX0_add_12 rfl 2 rfl ?_
        refine r_callN C (c_X9_isIn nw hnw (m2_.2 a1 2) x2_2) (host := RX9) (As := [.long (m2_.2 a1 2), .int x2_2]) (nn := 2) (stk := [.int x2_2, .long (m2_.2 a1 2)]) dX0_add_13 gX0_add_X9_isIn_n34 (by decide +kernel) F_tyX9_isIn F_nyX9_isIn ⟨by decide, by decide, by decide +kernel⟩ rfl rfl (by decide) rfl rfl (Nat.le_of_ble_eq_true rfl) (by decide) h (fun r1 m2 h => ?_)
        show V 0 16 [(0, .ref (ad a)), (1, .ref (ad a1)), (2, .int x2_2)] [.int r1] m2
        refine s_join h (fun k49 => ∀ (m49_ : sM), k49 m49_ = some res → V 0 49 [(0, .ref (ad a)), (1, .ref (ad a1)), (2, .int x2_2)] [] m49_) ?_ (fun k49 hk49 h => ?_)
        · intro m49_ h
          refine r_iinc C (v := x2_2 + 1) dX0_add_49 2 rfl rfl (by decide) (show _ = [(2, .int (x2_2 + 1)), (0, .ref (ad a)), (1, .ref (ad a1))] from rfl) ?_
          refine r_goto C (tgt := 2) dX0_add_52 (by decide) ?_
          refine r_sub C [1, 2, 0] (show _ = [(0, .ref (ad a)), (1, .ref (ad a1)), (2, .int (x2_2 + 1))] from rfl) ?_
          exact ih (x2_2 + 1) m49_ h
        refine r_if_eq C (tgt := 27) dX0_add_16 (by decide) h (fun _ h => ?_) (fun _ h => ?_)
        · skip
          refine r_aload_n C dX0_add_27 rfl 1 rfl ?_
          refine r_getl C (ci := 0) (k9 := 1) dX0_add_28 rfl F_i0 (by decide) F_k15 (by have := isChg_b ha1; omega) (isChg_0 ha1) rfl ?_
          refine r_iload_n C dX0_add_31 rfl 2 rfl ?_
          refine r_callN C (c_X9_isIn nw hnw (m2.2 a1 1) x2_2) (host := RX9) (As := [.long (m2.2 a1 1), .int x2_2]) (nn := 2) (stk := [.int x2_2, .long (m2.2 a1 1)]) dX0_add_32 gX0_add_X9_isIn_n34 (by decide +kernel) F_tyX9_isIn F_nyX9_isIn ⟨by decide, by decide, by decide +kernel⟩ rfl rfl (by decide) rfl rfl (Nat.le_of_ble_eq_true rfl) (by decide) h (fun r3 m4 h => ?_)
          show V 0 35 [(0, .ref (ad a)), (1, .ref (ad a1)), (2, .int x2_2)] [.int r3] m4
          refine r_if_eq C (tgt := 49) dX0_add_35 (by decide) h (fun _ h => ?_) (fun _ h => ?_)
          · skip
            exact hk49 m4 h
          · skip
            refine r_aload_n C dX0_add_38 rfl 0 rfl ?_
            refine r_iload_n C dX0_add_39 rfl 2 rfl ?_
            refine r_aload_n C dX0_add_40 rfl 1 rfl ?_
            refine r_getr C (ci := 0) (k9 := 0) dX0_add_41 rfl F_i0 (by decide) F_k9 (by have := isChg_b ha1; omega) (isChg_0 ha1) rfl ?_
            refine r_iload_n C dX0_add_44 rfl 2 rfl ?_
            refine r_iald C dX0_add_45 (by have := isChg_b ha1; omega) (isChg_1 ha1) h (fun j5 hj5 h => ?_)
            refine r_callV C (c_X0_renew nw hnw a x2_2 (m4.1 (a1 + 1) j5) ha) (As := [.int x2_2, .int (m4.1 (a1 + 1) j5)]) (nn := 2) (stk := [.int (m4.1 (a1 + 1) j5), .int x2_2, .ref (ad a)]) (ci := 0) dX0_add_46 gX0_add_X0_renew ⟨rfl, by decide, by decide, by decide +kernel⟩ (by have := isChg_b ha; omega) (isChg_0 ha) rfl rfl rfl (by decide) rfl rfl (Nat.le_of_ble_eq_true rfl) (by decide) h (fun r6 m7 h => ?_)
            show V 0 49 [(0, .ref (ad a)), (1, .ref (ad a1)), (2, .int x2_2)] [] m7
            exact hk49 m7 h
        · skip
          refine r_aload_n C dX0_add_19 rfl 0 rfl ?_
          refine r_iload_n C dX0_add_20 rfl 2 rfl ?_
          refine r_callV C (c_X0_drop nw hnw a x2_2 ha) (As := [.int x2_2]) (nn := 1) (stk := [.int x2_2, .ref (ad a)]) (ci := 0) dX0_add_21 gX0_add_X0_drop ⟨rfl, by decide, by decide, by decide +kernel⟩ (by have := isChg_b ha; omega) (isChg_0 ha) rfl rfl rfl (by decide) rfl rfl (Nat.le_of_ble_eq_true rfl) (by decide) h (fun r8 m9 h => ?_)
          show V 0 24 [(0, .ref (ad a)), (1, .ref (ad a1)), (2, .int x2_2)] [] m9
          refine r_goto C (tgt := 49) dX0_add_24 (by decide) ?_
          exact hk49 m9 h
  refine r_sub C [1, 2, 0] (show _ = [(0, .ref (ad a)), (1, .ref (ad a1)), (2, .int 0)] from rfl) ?_
  exact L2 5000 0 m h
noncomputable def f_X8_copyFrom (a : Nat) (a1 : Nat) (m : sM) : Option (sR Unit) :=
  s_gd (¬ (0 : Int32) < 0 ∧ ¬ (0 : Int32) < 0 ∧ ¬ (8 : Int32) < 0 ∧ (0 : Int32).toNatClampNeg + (8 : Int32).toNatClampNeg ≤ 8 ∧ (0 : Int32).toNatClampNeg + (8 : Int32).toNatClampNeg ≤ 8 ∧ ∀ i, i < (8 : Int32).toNatClampNeg → fits .int (.int (m.1 (a1 + 1) ((0 : Int32).toNatClampNeg + i))) = true) (s_md (s_cp m (a1 + 1) (a + 1) (0 : Int32).toNatClampNeg (0 : Int32).toNatClampNeg (8 : Int32).toNatClampNeg) fun m1 => s_gd (¬ (0 : Int32) < 0 ∧ ¬ (0 : Int32) < 0 ∧ ¬ (64 : Int32) < 0 ∧ (0 : Int32).toNatClampNeg + (64 : Int32).toNatClampNeg ≤ 64 ∧ (0 : Int32).toNatClampNeg + (64 : Int32).toNatClampNeg ≤ 64 ∧ ∀ i, i < (64 : Int32).toNatClampNeg → fits .int (.int (m1.1 (a1 + 2) ((0 : Int32).toNatClampNeg + i))) = true) (s_md (s_cp m1 (a1 + 2) (a + 2) (0 : Int32).toNatClampNeg (0 : Int32).toNatClampNeg (64 : Int32).toNatClampNeg) fun m2 => s_md (s_uL m2 a 2 (m2.2 a1 2)) fun m3 => s_md (s_up m3 a 3 (m3.1 a1 3)) fun m4 => s_md (s_up m4 a 4 (m4.1 a1 4)) fun m5 => s_md (s_up m5 a 5 (m5.1 a1 5)) fun m6 => some (.inl (), m6)))
set_option maxRecDepth 20000 in
set_option maxHeartbeats 4000000 in
theorem c_X8_copyFrom (nw : Nat) (hnw : 109 ≤ nw) (a : Nat) (a1 : Nat) (ha : isVer a) (ha1 : isVer a1) : s_Con s_u 0 nw yX8_copyFrom wsX8_copyFrom 12 140 0 (f_X8_copyFrom a a1) (fun ad => [.ref (ad a), .ref (ad a1)]) := by
  refine s_con_of cX8_copyFrom 2 none RX8 (by decide) rfl rfl (fun _ => Nat.le_of_ble_eq_true rfl) (fun ad m res V C h => ?_)
  unfold f_X8_copyFrom at h
  have F_i8 : ∀ w ∈ wsX80, w ∈ wsX8_copyFrom := by decide +kernel
  have F_k9 : Cond.fieldLink RX8 9 "ShadowFile$Version" "blocks" "[I" ∈ wsX8_copyFrom := by decide +kernel
  have F_c38 : Cond.methodLink RX8 38 arraycopyName ∈ wsX8_copyFrom := by decide +kernel
  have F_cnat : Cond.native arraycopyName ∈ wsX8_copyFrom := by decide +kernel
  have F_csta : Cond.static arraycopyName ∈ wsX8_copyFrom := by decide +kernel
  have F_cini : Cond.initialized "java/lang/System" ∈ wsX8_copyFrom := by decide +kernel
  have F_k15 : Cond.fieldLink RX8 15 "ShadowFile$Version" "values" "[I" ∈ wsX8_copyFrom := by decide +kernel
  have F_k18 : Cond.fieldLink RX8 18 "ShadowFile$Version" "keys" "J" ∈ wsX8_copyFrom := by decide +kernel
  have F_k22 : Cond.fieldLink RX8 22 "ShadowFile$Version" "number" "I" ∈ wsX8_copyFrom := by decide +kernel
  have F_k26 : Cond.fieldLink RX8 26 "ShadowFile$Version" "root" "I" ∈ wsX8_copyFrom := by decide +kernel
  have F_k29 : Cond.fieldLink RX8 29 "ShadowFile$Version" "table" "I" ∈ wsX8_copyFrom := by decide +kernel
  show V 0 0 [(0, .ref (ad a)), (1, .ref (ad a1))] [] m
  refine r_aload_n C dX8_copyFrom_0 rfl 1 rfl ?_
  refine r_getr C (ci := 8) (k9 := 0) dX8_copyFrom_1 rfl F_i8 (by decide) F_k9 (by have := isVer_b ha1; omega) (isVer_0 ha1) rfl ?_
  refine r_iconst C (v := 0) dX8_copyFrom_4 (by decide) ?_
  refine r_aload_n C dX8_copyFrom_5 rfl 0 rfl ?_
  refine r_getr C (ci := 8) (k9 := 0) dX8_copyFrom_6 rfl F_i8 (by decide) F_k9 (by have := isVer_b ha; omega) (isVer_0 ha) rfl ?_
  refine r_iconst C (v := 0) dX8_copyFrom_9 (by decide) ?_
  refine r_bipush C (v := 8) dX8_copyFrom_10 (by decide) ?_
  refine r_copy C dX8_copyFrom_12 F_c38 F_cnat F_csta F_cini (by have := isVer_b ha1; omega) (by have := isVer_b ha; omega) (isVer_1 ha1) (isVer_1 ha) (by decide) (fun _ => rfl) rfl (by decide) (Nat.le_of_ble_eq_true rfl) h (fun m1 _ h => ?_)
  refine r_aload_n C dX8_copyFrom_15 rfl 1 rfl ?_
  refine r_getr C (ci := 8) (k9 := 1) dX8_copyFrom_16 rfl F_i8 (by decide) F_k15 (by have := isVer_b ha1; omega) (isVer_0 ha1) rfl ?_
  refine r_iconst C (v := 0) dX8_copyFrom_19 (by decide) ?_
  refine r_aload_n C dX8_copyFrom_20 rfl 0 rfl ?_
  refine r_getr C (ci := 8) (k9 := 1) dX8_copyFrom_21 rfl F_i8 (by decide) F_k15 (by have := isVer_b ha; omega) (isVer_0 ha) rfl ?_
  refine r_iconst C (v := 0) dX8_copyFrom_24 (by decide) ?_
  refine r_bipush C (v := 64) dX8_copyFrom_25 (by decide) ?_
  refine r_copy C dX8_copyFrom_27 F_c38 F_cnat F_csta F_cini (by have := isVer_b ha1; omega) (by have := isVer_b ha; omega) (isVer_2 ha1) (isVer_2 ha) (by decide) (fun _ => rfl) rfl (by decide) (Nat.le_of_ble_eq_true rfl) h (fun m2 _ h => ?_)
  refine r_aload_n C dX8_copyFrom_30 rfl 0 rfl ?_
  refine r_aload_n C dX8_copyFrom_31 rfl 1 rfl ?_
  refine r_getl C (ci := 8) (k9 := 2) dX8_copyFrom_32 rfl F_i8 (by decide) F_k18 (by have := isVer_b ha1; omega) (isVer_0 ha1) rfl ?_
  refine r_putl C (ci := 8) (k9 := 2) dX8_copyFrom_35 rfl F_i8 (by decide) F_k18 (by have := isVer_b ha; omega) (isVer_0 ha) rfl tyX8 tyX8_ok nmX8 rfl (tyX8_ok 2 (by decide)) rfl rfl h (fun m3 _ h => ?_)
  refine r_aload_n C dX8_copyFrom_38 rfl 0 rfl ?_
  refine r_aload_n C dX8_copyFrom_39 rfl 1 rfl ?_
  refine r_geti C (ci := 8) (k9 := 3) dX8_copyFrom_40 rfl F_i8 (by decide) F_k22 (by have := isVer_b ha1; omega) (isVer_0 ha1) rfl ?_
  refine r_puti C (ci := 8) (k9 := 3) dX8_copyFrom_43 rfl F_i8 (by decide) F_k22 (by have := isVer_b ha; omega) (isVer_0 ha) rfl tyX8 tyX8_ok nmX8 rfl (tyX8_ok 3 (by decide)) rfl rfl h (fun m4 _ h => ?_)
  refine r_aload_n C dX8_copyFrom_46 rfl 0 rfl ?_
  refine r_aload_n C dX8_copyFrom_47 rfl 1 rfl ?_
  refine r_geti C (ci := 8) (k9 := 4) dX8_copyFrom_48 rfl F_i8 (by decide) F_k26 (by have := isVer_b ha1; omega) (isVer_0 ha1) rfl ?_
  refine r_puti C (ci := 8) (k9 := 4) dX8_copyFrom_51 rfl F_i8 (by decide) F_k26 (by have := isVer_b ha; omega) (isVer_0 ha) rfl tyX8 tyX8_ok nmX8 rfl (tyX8_ok 4 (by decide)) rfl rfl h (fun m5 _ h => ?_)
  refine r_aload_n C dX8_copyFrom_54 rfl 0 rfl ?_
  refine r_aload_n C dX8_copyFrom_55 rfl 1 rfl ?_
  refine r_geti C (ci := 8) (k9 := 5) dX8_copyFrom_56 rfl F_i8 (by decide) F_k29 (by have := isVer_b ha1; omega) (isVer_0 ha1) rfl ?_
  refine r_puti C (ci := 8) (k9 := 5) dX8_copyFrom_59 rfl F_i8 (by decide) F_k29 (by have := isVer_b ha; omega) (isVer_0 ha) rfl tyX8 tyX8_ok nmX8 rfl (tyX8_ok 5 (by decide)) rfl rfl h (fun m6 _ h => ?_)
  exact r_vret C dX8_copyFrom_62 rfl h
noncomputable def f_X8_apply_L2 (a : Nat) (a1_2 : Nat) (e81_2 : sM → Option (sR Unit)) : Nat → Int32 → sM → Option (sR Unit)
  | 0, _, _ => none
  | n + 1, x2_2, m2_ =>
    if 64 ≤ x2_2 then (e81_2  m2_) else (s_bd (f_X9_isIn (m2_.2 a1_2 2) x2_2 m2_) fun r1 m2 => s_jn (fun (m75_ : sM) => f_X8_apply_L2 a a1_2 e81_2 n (x2_2 + 1) m75_) fun k75 => if r1 = 0 then (s_bd (f_X9_isIn (m2.2 a1_2 1) x2_2 m2) fun r3 m4 => if r3 = 0 then (k75  m4) else (s_bd (f_X9_setOf x2_2 m4) fun r5 m6 => s_md (s_uL m6 a 2 ((m4.2 a 2) ||| r5)) fun m7 => s_ix x2_2 64 fun j8 => s_ix x2_2 64 fun j9 => s_md (s_up m7 (a + 2) j9 (m7.1 (a1_2 + 1) j8)) fun m10 => k75  m10)) else (s_bd (f_X9_setOf x2_2 m2) fun r11 m12 => s_md (s_uL m12 a 2 ((m2.2 a 2) &&& (r11 ^^^ (-1)))) fun m13 => k75  m13))
noncomputable def f_X8_apply (a : Nat) (a1 : Nat) (m : sM) : Option (sR Unit) :=
  s_jn (fun (m81_ : sM) => some (.inl (), m81_)) fun e81_2 => f_X8_apply_L2 a a1 e81_2 5000 0 m
set_option maxRecDepth 20000 in
set_option maxHeartbeats 4000000 in
theorem c_X8_apply (nw : Nat) (hnw : 109 ≤ nw) (a : Nat) (a1 : Nat) (ha : isVer a) (ha1 : isChg a1) : s_Con s_u 0 nw yX8_apply wsX8_apply 14 185 0 (f_X8_apply a a1) (fun ad => [.ref (ad a), .ref (ad a1)]) := by
  refine s_con_of cX8_apply 3 none RX8 (by decide) rfl rfl (fun _ => Nat.le_of_ble_eq_true rfl) (fun ad m res V C h => ?_)
  unfold f_X8_apply at h
  have F_i0 : ∀ w ∈ wsX00, w ∈ wsX8_apply := by decide +kernel
  have F_k44 : Cond.fieldLink RX8 44 "ShadowFile$Changes" "removed" "J" ∈ wsX8_apply := by decide +kernel
  have F_tyX9_isIn : Cond.static yX9_isIn ∈ wsX8_apply := by decide +kernel
  have F_nyX9_isIn : Cond.initialized RX9 ∈ wsX8_apply := by decide +kernel
  have F_k59 : Cond.fieldLink RX8 59 "ShadowFile$Changes" "touched" "J" ∈ wsX8_apply := by decide +kernel
  have F_i8 : ∀ w ∈ wsX80, w ∈ wsX8_apply := by decide +kernel
  have F_k18 : Cond.fieldLink RX8 18 "ShadowFile$Version" "keys" "J" ∈ wsX8_apply := by decide +kernel
  have F_tyX9_setOf : Cond.static yX9_setOf ∈ wsX8_apply := by decide +kernel
  have F_nyX9_setOf : Cond.initialized RX9 ∈ wsX8_apply := by decide +kernel
  have F_k15 : Cond.fieldLink RX8 15 "ShadowFile$Version" "values" "[I" ∈ wsX8_apply := by decide +kernel
  have F_k62 : Cond.fieldLink RX8 62 "ShadowFile$Changes" "values" "[I" ∈ wsX8_apply := by decide +kernel
  have F_w57 : Cond.constantLong RX8 57 (-1) ∈ wsX8_apply := by decide +kernel
  show V 0 0 [(0, .ref (ad a)), (1, .ref (ad a1))] [] m
  refine r_iconst C (v := 0) dX8_apply_0 (by decide) ?_
  refine r_istore_n C dX8_apply_1 rfl (by decide) (show _ = [(2, .int 0), (0, .ref (ad a)), (1, .ref (ad a1))] from rfl) ?_
  refine s_join h (fun e81_2 => ∀ (m81_ : sM), e81_2 m81_ = some res → V 0 81 [] [] m81_) ?_ (fun e81_2 he81_2 h => ?_)
  · intro m81_ h
    exact r_vret C dX8_apply_81 rfl h
  have L2 : ∀ (n : Nat) (x2_2 : Int32) (m2_ : sM), f_X8_apply_L2 a a1 e81_2 n x2_2 m2_ = some res → V 0 2 [(0, .ref (ad a)), (1, .ref (ad a1)), (2, .int x2_2)] [] m2_ := by
    intro n
    induction n with
    | zero => intro x2_2 m2_ h; rw [f_X8_apply_L2] at h; cases h
    | succ n ih =>
      intro x2_2 m2_ h
      rw [f_X8_apply_L2] at h
      refine r_iload_n C dX8_apply_2 rfl 2 rfl ?_
      refine r_bipush C (v := 64) dX8_apply_3 (by decide) ?_
      refine r_icmp_ge C (tgt := 81) dX8_apply_5 (by decide) h (fun _ h => ?_) (fun _ h => ?_)
      · skip
        refine r_sub C [] (show _ = [] from rfl) ?_
        exact he81_2 m2_ h
      · skip
        refine r_aload_n C dX8_apply_8 rfl 1 rfl ?_
        refine r_getl C (ci := 0) (k9 := 2) dX8_apply_9 rfl F_i0 (by decide) F_k44 (by have := isChg_b ha1; omega) (isChg_0 ha1) rfl ?_
        refine r_iload_n C dX8_apply_12 rfl 2 rfl ?_
        refine r_callN C (c_X9_isIn nw hnw (m2_.2 a1 2) x2_2) (host := RX9) (As := [.long (m2_.2 a1 2), .int x2_2]) (nn := 2) (stk := [.int x2_2, .long (m2_.2 a1 2)]) dX8_apply_13 gX8_apply_X9_isIn_n49 (by decide +kernel) F_tyX9_isIn F_nyX9_isIn ⟨by decide, by decide, by decide +kernel⟩ rfl rfl (by decide) rfl rfl (Nat.le_of_ble_eq_true rfl) (by decide) h (fun r1 m2 h => ?_)
        show V 0 16 [(0, .ref (ad a)), (1, .ref (ad a1)), (2, .int x2_2)] [.int r1] m2
        refine s_join h (fun k75 => ∀ (m75_ : sM), k75 m75_ = some res → V 0 75 [(0, .ref (ad a)), (1, .ref (ad a1)), (2, .int x2_2)] [] m75_) ?_ (fun k75 hk75 h => ?_)
        · intro m75_ h
          refine r_iinc C (v := x2_2 + 1) dX8_apply_75 2 rfl rfl (by decide) (show _ = [(2, .int (x2_2 + 1)), (0, .ref (ad a)), (1, .ref (ad a1))] from rfl) ?_
          refine r_goto C (tgt := 2) dX8_apply_78 (by decide) ?_
          refine r_sub C [1, 2, 0] (show _ = [(0, .ref (ad a)), (1, .ref (ad a1)), (2, .int (x2_2 + 1))] from rfl) ?_
          exact ih (x2_2 + 1) m75_ h
        refine r_if_eq C (tgt := 39) dX8_apply_16 (by decide) h (fun _ h => ?_) (fun _ h => ?_)
        · skip
          refine r_aload_n C dX8_apply_39 rfl 1 rfl ?_
          refine r_getl C (ci := 0) (k9 := 1) dX8_apply_40 rfl F_i0 (by decide) F_k59 (by have := isChg_b ha1; omega) (isChg_0 ha1) rfl ?_
          refine r_iload_n C dX8_apply_43 rfl 2 rfl ?_
          refine r_callN C (c_X9_isIn nw hnw (m2.2 a1 1) x2_2) (host := RX9) (As := [.long (m2.2 a1 1), .int x2_2]) (nn := 2) (stk := [.int x2_2, .long (m2.2 a1 1)]) dX8_apply_44 gX8_apply_X9_isIn_n49 (by decide +kernel) F_tyX9_isIn F_nyX9_isIn ⟨by decide, by decide, by decide +kernel⟩ rfl rfl (by decide) rfl rfl (Nat.le_of_ble_eq_true rfl) (by decide) h (fun r3 m4 h => ?_)
          show V 0 47 [(0, .ref (ad a)), (1, .ref (ad a1)), (2, .int x2_2)] [.int r3] m4
          refine r_if_eq C (tgt := 75) dX8_apply_47 (by decide) h (fun _ h => ?_) (fun _ h => ?_)
          · skip
            exact hk75 m4 h
          · skip
            refine r_aload_n C dX8_apply_50 rfl 0 rfl ?_
            refine r_dup C dX8_apply_51 rfl ?_
            refine r_getl C (ci := 8) (k9 := 2) dX8_apply_52 rfl F_i8 (by decide) F_k18 (by have := isVer_b ha; omega) (isVer_0 ha) rfl ?_
            refine r_iload_n C dX8_apply_55 rfl 2 rfl ?_
            refine r_callN C (c_X9_setOf nw hnw x2_2) (host := RX9) (As := [.int x2_2]) (nn := 1) (stk := [.int x2_2, .long (m4.2 a 2), .ref (ad a)]) dX8_apply_56 gX8_apply_X9_setOf_n53 (by decide +kernel) F_tyX9_setOf F_nyX9_setOf ⟨by decide, by decide, by decide +kernel⟩ rfl rfl (by decide) rfl rfl (Nat.le_of_ble_eq_true rfl) (by decide) h (fun r5 m6 h => ?_)
            show V 0 59 [(0, .ref (ad a)), (1, .ref (ad a1)), (2, .int x2_2)] [.long r5, .long (m4.2 a 2), .ref (ad a)] m6
            refine r_lor C dX8_apply_59 ?_
            refine r_putl C (ci := 8) (k9 := 2) dX8_apply_60 rfl F_i8 (by decide) F_k18 (by have := isVer_b ha; omega) (isVer_0 ha) rfl tyX8 tyX8_ok nmX8 rfl (tyX8_ok 2 (by decide)) rfl rfl h (fun m7 _ h => ?_)
            refine r_aload_n C dX8_apply_63 rfl 0 rfl ?_
            refine r_getr C (ci := 8) (k9 := 1) dX8_apply_64 rfl F_i8 (by decide) F_k15 (by have := isVer_b ha; omega) (isVer_0 ha) rfl ?_
            refine r_iload_n C dX8_apply_67 rfl 2 rfl ?_
            refine r_aload_n C dX8_apply_68 rfl 1 rfl ?_
            refine r_getr C (ci := 0) (k9 := 0) dX8_apply_69 rfl F_i0 (by decide) F_k62 (by have := isChg_b ha1; omega) (isChg_0 ha1) rfl ?_
            refine r_iload_n C dX8_apply_72 rfl 2 rfl ?_
            refine r_iald C dX8_apply_73 (by have := isChg_b ha1; omega) (isChg_1 ha1) h (fun j8 hj8 h => ?_)
            refine r_iast C dX8_apply_74 (by have := isVer_b ha; omega) (isVer_2 ha) h (fun j9 m10 hj9 _ h => ?_)
            exact hk75 m10 h
        · skip
          refine r_aload_n C dX8_apply_19 rfl 0 rfl ?_
          refine r_dup C dX8_apply_20 rfl ?_
          refine r_getl C (ci := 8) (k9 := 2) dX8_apply_21 rfl F_i8 (by decide) F_k18 (by have := isVer_b ha; omega) (isVer_0 ha) rfl ?_
          refine r_iload_n C dX8_apply_24 rfl 2 rfl ?_
          refine r_callN C (c_X9_setOf nw hnw x2_2) (host := RX9) (As := [.int x2_2]) (nn := 1) (stk := [.int x2_2, .long (m2.2 a 2), .ref (ad a)]) dX8_apply_25 gX8_apply_X9_setOf_n53 (by decide +kernel) F_tyX9_setOf F_nyX9_setOf ⟨by decide, by decide, by decide +kernel⟩ rfl rfl (by decide) rfl rfl (Nat.le_of_ble_eq_true rfl) (by decide) h (fun r11 m12 h => ?_)
          show V 0 28 [(0, .ref (ad a)), (1, .ref (ad a1)), (2, .int x2_2)] [.long r11, .long (m2.2 a 2), .ref (ad a)] m12
          refine r_ldc2 C dX8_apply_28 F_w57 ?_
          refine r_lxor C dX8_apply_31 ?_
          refine r_land C dX8_apply_32 ?_
          refine r_putl C (ci := 8) (k9 := 2) dX8_apply_33 rfl F_i8 (by decide) F_k18 (by have := isVer_b ha; omega) (isVer_0 ha) rfl tyX8 tyX8_ok nmX8 rfl (tyX8_ok 2 (by decide)) rfl rfl h (fun m13 _ h => ?_)
          refine r_goto C (tgt := 75) dX8_apply_36 (by decide) ?_
          exact hk75 m13 h
  refine r_sub C [1, 2, 0] (show _ = [(0, .ref (ad a)), (1, .ref (ad a1)), (2, .int 0)] from rfl) ?_
  exact L2 5000 0 m h
noncomputable def f_X9_prepareNext_L9 (e44_9 : sM → Option (sR Unit)) : Nat → Int32 → sM → Option (sR Unit)
  | 0, _, _ => none
  | n + 1, x1_9, m9_ =>
    if (m9_.1 0 7) ≤ x1_9 then (e44_9  m9_) else (s_ix x1_9 3 fun j9 => s_ix (m9_.1 84 j9) 3 fun j10 => s_bd (f_X0_add 50 ((54 + 10 * j10) + 1) m9_) fun r11 m12 => f_X9_prepareNext_L9 e44_9 n (x1_9 + 1) m12)
noncomputable def f_X9_prepareNext (m : sM) : Option (sR Unit) :=
  s_bd (f_X0_clear 50 m) fun r1 m2 => s_jn (fun (m44_ : sM) => s_bd (f_X8_copyFrom 39 36 m44_) fun r3 m4 => s_bd (f_X8_apply 39 50 m4) fun r5 m6 => s_md (s_up m6 39 3 ((m6.1 36 3) + 1)) fun m7 => s_md (s_up m7 39 4 ((m7.1 39 3) - (m7.1 39 3) / 2 * 2)) fun m8 => some (.inl (), m8)) fun e44_9 => f_X9_prepareNext_L9 e44_9 5000 0 m2
set_option maxRecDepth 20000 in
set_option maxHeartbeats 4000000 in
theorem c_X9_prepareNext (nw : Nat) (hnw : 109 ≤ nw) : s_Con s_u 0 nw yX9_prepareNext wsX9_prepareNext 18 275 0 (f_X9_prepareNext) (fun ad => [.ref (ad 0)]) := by
  refine s_con_of cX9_prepareNext 2 none RX9 (by decide) rfl rfl (fun _ => Nat.le_of_ble_eq_true rfl) (fun ad m res V C h => ?_)
  unfold f_X9_prepareNext at h
  have F_i9 : ∀ w ∈ wsX90, w ∈ wsX9_prepareNext := by decide +kernel
  have F_k29 : Cond.fieldLink RX9 29 "ShadowFile" "combined" "LShadowFile$Changes;" ∈ wsX9_prepareNext := by decide +kernel
  have F_k23 : Cond.fieldLink RX9 23 "ShadowFile" "next" "LShadowFile$Version;" ∈ wsX9_prepareNext := by decide +kernel
  have F_k19 : Cond.fieldLink RX9 19 "ShadowFile" "present" "LShadowFile$Version;" ∈ wsX9_prepareNext := by decide +kernel
  have F_i8 : ∀ w ∈ wsX80, w ∈ wsX9_prepareNext := by decide +kernel
  have F_k101 : Cond.fieldLink RX9 101 "ShadowFile$Version" "number" "I" ∈ wsX9_prepareNext := by decide +kernel
  have F_k388 : Cond.fieldLink RX9 388 "ShadowFile$Version" "root" "I" ∈ wsX9_prepareNext := by decide +kernel
  have F_k50 : Cond.fieldLink RX9 50 "ShadowFile" "readyCount" "I" ∈ wsX9_prepareNext := by decide +kernel
  have F_k42 : Cond.fieldLink RX9 42 "ShadowFile" "slots" "[LShadowFile$Slot;" ∈ wsX9_prepareNext := by decide +kernel
  have F_k46 : Cond.fieldLink RX9 46 "ShadowFile" "readyOrder" "[I" ∈ wsX9_prepareNext := by decide +kernel
  have F_i7 : ∀ w ∈ wsX70, w ∈ wsX9_prepareNext := by decide +kernel
  have F_k142 : Cond.fieldLink RX9 142 "ShadowFile$Slot" "changes" "LShadowFile$Changes;" ∈ wsX9_prepareNext := by decide +kernel
  show V 0 0 [(0, .ref (ad 0))] [] m
  refine r_aload_n C dX9_prepareNext_0 rfl 0 rfl ?_
  refine r_getr C (ci := 9) (k9 := 3) dX9_prepareNext_1 rfl F_i9 (by decide) F_k29 (by omega) la_0 rfl ?_
  refine r_callV C (c_X0_clear nw hnw 50 (by unfold isChg; omega)) (As := []) (nn := 0) (stk := [.ref (ad 50)]) (ci := 0) dX9_prepareNext_4 gX9_prepareNext_X0_clear ⟨rfl, by decide, by decide, by decide +kernel⟩ (by omega) la_50 rfl rfl rfl (by decide) rfl rfl (Nat.le_of_ble_eq_true rfl) (by decide) h (fun r1 m2 h => ?_)
  show V 0 7 [(0, .ref (ad 0))] [] m2
  refine r_iconst C (v := 0) dX9_prepareNext_7 (by decide) ?_
  refine r_istore_n C dX9_prepareNext_8 rfl (by decide) (show _ = [(1, .int 0), (0, .ref (ad 0))] from rfl) ?_
  refine s_join h (fun e44_9 => ∀ (m44_ : sM), e44_9 m44_ = some res → V 0 44 [(0, .ref (ad 0))] [] m44_) ?_ (fun e44_9 he44_9 h => ?_)
  · intro m44_ h
    refine r_aload_n C dX9_prepareNext_44 rfl 0 rfl ?_
    refine r_getr C (ci := 9) (k9 := 2) dX9_prepareNext_45 rfl F_i9 (by decide) F_k23 (by omega) la_0 rfl ?_
    refine r_aload_n C dX9_prepareNext_48 rfl 0 rfl ?_
    refine r_getr C (ci := 9) (k9 := 1) dX9_prepareNext_49 rfl F_i9 (by decide) F_k19 (by omega) la_0 rfl ?_
    refine r_callV C (c_X8_copyFrom nw hnw 39 36 (by unfold isVer; omega) (by unfold isVer; omega)) (As := [.ref (ad 36)]) (nn := 1) (stk := [.ref (ad 36), .ref (ad 39)]) (ci := 8) dX9_prepareNext_52 gX9_prepareNext_X8_copyFrom ⟨rfl, by decide, by decide, by decide +kernel⟩ (by omega) la_39 rfl rfl rfl (by decide) rfl rfl (Nat.le_of_ble_eq_true rfl) (by decide) h (fun r3 m4 h => ?_)
    show V 0 55 [(0, .ref (ad 0))] [] m4
    refine r_aload_n C dX9_prepareNext_55 rfl 0 rfl ?_
    refine r_getr C (ci := 9) (k9 := 2) dX9_prepareNext_56 rfl F_i9 (by decide) F_k23 (by omega) la_0 rfl ?_
    refine r_aload_n C dX9_prepareNext_59 rfl 0 rfl ?_
    refine r_getr C (ci := 9) (k9 := 3) dX9_prepareNext_60 rfl F_i9 (by decide) F_k29 (by omega) la_0 rfl ?_
    refine r_callV C (c_X8_apply nw hnw 39 50 (by unfold isVer; omega) (by unfold isChg; omega)) (As := [.ref (ad 50)]) (nn := 1) (stk := [.ref (ad 50), .ref (ad 39)]) (ci := 8) dX9_prepareNext_63 gX9_prepareNext_X8_apply ⟨rfl, by decide, by decide, by decide +kernel⟩ (by omega) la_39 rfl rfl rfl (by decide) rfl rfl (Nat.le_of_ble_eq_true rfl) (by decide) h (fun r5 m6 h => ?_)
    show V 0 66 [(0, .ref (ad 0))] [] m6
    refine r_aload_n C dX9_prepareNext_66 rfl 0 rfl ?_
    refine r_getr C (ci := 9) (k9 := 2) dX9_prepareNext_67 rfl F_i9 (by decide) F_k23 (by omega) la_0 rfl ?_
    refine r_aload_n C dX9_prepareNext_70 rfl 0 rfl ?_
    refine r_getr C (ci := 9) (k9 := 1) dX9_prepareNext_71 rfl F_i9 (by decide) F_k19 (by omega) la_0 rfl ?_
    refine r_geti C (ci := 8) (k9 := 3) dX9_prepareNext_74 rfl F_i8 (by decide) F_k101 (by omega) la_36 rfl ?_
    refine r_iconst C (v := 1) dX9_prepareNext_77 (by decide) ?_
    refine r_iadd C dX9_prepareNext_78 ?_
    refine r_puti C (ci := 8) (k9 := 3) dX9_prepareNext_79 rfl F_i8 (by decide) F_k101 (by omega) la_39 rfl tyX8 tyX8_ok nmX8 rfl (tyX8_ok 3 (by decide)) rfl rfl h (fun m7 _ h => ?_)
    refine r_aload_n C dX9_prepareNext_82 rfl 0 rfl ?_
    refine r_getr C (ci := 9) (k9 := 2) dX9_prepareNext_83 rfl F_i9 (by decide) F_k23 (by omega) la_0 rfl ?_
    refine r_aload_n C dX9_prepareNext_86 rfl 0 rfl ?_
    refine r_getr C (ci := 9) (k9 := 2) dX9_prepareNext_87 rfl F_i9 (by decide) F_k23 (by omega) la_0 rfl ?_
    refine r_geti C (ci := 8) (k9 := 3) dX9_prepareNext_90 rfl F_i8 (by decide) F_k101 (by omega) la_39 rfl ?_
    refine r_iconst C (v := 2) dX9_prepareNext_93 (by decide) ?_
    refine r_irem C dX9_prepareNext_94 (by decide) ?_
    refine r_puti C (ci := 8) (k9 := 4) dX9_prepareNext_95 rfl F_i8 (by decide) F_k388 (by omega) la_39 rfl tyX8 tyX8_ok nmX8 rfl (tyX8_ok 4 (by decide)) rfl rfl h (fun m8 _ h => ?_)
    exact r_vret C dX9_prepareNext_98 rfl h
  have L9 : ∀ (n : Nat) (x1_9 : Int32) (m9_ : sM), f_X9_prepareNext_L9 e44_9 n x1_9 m9_ = some res → V 0 9 [(0, .ref (ad 0)), (1, .int x1_9)] [] m9_ := by
    intro n
    induction n with
    | zero => intro x1_9 m9_ h; rw [f_X9_prepareNext_L9] at h; cases h
    | succ n ih =>
      intro x1_9 m9_ h
      rw [f_X9_prepareNext_L9] at h
      refine r_iload_n C dX9_prepareNext_9 rfl 1 rfl ?_
      refine r_aload_n C dX9_prepareNext_10 rfl 0 rfl ?_
      refine r_geti C (ci := 9) (k9 := 7) dX9_prepareNext_11 rfl F_i9 (by decide) F_k50 (by omega) la_0 rfl ?_
      refine r_icmp_ge C (tgt := 44) dX9_prepareNext_14 (by decide) h (fun _ h => ?_) (fun _ h => ?_)
      · skip
        refine r_sub C [0] (show _ = [(0, .ref (ad 0))] from rfl) ?_
        exact he44_9 m9_ h
      · skip
        refine r_aload_n C dX9_prepareNext_17 rfl 0 rfl ?_
        refine r_getr C (ci := 9) (k9 := 3) dX9_prepareNext_18 rfl F_i9 (by decide) F_k29 (by omega) la_0 rfl ?_
        refine r_aload_n C dX9_prepareNext_21 rfl 0 rfl ?_
        refine r_getr C (ci := 9) (k9 := 5) dX9_prepareNext_22 rfl F_i9 (by decide) F_k42 (by omega) la_0 rfl ?_
        refine r_aload_n C dX9_prepareNext_25 rfl 0 rfl ?_
        refine r_getr C (ci := 9) (k9 := 6) dX9_prepareNext_26 rfl F_i9 (by decide) F_k46 (by omega) la_0 rfl ?_
        refine r_iload_n C dX9_prepareNext_29 rfl 1 rfl ?_
        refine r_iald C dX9_prepareNext_30 (by omega) la_84 h (fun j9 hj9 h => ?_)
        refine r_aald C (b0 := 54) (d0 := 10) dX9_prepareNext_31 (by omega) la_53 (fun _ => rfl) rfl h (fun j10 hj10 h => ?_)
        refine r_getr C (ci := 7) (k9 := 0) dX9_prepareNext_32 rfl F_i7 (by decide) F_k142 (by have := isSlt_b (isSlt_s hj10); omega) (isSlt_0 (isSlt_s hj10)) rfl ?_
        refine r_callV C (c_X0_add nw hnw 50 ((54 + 10 * j10) + 1) (by unfold isChg; omega) (isSlt_c (isSlt_s hj10))) (As := [.ref (ad ((54 + 10 * j10) + 1))]) (nn := 1) (stk := [.ref (ad ((54 + 10 * j10) + 1)), .ref (ad 50)]) (ci := 0) dX9_prepareNext_35 gX9_prepareNext_X0_add ⟨rfl, by decide, by decide, by decide +kernel⟩ (by omega) la_50 rfl rfl rfl (by decide) rfl rfl (Nat.le_of_ble_eq_true rfl) (by decide) h (fun r11 m12 h => ?_)
        show V 0 38 [(0, .ref (ad 0)), (1, .int x1_9)] [] m12
        refine r_iinc C (v := x1_9 + 1) dX9_prepareNext_38 1 rfl rfl (by decide) (show _ = [(1, .int (x1_9 + 1)), (0, .ref (ad 0))] from rfl) ?_
        refine r_goto C (tgt := 9) dX9_prepareNext_41 (by decide) ?_
        refine r_sub C [1, 0] (show _ = [(0, .ref (ad 0)), (1, .int (x1_9 + 1))] from rfl) ?_
        exact ih (x1_9 + 1) m12 h
  refine r_sub C [1, 0] (show _ = [(0, .ref (ad 0)), (1, .int 0)] from rfl) ?_
  exact L9 5000 0 m2 h
noncomputable def f_X8_keyOf (p0 : Int32) (p1 : Int32) (m : sM) : Option (sR Int32) :=
  some (.inl (p0 + (8 * p1)), m)
set_option maxRecDepth 20000 in
set_option maxHeartbeats 4000000 in
theorem c_X8_keyOf (nw : Nat) (hnw : 109 ≤ nw) (p0 : Int32) (p1 : Int32) : s_Con s_i 0 nw yX8_keyOf wsX8_keyOf 12 140 0 (f_X8_keyOf p0 p1) (fun ad => [.int p0, .int p1]) := by
  refine s_con_of cX8_keyOf 2 (some .int) RX8 (by decide) rfl rfl (fun _ => Nat.le_of_ble_eq_true rfl) (fun ad m res V C h => ?_)
  unfold f_X8_keyOf at h
  show V 0 0 [(0, .int p0), (1, .int p1)] [] m
  refine r_iload_n C dX8_keyOf_0 rfl 0 rfl ?_
  refine r_bipush C (v := 8) dX8_keyOf_1 (by decide) ?_
  refine r_iload_n C dX8_keyOf_3 rfl 1 rfl ?_
  refine r_imul C dX8_keyOf_4 ?_
  refine r_iadd C dX8_keyOf_5 ?_
  exact r_iret C dX8_keyOf_6 rfl h
noncomputable def f_X0_touchesPage_L2 (a : Nat) (y1_2 : Int32) (e31_2 : sM → Option (sR Int32)) (e23_2 : sM → Option (sR Int32)) : Nat → Int32 → sM → Option (sR Int32)
  | 0, _, _ => none
  | n + 1, x2_2, m2_ =>
    if 8 ≤ x2_2 then (e31_2  m2_) else (s_bd (f_X8_keyOf y1_2 x2_2 m2_) fun r1 m2 => s_bd (f_X9_isIn (m2_.2 a 1) r1 m2) fun r3 m4 => if r3 = 0 then (f_X0_touchesPage_L2 a y1_2 e31_2 e23_2 n (x2_2 + 1) m4) else (e23_2  m4))
noncomputable def f_X0_touchesPage (a : Nat) (p1 : Int32) (m : sM) : Option (sR Int32) :=
  s_jn (fun (m31_ : sM) => some (.inl 0, m31_)) fun e31_2 => s_jn (fun (m23_ : sM) => some (.inl 1, m23_)) fun e23_2 => f_X0_touchesPage_L2 a p1 e31_2 e23_2 5000 0 m
set_option maxRecDepth 20000 in
set_option maxHeartbeats 4000000 in
theorem c_X0_touchesPage (nw : Nat) (hnw : 109 ≤ nw) (a : Nat) (p1 : Int32) (ha : isChg a) : s_Con s_i 0 nw yX0_touchesPage wsX0_touchesPage 14 185 0 (f_X0_touchesPage a p1) (fun ad => [.ref (ad a), .int p1]) := by
  refine s_con_of cX0_touchesPage 3 (some .boolean) RX0 (by decide) rfl rfl (fun _ => Nat.le_of_ble_eq_true rfl) (fun ad m res V C h => ?_)
  unfold f_X0_touchesPage at h
  have F_i0 : ∀ w ∈ wsX00, w ∈ wsX0_touchesPage := by decide +kernel
  have F_k15 : Cond.fieldLink RX0 15 "ShadowFile$Changes" "touched" "J" ∈ wsX0_touchesPage := by decide +kernel
  have F_tyX9_isIn : Cond.static yX9_isIn ∈ wsX0_touchesPage := by decide +kernel
  have F_nyX9_isIn : Cond.initialized RX9 ∈ wsX0_touchesPage := by decide +kernel
  show V 0 0 [(0, .ref (ad a)), (1, .int p1)] [] m
  refine r_iconst C (v := 0) dX0_touchesPage_0 (by decide) ?_
  refine r_istore_n C dX0_touchesPage_1 rfl (by decide) (show _ = [(2, .int 0), (0, .ref (ad a)), (1, .int p1)] from rfl) ?_
  refine s_join h (fun e31_2 => ∀ (m31_ : sM), e31_2 m31_ = some res → V 0 31 [] [] m31_) ?_ (fun e31_2 he31_2 h => ?_)
  · intro m31_ h
    refine r_iconst C (v := 0) dX0_touchesPage_31 (by decide) ?_
    exact r_zret C dX0_touchesPage_32 rfl (by decide) h
  refine s_join h (fun e23_2 => ∀ (m23_ : sM), e23_2 m23_ = some res → V 0 23 [] [] m23_) ?_ (fun e23_2 he23_2 h => ?_)
  · intro m23_ h
    refine r_iconst C (v := 1) dX0_touchesPage_23 (by decide) ?_
    exact r_zret C dX0_touchesPage_24 rfl (by decide) h
  have L2 : ∀ (n : Nat) (x2_2 : Int32) (m2_ : sM), f_X0_touchesPage_L2 a p1 e31_2 e23_2 n x2_2 m2_ = some res → V 0 2 [(0, .ref (ad a)), (1, .int p1), (2, .int x2_2)] [] m2_ := by
    intro n
    induction n with
    | zero => intro x2_2 m2_ h; rw [f_X0_touchesPage_L2] at h; cases h
    | succ n ih =>
      intro x2_2 m2_ h
      rw [f_X0_touchesPage_L2] at h
      refine r_iload_n C dX0_touchesPage_2 rfl 2 rfl ?_
      refine r_bipush C (v := 8) dX0_touchesPage_3 (by decide) ?_
      refine r_icmp_ge C (tgt := 31) dX0_touchesPage_5 (by decide) h (fun _ h => ?_) (fun _ h => ?_)
      · skip
        refine r_sub C [] (show _ = [] from rfl) ?_
        exact he31_2 m2_ h
      · skip
        refine r_aload_n C dX0_touchesPage_8 rfl 0 rfl ?_
        refine r_getl C (ci := 0) (k9 := 1) dX0_touchesPage_9 rfl F_i0 (by decide) F_k15 (by have := isChg_b ha; omega) (isChg_0 ha) rfl ?_
        refine r_iload_n C dX0_touchesPage_12 rfl 1 rfl ?_
        refine r_iload_n C dX0_touchesPage_13 rfl 2 rfl ?_
        refine r_callS C (c_X8_keyOf nw hnw p1 x2_2) (As := [.int p1, .int x2_2]) (nn := 2) (stk := [.int x2_2, .int p1, .long (m2_.2 a 1)]) dX0_touchesPage_14 gX0_touchesPage_X8_keyOf ⟨by decide, by decide, by decide +kernel⟩ rfl rfl (by decide) rfl rfl (Nat.le_of_ble_eq_true rfl) (by decide) h (fun r1 m2 h => ?_)
        show V 0 17 [(0, .ref (ad a)), (1, .int p1), (2, .int x2_2)] [.int r1, .long (m2_.2 a 1)] m2
        refine r_callN C (c_X9_isIn nw hnw (m2_.2 a 1) r1) (host := RX9) (As := [.long (m2_.2 a 1), .int r1]) (nn := 2) (stk := [.int r1, .long (m2_.2 a 1)]) dX0_touchesPage_17 gX0_touchesPage_X9_isIn_n34 (by decide +kernel) F_tyX9_isIn F_nyX9_isIn ⟨by decide, by decide, by decide +kernel⟩ rfl rfl (by decide) rfl rfl (Nat.le_of_ble_eq_true rfl) (by decide) h (fun r3 m4 h => ?_)
        show V 0 20 [(0, .ref (ad a)), (1, .int p1), (2, .int x2_2)] [.int r3] m4
        refine r_if_eq C (tgt := 25) dX0_touchesPage_20 (by decide) h (fun _ h => ?_) (fun _ h => ?_)
        · skip
          refine r_iinc C (v := x2_2 + 1) dX0_touchesPage_25 2 rfl rfl (by decide) (show _ = [(2, .int (x2_2 + 1)), (0, .ref (ad a)), (1, .int p1)] from rfl) ?_
          refine r_goto C (tgt := 2) dX0_touchesPage_28 (by decide) ?_
          refine r_sub C [1, 2, 0] (show _ = [(0, .ref (ad a)), (1, .int p1), (2, .int (x2_2 + 1))] from rfl) ?_
          exact ih (x2_2 + 1) m4 h
        · skip
          refine r_sub C [] (show _ = [] from rfl) ?_
          exact he23_2 m4 h
  refine r_sub C [1, 2, 0] (show _ = [(0, .ref (ad a)), (1, .int p1), (2, .int 0)] from rfl) ?_
  exact L2 5000 0 m h
noncomputable def f_X8_bitsOf_L4 (a : Nat) (y1_4 : Int32) (e37_4 : Int32 → sM → Option (sR Int32)) : Nat → Int32 → Int32 → sM → Option (sR Int32)
  | 0, _, _, _ => none
  | n + 1, x2_4, x3_4, m4_ =>
    if 8 ≤ x3_4 then (e37_4 x2_4 m4_) else (s_bd (f_X8_keyOf y1_4 x3_4 m4_) fun r1 m2 => s_bd (f_X9_isIn (m4_.2 a 2) r1 m2) fun r3 m4 => s_jn (fun (x2_31 : Int32) => f_X8_bitsOf_L4 a y1_4 e37_4 n x2_31 (x3_4 + 1) m4) fun k31 => if r3 = 0 then (k31 x2_4) else (k31 (x2_4 ||| (1 <<< (x3_4 &&& 31)))))
noncomputable def f_X8_bitsOf (a : Nat) (p1 : Int32) (m : sM) : Option (sR Int32) :=
  s_jn (fun (x2_37 : Int32) (m37_ : sM) => some (.inl x2_37, m37_)) fun e37_4 => f_X8_bitsOf_L4 a p1 e37_4 5000 0 0 m
set_option maxRecDepth 20000 in
set_option maxHeartbeats 4000000 in
theorem c_X8_bitsOf (nw : Nat) (hnw : 109 ≤ nw) (a : Nat) (p1 : Int32) (ha : isVer a) : s_Con s_i 0 nw yX8_bitsOf wsX8_bitsOf 14 185 0 (f_X8_bitsOf a p1) (fun ad => [.ref (ad a), .int p1]) := by
  refine s_con_of cX8_bitsOf 4 (some .int) RX8 (by decide) rfl rfl (fun _ => Nat.le_of_ble_eq_true rfl) (fun ad m res V C h => ?_)
  unfold f_X8_bitsOf at h
  have F_i8 : ∀ w ∈ wsX80, w ∈ wsX8_bitsOf := by decide +kernel
  have F_k18 : Cond.fieldLink RX8 18 "ShadowFile$Version" "keys" "J" ∈ wsX8_bitsOf := by decide +kernel
  have F_tyX9_isIn : Cond.static yX9_isIn ∈ wsX8_bitsOf := by decide +kernel
  have F_nyX9_isIn : Cond.initialized RX9 ∈ wsX8_bitsOf := by decide +kernel
  show V 0 0 [(0, .ref (ad a)), (1, .int p1)] [] m
  refine r_iconst C (v := 0) dX8_bitsOf_0 (by decide) ?_
  refine r_istore_n C dX8_bitsOf_1 rfl (by decide) (show _ = [(2, .int 0), (0, .ref (ad a)), (1, .int p1)] from rfl) ?_
  refine r_iconst C (v := 0) dX8_bitsOf_2 (by decide) ?_
  refine r_istore_n C dX8_bitsOf_3 rfl (by decide) (show _ = [(3, .int 0), (2, .int 0), (0, .ref (ad a)), (1, .int p1)] from rfl) ?_
  refine s_join h (fun e37_4 => ∀ (x2_37 : Int32) (m37_ : sM), e37_4 x2_37 m37_ = some res → V 0 37 [(2, .int x2_37)] [] m37_) ?_ (fun e37_4 he37_4 h => ?_)
  · intro x2_37 m37_ h
    refine r_iload_n C dX8_bitsOf_37 rfl 0 rfl ?_
    exact r_iret C dX8_bitsOf_38 rfl h
  have L4 : ∀ (n : Nat) (x2_4 : Int32) (x3_4 : Int32) (m4_ : sM), f_X8_bitsOf_L4 a p1 e37_4 n x2_4 x3_4 m4_ = some res → V 0 4 [(0, .ref (ad a)), (1, .int p1), (2, .int x2_4), (3, .int x3_4)] [] m4_ := by
    intro n
    induction n with
    | zero => intro x2_4 x3_4 m4_ h; rw [f_X8_bitsOf_L4] at h; cases h
    | succ n ih =>
      intro x2_4 x3_4 m4_ h
      rw [f_X8_bitsOf_L4] at h
      refine r_iload_n C dX8_bitsOf_4 rfl 3 rfl ?_
      refine r_bipush C (v := 8) dX8_bitsOf_5 (by decide) ?_
      refine r_icmp_ge C (tgt := 37) dX8_bitsOf_7 (by decide) h (fun _ h => ?_) (fun _ h => ?_)
      · skip
        refine r_sub C [2] (show _ = [(2, .int x2_4)] from rfl) ?_
        exact he37_4 x2_4 m4_ h
      · skip
        refine r_aload_n C dX8_bitsOf_10 rfl 0 rfl ?_
        refine r_getl C (ci := 8) (k9 := 2) dX8_bitsOf_11 rfl F_i8 (by decide) F_k18 (by have := isVer_b ha; omega) (isVer_0 ha) rfl ?_
        refine r_iload_n C dX8_bitsOf_14 rfl 1 rfl ?_
        refine r_iload_n C dX8_bitsOf_15 rfl 3 rfl ?_
        refine r_callS C (c_X8_keyOf nw hnw p1 x3_4) (As := [.int p1, .int x3_4]) (nn := 2) (stk := [.int x3_4, .int p1, .long (m4_.2 a 2)]) dX8_bitsOf_16 gX8_bitsOf_X8_keyOf ⟨by decide, by decide, by decide +kernel⟩ rfl rfl (by decide) rfl rfl (Nat.le_of_ble_eq_true rfl) (by decide) h (fun r1 m2 h => ?_)
        show V 0 19 [(0, .ref (ad a)), (1, .int p1), (2, .int x2_4), (3, .int x3_4)] [.int r1, .long (m4_.2 a 2)] m2
        refine r_callN C (c_X9_isIn nw hnw (m4_.2 a 2) r1) (host := RX9) (As := [.long (m4_.2 a 2), .int r1]) (nn := 2) (stk := [.int r1, .long (m4_.2 a 2)]) dX8_bitsOf_19 gX8_bitsOf_X9_isIn_n49 (by decide +kernel) F_tyX9_isIn F_nyX9_isIn ⟨by decide, by decide, by decide +kernel⟩ rfl rfl (by decide) rfl rfl (Nat.le_of_ble_eq_true rfl) (by decide) h (fun r3 m4 h => ?_)
        show V 0 22 [(0, .ref (ad a)), (1, .int p1), (2, .int x2_4), (3, .int x3_4)] [.int r3] m4
        refine s_join h (fun k31 => ∀ (x2_31 : Int32), k31 x2_31 = some res → V 0 31 [(0, .ref (ad a)), (1, .int p1), (2, .int x2_31), (3, .int x3_4)] [] m4) ?_ (fun k31 hk31 h => ?_)
        · intro x2_31 h
          refine r_iinc C (v := x3_4 + 1) dX8_bitsOf_31 3 rfl rfl (by decide) (show _ = [(3, .int (x3_4 + 1)), (0, .ref (ad a)), (1, .int p1), (2, .int x2_31)] from rfl) ?_
          refine r_goto C (tgt := 4) dX8_bitsOf_34 (by decide) ?_
          refine r_sub C [1, 2, 3, 0] (show _ = [(0, .ref (ad a)), (1, .int p1), (2, .int x2_31), (3, .int (x3_4 + 1))] from rfl) ?_
          exact ih x2_31 (x3_4 + 1) m4 h
        refine r_if_eq C (tgt := 31) dX8_bitsOf_22 (by decide) h (fun _ h => ?_) (fun _ h => ?_)
        · skip
          exact hk31 x2_4 h
        · skip
          refine r_iload_n C dX8_bitsOf_25 rfl 2 rfl ?_
          refine r_iconst C (v := 1) dX8_bitsOf_26 (by decide) ?_
          refine r_iload_n C dX8_bitsOf_27 rfl 3 rfl ?_
          refine r_ishl C dX8_bitsOf_28 ?_
          refine r_ior C dX8_bitsOf_29 ?_
          refine r_istore_n C dX8_bitsOf_30 rfl (by decide) (show _ = [(2, .int (x2_4 ||| (1 <<< (x3_4 &&& 31)))), (0, .ref (ad a)), (1, .int p1), (3, .int x3_4)] from rfl) ?_
          refine r_sub C [1, 2, 0, 3] (show _ = [(0, .ref (ad a)), (1, .int p1), (2, .int (x2_4 ||| (1 <<< (x3_4 &&& 31)))), (3, .int x3_4)] from rfl) ?_
          exact hk31 (x2_4 ||| (1 <<< (x3_4 &&& 31))) h
  refine r_sub C [2, 3, 1, 0] (show _ = [(0, .ref (ad a)), (1, .int p1), (2, .int 0), (3, .int 0)] from rfl) ?_
  exact L4 5000 0 0 m h
noncomputable def f_X9_isPageToWrite (p1 : Int32) (m : sM) : Option (sR Int32) :=
  s_bd (f_X0_touchesPage 50 p1 m) fun r1 m2 => s_jn (fun (s0_27 : Int32) (m27_ : sM) => s_gd (s0_27 = 0 ∨ s0_27 = 1) (some (.inl s0_27, m27_))) fun k27 => s_jn (fun (m26_ : sM) => k27 0 m26_) fun k26 => if r1 = 0 then (k26  m2) else (s_bd (f_X8_bitsOf 39 p1 m2) fun r3 m4 => if r3 = 0 then (k26  m4) else (k27 1 m4))
set_option maxRecDepth 20000 in
set_option maxHeartbeats 4000000 in
theorem c_X9_isPageToWrite (nw : Nat) (hnw : 109 ≤ nw) (p1 : Int32) : s_Con s_i 0 nw yX9_isPageToWrite wsX9_isPageToWrite 16 230 0 (f_X9_isPageToWrite p1) (fun ad => [.ref (ad 0), .int p1]) := by
  refine s_con_of cX9_isPageToWrite 2 (some .boolean) RX9 (by decide) rfl rfl (fun _ => Nat.le_of_ble_eq_true rfl) (fun ad m res V C h => ?_)
  unfold f_X9_isPageToWrite at h
  have F_i9 : ∀ w ∈ wsX90, w ∈ wsX9_isPageToWrite := by decide +kernel
  have F_k29 : Cond.fieldLink RX9 29 "ShadowFile" "combined" "LShadowFile$Changes;" ∈ wsX9_isPageToWrite := by decide +kernel
  have F_k23 : Cond.fieldLink RX9 23 "ShadowFile" "next" "LShadowFile$Version;" ∈ wsX9_isPageToWrite := by decide +kernel
  show V 0 0 [(0, .ref (ad 0)), (1, .int p1)] [] m
  refine r_aload_n C dX9_isPageToWrite_0 rfl 0 rfl ?_
  refine r_getr C (ci := 9) (k9 := 3) dX9_isPageToWrite_1 rfl F_i9 (by decide) F_k29 (by omega) la_0 rfl ?_
  refine r_iload_n C dX9_isPageToWrite_4 rfl 1 rfl ?_
  refine r_callV C (c_X0_touchesPage nw hnw 50 p1 (by unfold isChg; omega)) (As := [.int p1]) (nn := 1) (stk := [.int p1, .ref (ad 50)]) (ci := 0) dX9_isPageToWrite_5 gX9_isPageToWrite_X0_touchesPage ⟨rfl, by decide, by decide, by decide +kernel⟩ (by omega) la_50 rfl rfl rfl (by decide) rfl rfl (Nat.le_of_ble_eq_true rfl) (by decide) h (fun r1 m2 h => ?_)
  show V 0 8 [(0, .ref (ad 0)), (1, .int p1)] [.int r1] m2
  refine s_join h (fun k27 => ∀ (s0_27 : Int32) (m27_ : sM), k27 s0_27 m27_ = some res → V 0 27 [] [.int s0_27] m27_) ?_ (fun k27 hk27 h => ?_)
  · intro s0_27 m27_ h
    obtain ⟨hg, h⟩ := s_gd_of h
    exact r_zret C dX9_isPageToWrite_27 rfl (s_z hg) h
  refine s_join h (fun k26 => ∀ (m26_ : sM), k26 m26_ = some res → V 0 26 [] [] m26_) ?_ (fun k26 hk26 h => ?_)
  · intro m26_ h
    refine r_iconst C (v := 0) dX9_isPageToWrite_26 (by decide) ?_
    exact hk27 0 m26_ h
  refine r_if_eq C (tgt := 26) dX9_isPageToWrite_8 (by decide) h (fun _ h => ?_) (fun _ h => ?_)
  · skip
    refine r_sub C [] (show _ = [] from rfl) ?_
    exact hk26 m2 h
  · skip
    refine r_aload_n C dX9_isPageToWrite_11 rfl 0 rfl ?_
    refine r_getr C (ci := 9) (k9 := 2) dX9_isPageToWrite_12 rfl F_i9 (by decide) F_k23 (by omega) la_0 rfl ?_
    refine r_iload_n C dX9_isPageToWrite_15 rfl 1 rfl ?_
    refine r_callV C (c_X8_bitsOf nw hnw 39 p1 (by unfold isVer; omega)) (As := [.int p1]) (nn := 1) (stk := [.int p1, .ref (ad 39)]) (ci := 8) dX9_isPageToWrite_16 gX9_isPageToWrite_X8_bitsOf ⟨rfl, by decide, by decide, by decide +kernel⟩ (by omega) la_39 rfl rfl rfl (by decide) rfl rfl (Nat.le_of_ble_eq_true rfl) (by decide) h (fun r3 m4 h => ?_)
    show V 0 19 [(0, .ref (ad 0)), (1, .int p1)] [.int r3] m4
    refine r_if_eq C (tgt := 26) dX9_isPageToWrite_19 (by decide) h (fun _ h => ?_) (fun _ h => ?_)
    · skip
      refine r_sub C [] (show _ = [] from rfl) ?_
      exact hk26 m4 h
    · skip
      refine r_iconst C (v := 1) dX9_isPageToWrite_22 (by decide) ?_
      refine r_goto C (tgt := 27) dX9_isPageToWrite_23 (by decide) ?_
      refine r_sub C [] (show _ = [] from rfl) ?_
      exact hk27 1 m4 h
noncomputable def f_X9_dataBlocksOfNext_L4 (e27_4 : Int32 → sM → Option (sR Int32)) : Nat → Int32 → Int32 → sM → Option (sR Int32)
  | 0, _, _, _ => none
  | n + 1, x1_4, x2_4, m4_ =>
    if 8 ≤ x2_4 then (e27_4 x1_4 m4_) else (s_bd (f_X9_isPageToWrite x2_4 m4_) fun r1 m2 => s_jn (fun (x1_21 : Int32) => f_X9_dataBlocksOfNext_L4 e27_4 n x1_21 (x2_4 + 1) m2) fun k21 => if r1 = 0 then (k21 x1_4) else (k21 (x1_4 + 1)))
noncomputable def f_X9_dataBlocksOfNext (m : sM) : Option (sR Int32) :=
  s_jn (fun (x1_27 : Int32) (m27_ : sM) => some (.inl x1_27, m27_)) fun e27_4 => f_X9_dataBlocksOfNext_L4 e27_4 5000 1 0 m
set_option maxRecDepth 20000 in
set_option maxHeartbeats 4000000 in
theorem c_X9_dataBlocksOfNext (nw : Nat) (hnw : 109 ≤ nw) : s_Con s_i 0 nw yX9_dataBlocksOfNext wsX9_dataBlocksOfNext 18 275 0 (f_X9_dataBlocksOfNext) (fun ad => [.ref (ad 0)]) := by
  refine s_con_of cX9_dataBlocksOfNext 3 (some .int) RX9 (by decide) rfl rfl (fun _ => Nat.le_of_ble_eq_true rfl) (fun ad m res V C h => ?_)
  unfold f_X9_dataBlocksOfNext at h
  show V 0 0 [(0, .ref (ad 0))] [] m
  refine r_iconst C (v := 1) dX9_dataBlocksOfNext_0 (by decide) ?_
  refine r_istore_n C dX9_dataBlocksOfNext_1 rfl (by decide) (show _ = [(1, .int 1), (0, .ref (ad 0))] from rfl) ?_
  refine r_iconst C (v := 0) dX9_dataBlocksOfNext_2 (by decide) ?_
  refine r_istore_n C dX9_dataBlocksOfNext_3 rfl (by decide) (show _ = [(2, .int 0), (1, .int 1), (0, .ref (ad 0))] from rfl) ?_
  refine s_join h (fun e27_4 => ∀ (x1_27 : Int32) (m27_ : sM), e27_4 x1_27 m27_ = some res → V 0 27 [(1, .int x1_27)] [] m27_) ?_ (fun e27_4 he27_4 h => ?_)
  · intro x1_27 m27_ h
    refine r_iload_n C dX9_dataBlocksOfNext_27 rfl 0 rfl ?_
    exact r_iret C dX9_dataBlocksOfNext_28 rfl h
  have L4 : ∀ (n : Nat) (x1_4 : Int32) (x2_4 : Int32) (m4_ : sM), f_X9_dataBlocksOfNext_L4 e27_4 n x1_4 x2_4 m4_ = some res → V 0 4 [(0, .ref (ad 0)), (1, .int x1_4), (2, .int x2_4)] [] m4_ := by
    intro n
    induction n with
    | zero => intro x1_4 x2_4 m4_ h; rw [f_X9_dataBlocksOfNext_L4] at h; cases h
    | succ n ih =>
      intro x1_4 x2_4 m4_ h
      rw [f_X9_dataBlocksOfNext_L4] at h
      refine r_iload_n C dX9_dataBlocksOfNext_4 rfl 2 rfl ?_
      refine r_bipush C (v := 8) dX9_dataBlocksOfNext_5 (by decide) ?_
      refine r_icmp_ge C (tgt := 27) dX9_dataBlocksOfNext_7 (by decide) h (fun _ h => ?_) (fun _ h => ?_)
      · skip
        refine r_sub C [1] (show _ = [(1, .int x1_4)] from rfl) ?_
        exact he27_4 x1_4 m4_ h
      · skip
        refine r_aload_n C dX9_dataBlocksOfNext_10 rfl 0 rfl ?_
        refine r_iload_n C dX9_dataBlocksOfNext_11 rfl 2 rfl ?_
        refine r_callV C (c_X9_isPageToWrite nw hnw x2_4) (As := [.int x2_4]) (nn := 1) (stk := [.int x2_4, .ref (ad 0)]) (ci := 9) dX9_dataBlocksOfNext_12 gX9_dataBlocksOfNext_X9_isPageToWrite ⟨rfl, by decide, by decide, by decide +kernel⟩ (by omega) la_0 rfl rfl rfl (by decide) rfl rfl (Nat.le_of_ble_eq_true rfl) (by decide) h (fun r1 m2 h => ?_)
        show V 0 15 [(0, .ref (ad 0)), (1, .int x1_4), (2, .int x2_4)] [.int r1] m2
        refine s_join h (fun k21 => ∀ (x1_21 : Int32), k21 x1_21 = some res → V 0 21 [(0, .ref (ad 0)), (1, .int x1_21), (2, .int x2_4)] [] m2) ?_ (fun k21 hk21 h => ?_)
        · intro x1_21 h
          refine r_iinc C (v := x2_4 + 1) dX9_dataBlocksOfNext_21 2 rfl rfl (by decide) (show _ = [(2, .int (x2_4 + 1)), (0, .ref (ad 0)), (1, .int x1_21)] from rfl) ?_
          refine r_goto C (tgt := 4) dX9_dataBlocksOfNext_24 (by decide) ?_
          refine r_sub C [1, 2, 0] (show _ = [(0, .ref (ad 0)), (1, .int x1_21), (2, .int (x2_4 + 1))] from rfl) ?_
          exact ih x1_21 (x2_4 + 1) m2 h
        refine r_if_eq C (tgt := 21) dX9_dataBlocksOfNext_15 (by decide) h (fun _ h => ?_) (fun _ h => ?_)
        · skip
          exact hk21 x1_4 h
        · skip
          refine r_iinc C (v := x1_4 + 1) dX9_dataBlocksOfNext_18 1 rfl rfl (by decide) (show _ = [(1, .int (x1_4 + 1)), (0, .ref (ad 0)), (2, .int x2_4)] from rfl) ?_
          refine r_sub C [1, 0, 2] (show _ = [(0, .ref (ad 0)), (1, .int (x1_4 + 1)), (2, .int x2_4)] from rfl) ?_
          exact hk21 (x1_4 + 1) h
  refine r_sub C [2, 1, 0] (show _ = [(0, .ref (ad 0)), (1, .int 1), (2, .int 0)] from rfl) ?_
  exact L4 5000 1 0 m h
noncomputable def f_X9_blocksToWrite (m : sM) : Option (sR Int32) :=
  if (m.1 0 7) = 0 then (some (.inl 0, m)) else (s_bd (f_X9_prepareNext m) fun r1 m2 => s_bd (f_X9_dataBlocksOfNext m2) fun r3 m4 => some (.inl (r3 + 1), m4))
set_option maxRecDepth 20000 in
set_option maxHeartbeats 4000000 in
theorem c_X9_blocksToWrite (nw : Nat) (hnw : 109 ≤ nw) : s_Con s_i 0 nw yX9_blocksToWrite wsX9_blocksToWrite 20 320 0 (f_X9_blocksToWrite) (fun ad => [.ref (ad 0)]) := by
  refine s_con_of cX9_blocksToWrite 1 (some .int) RX9 (by decide) rfl rfl (fun _ => Nat.le_of_ble_eq_true rfl) (fun ad m res V C h => ?_)
  unfold f_X9_blocksToWrite at h
  have F_i9 : ∀ w ∈ wsX90, w ∈ wsX9_blocksToWrite := by decide +kernel
  have F_k50 : Cond.fieldLink RX9 50 "ShadowFile" "readyCount" "I" ∈ wsX9_blocksToWrite := by decide +kernel
  show V 0 0 [(0, .ref (ad 0))] [] m
  refine r_aload_n C dX9_blocksToWrite_0 rfl 0 rfl ?_
  refine r_geti C (ci := 9) (k9 := 7) dX9_blocksToWrite_1 rfl F_i9 (by decide) F_k50 (by omega) la_0 rfl ?_
  refine r_if_ne C (tgt := 9) dX9_blocksToWrite_4 (by decide) h (fun _ h => ?_) (fun _ h => ?_)
  · skip
    refine r_iconst C (v := 0) dX9_blocksToWrite_7 (by decide) ?_
    exact r_iret C dX9_blocksToWrite_8 rfl h
  · skip
    refine r_aload_n C dX9_blocksToWrite_9 rfl 0 rfl ?_
    refine r_callV C (c_X9_prepareNext nw hnw) (As := []) (nn := 0) (stk := [.ref (ad 0)]) (ci := 9) dX9_blocksToWrite_10 gX9_blocksToWrite_X9_prepareNext ⟨rfl, by decide, by decide, by decide +kernel⟩ (by omega) la_0 rfl rfl rfl (by decide) rfl rfl (Nat.le_of_ble_eq_true rfl) (by decide) h (fun r1 m2 h => ?_)
    show V 0 13 [(0, .ref (ad 0))] [] m2
    refine r_aload_n C dX9_blocksToWrite_13 rfl 0 rfl ?_
    refine r_callV C (c_X9_dataBlocksOfNext nw hnw) (As := []) (nn := 0) (stk := [.ref (ad 0)]) (ci := 9) dX9_blocksToWrite_14 gX9_blocksToWrite_X9_dataBlocksOfNext ⟨rfl, by decide, by decide, by decide +kernel⟩ (by omega) la_0 rfl rfl rfl (by decide) rfl rfl (Nat.le_of_ble_eq_true rfl) (by decide) h (fun r3 m4 h => ?_)
    show V 0 17 [(0, .ref (ad 0))] [.int r3] m4
    refine r_iconst C (v := 1) dX9_blocksToWrite_17 (by decide) ?_
    refine r_iadd C dX9_blocksToWrite_18 ?_
    exact r_iret C dX9_blocksToWrite_19 rfl h
noncomputable def f_X8_usedBlocks_L10 (a : Nat) (e44_10 : Int64 → sM → Option (sR Int64)) : Nat → Int64 → Int32 → sM → Option (sR Int64)
  | 0, _, _, _ => none
  | n + 1, x1_10, x3_10, m10_ =>
    if 8 ≤ x3_10 then (e44_10 x1_10 m10_) else (s_ix x3_10 8 fun j3 => s_jn (fun (x1_38 : Int64) (m38_ : sM) => f_X8_usedBlocks_L10 a e44_10 n x1_38 (x3_10 + 1) m38_) fun k38 => if (m10_.1 (a + 1) j3) = (-1) then (k38 x1_10 m10_) else (s_ix x3_10 8 fun j4 => s_bd (f_X9_setOf (m10_.1 (a + 1) j4) m10_) fun r5 m6 => k38 (x1_10 ||| r5) m6))
noncomputable def f_X8_usedBlocks (a : Nat) (m : sM) : Option (sR Int64) :=
  s_bd (f_X9_setOf (m.1 a 5) m) fun r1 m2 => s_jn (fun (x1_44 : Int64) (m44_ : sM) => some (.inl x1_44, m44_)) fun e44_10 => f_X8_usedBlocks_L10 a e44_10 5000 r1 0 m2
set_option maxRecDepth 20000 in
set_option maxHeartbeats 4000000 in
theorem c_X8_usedBlocks (nw : Nat) (hnw : 109 ≤ nw) (a : Nat) (ha : isVer a) : s_Con s_l 0 nw yX8_usedBlocks wsX8_usedBlocks 14 185 0 (f_X8_usedBlocks a) (fun ad => [.ref (ad a)]) := by
  refine s_con_of cX8_usedBlocks 4 (some .long) RX8 (by decide) rfl rfl (fun _ => Nat.le_of_ble_eq_true rfl) (fun ad m res V C h => ?_)
  unfold f_X8_usedBlocks at h
  have F_i8 : ∀ w ∈ wsX80, w ∈ wsX8_usedBlocks := by decide +kernel
  have F_k29 : Cond.fieldLink RX8 29 "ShadowFile$Version" "table" "I" ∈ wsX8_usedBlocks := by decide +kernel
  have F_tyX9_setOf : Cond.static yX9_setOf ∈ wsX8_usedBlocks := by decide +kernel
  have F_nyX9_setOf : Cond.initialized RX9 ∈ wsX8_usedBlocks := by decide +kernel
  have F_k9 : Cond.fieldLink RX8 9 "ShadowFile$Version" "blocks" "[I" ∈ wsX8_usedBlocks := by decide +kernel
  show V 0 0 [(0, .ref (ad a))] [] m
  refine r_aload_n C dX8_usedBlocks_0 rfl 0 rfl ?_
  refine r_geti C (ci := 8) (k9 := 5) dX8_usedBlocks_1 rfl F_i8 (by decide) F_k29 (by have := isVer_b ha; omega) (isVer_0 ha) rfl ?_
  refine r_callN C (c_X9_setOf nw hnw (m.1 a 5)) (host := RX9) (As := [.int (m.1 a 5)]) (nn := 1) (stk := [.int (m.1 a 5)]) dX8_usedBlocks_4 gX8_usedBlocks_X9_setOf_n53 (by decide +kernel) F_tyX9_setOf F_nyX9_setOf ⟨by decide, by decide, by decide +kernel⟩ rfl rfl (by decide) rfl rfl (Nat.le_of_ble_eq_true rfl) (by decide) h (fun r1 m2 h => ?_)
  show V 0 7 [(0, .ref (ad a))] [.long r1] m2
  refine r_lstore_n C dX8_usedBlocks_7 rfl (by decide) (show _ = [(1, .long r1), (0, .ref (ad a))] from rfl) ?_
  refine r_iconst C (v := 0) dX8_usedBlocks_8 (by decide) ?_
  refine r_istore_n C dX8_usedBlocks_9 rfl (by decide) (show _ = [(3, .int 0), (1, .long r1), (0, .ref (ad a))] from rfl) ?_
  refine s_join h (fun e44_10 => ∀ (x1_44 : Int64) (m44_ : sM), e44_10 x1_44 m44_ = some res → V 0 44 [(1, .long x1_44)] [] m44_) ?_ (fun e44_10 he44_10 h => ?_)
  · intro x1_44 m44_ h
    refine r_lload_n C dX8_usedBlocks_44 rfl 0 rfl ?_
    exact r_lret C dX8_usedBlocks_45 rfl h
  have L10 : ∀ (n : Nat) (x1_10 : Int64) (x3_10 : Int32) (m10_ : sM), f_X8_usedBlocks_L10 a e44_10 n x1_10 x3_10 m10_ = some res → V 0 10 [(0, .ref (ad a)), (1, .long x1_10), (3, .int x3_10)] [] m10_ := by
    intro n
    induction n with
    | zero => intro x1_10 x3_10 m10_ h; rw [f_X8_usedBlocks_L10] at h; cases h
    | succ n ih =>
      intro x1_10 x3_10 m10_ h
      rw [f_X8_usedBlocks_L10] at h
      refine r_iload_n C dX8_usedBlocks_10 rfl 2 rfl ?_
      refine r_bipush C (v := 8) dX8_usedBlocks_11 (by decide) ?_
      refine r_icmp_ge C (tgt := 44) dX8_usedBlocks_13 (by decide) h (fun _ h => ?_) (fun _ h => ?_)
      · skip
        refine r_sub C [1] (show _ = [(1, .long x1_10)] from rfl) ?_
        exact he44_10 x1_10 m10_ h
      · skip
        refine r_aload_n C dX8_usedBlocks_16 rfl 0 rfl ?_
        refine r_getr C (ci := 8) (k9 := 0) dX8_usedBlocks_17 rfl F_i8 (by decide) F_k9 (by have := isVer_b ha; omega) (isVer_0 ha) rfl ?_
        refine r_iload_n C dX8_usedBlocks_20 rfl 2 rfl ?_
        refine r_iald C dX8_usedBlocks_21 (by have := isVer_b ha; omega) (isVer_1 ha) h (fun j3 hj3 h => ?_)
        refine r_iconst C (v := -1) dX8_usedBlocks_22 (by decide) ?_
        refine s_join h (fun k38 => ∀ (x1_38 : Int64) (m38_ : sM), k38 x1_38 m38_ = some res → V 0 38 [(0, .ref (ad a)), (1, .long x1_38), (3, .int x3_10)] [] m38_) ?_ (fun k38 hk38 h => ?_)
        · intro x1_38 m38_ h
          refine r_iinc C (v := x3_10 + 1) dX8_usedBlocks_38 2 rfl rfl (by decide) (show _ = [(3, .int (x3_10 + 1)), (0, .ref (ad a)), (1, .long x1_38)] from rfl) ?_
          refine r_goto C (tgt := 10) dX8_usedBlocks_41 (by decide) ?_
          refine r_sub C [1, 2, 0] (show _ = [(0, .ref (ad a)), (1, .long x1_38), (3, .int (x3_10 + 1))] from rfl) ?_
          exact ih x1_38 (x3_10 + 1) m38_ h
        refine r_icmp_eq C (tgt := 38) dX8_usedBlocks_23 (by decide) h (fun _ h => ?_) (fun _ h => ?_)
        · skip
          exact hk38 x1_10 m10_ h
        · skip
          refine r_lload_n C dX8_usedBlocks_26 rfl 1 rfl ?_
          refine r_aload_n C dX8_usedBlocks_27 rfl 0 rfl ?_
          refine r_getr C (ci := 8) (k9 := 0) dX8_usedBlocks_28 rfl F_i8 (by decide) F_k9 (by have := isVer_b ha; omega) (isVer_0 ha) rfl ?_
          refine r_iload_n C dX8_usedBlocks_31 rfl 2 rfl ?_
          refine r_iald C dX8_usedBlocks_32 (by have := isVer_b ha; omega) (isVer_1 ha) h (fun j4 hj4 h => ?_)
          refine r_callN C (c_X9_setOf nw hnw (m10_.1 (a + 1) j4)) (host := RX9) (As := [.int (m10_.1 (a + 1) j4)]) (nn := 1) (stk := [.int (m10_.1 (a + 1) j4), .long x1_10]) dX8_usedBlocks_33 gX8_usedBlocks_X9_setOf_n53 (by decide +kernel) F_tyX9_setOf F_nyX9_setOf ⟨by decide, by decide, by decide +kernel⟩ rfl rfl (by decide) rfl rfl (Nat.le_of_ble_eq_true rfl) (by decide) h (fun r5 m6 h => ?_)
          show V 0 36 [(0, .ref (ad a)), (1, .long x1_10), (3, .int x3_10)] [.long r5, .long x1_10] m6
          refine r_lor C dX8_usedBlocks_36 ?_
          refine r_lstore_n C dX8_usedBlocks_37 rfl (by decide) (show _ = [(1, .long (x1_10 ||| r5)), (0, .ref (ad a)), (3, .int x3_10)] from rfl) ?_
          refine r_sub C [1, 0, 2] (show _ = [(0, .ref (ad a)), (1, .long (x1_10 ||| r5)), (3, .int x3_10)] from rfl) ?_
          exact hk38 (x1_10 ||| r5) m6 h
  refine r_sub C [2, 1, 0] (show _ = [(0, .ref (ad a)), (1, .long r1), (3, .int 0)] from rfl) ?_
  exact L10 5000 r1 0 m2 h
