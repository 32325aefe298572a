noncomputable def f_X9_isIn (p0 : Int64) (p2 : Int32) (m : sM) : Option (sR Int32) :=
  s_jn (fun (s0_15 : Int32) => s_gd (s0_15 = 0 ∨ s0_15 = 1) (some (.inl s0_15, m))) fun k15 => if (lg_cmp ((s_lushr p0 p2) &&& 1) 0) = 0 then (k15 0) else (k15 1)
set_option maxRecDepth 20000 in
set_option maxHeartbeats 4000000 in
theorem c_X9_isIn (nw : Nat) (hnw : 109 ≤ nw) (p0 : Int64) (p2 : Int32) : s_Con s_i 0 nw yX9_isIn wsX9_isIn 12 140 0 (f_X9_isIn p0 p2) (fun ad => [.long p0, .int p2]) := by
  refine s_con_of cX9_isIn 3 (some .boolean) RX9 (by decide) rfl rfl (fun _ => Nat.le_of_ble_eq_true rfl) (fun ad m res V C h => ?_)
  unfold f_X9_isIn at h
  show V 0 0 [(0, .long p0), (2, .int p2)] [] m
  refine r_lload_n C dX9_isIn_0 rfl 0 rfl ?_
  refine r_iload_n C dX9_isIn_1 rfl 1 rfl ?_
  refine r_lushr C dX9_isIn_2 ?_
  refine r_lconst C (v := 1) dX9_isIn_3 (by decide) ?_
  refine r_land C dX9_isIn_4 ?_
  refine r_lconst C (v := 0) dX9_isIn_5 (by decide) ?_
  refine r_lcmp C dX9_isIn_6 ?_
  refine s_join h (fun k15 => ∀ (s0_15 : Int32), k15 s0_15 = some res → V 0 15 [] [.int s0_15] m) ?_ (fun k15 hk15 h => ?_)
  · intro s0_15 h
    obtain ⟨hg, h⟩ := s_gd_of h
    exact r_zret C dX9_isIn_15 rfl (s_z hg) h
  refine r_if_eq C (tgt := 14) dX9_isIn_7 (by decide) h (fun _ h => ?_) (fun _ h => ?_)
  · skip
    refine r_iconst C (v := 0) dX9_isIn_14 (by decide) ?_
    refine r_sub C [] (show _ = [] from rfl) ?_
    exact hk15 0 h
  · skip
    refine r_iconst C (v := 1) dX9_isIn_10 (by decide) ?_
    refine r_goto C (tgt := 15) dX9_isIn_11 (by decide) ?_
    refine r_sub C [] (show _ = [] from rfl) ?_
    exact hk15 1 h
noncomputable def f_X9_isInView (p1 : Int32) (p2 : Int32) (m : sM) : Option (sR Int32) :=
  s_ix p1 3 fun j1 => s_bd (f_X9_isIn (m.2 ((54 + 10 * j1) + 1) 1) p2 m) fun r2 m3 => if r2 = 0 then (s_bd (f_X9_isIn (m3.2 36 2) p2 m3) fun r4 m5 => s_gd (r4 = 0 ∨ r4 = 1) (some (.inl r4, m5))) else (s_bd (f_X9_isIn (m3.2 ((54 + 10 * j1) + 1) 2) p2 m3) fun r6 m7 => s_jn (fun (s0_37 : Int32) => s_gd (s0_37 = 0 ∨ s0_37 = 1) (some (.inl s0_37, m7))) fun k37 => if r6 = 0 then (k37 1) else (k37 0))
set_option maxRecDepth 20000 in
set_option maxHeartbeats 4000000 in
theorem c_X9_isInView (nw : Nat) (hnw : 109 ≤ nw) (p1 : Int32) (p2 : Int32) : s_Con s_i 0 nw yX9_isInView wsX9_isInView 14 185 0 (f_X9_isInView p1 p2) (fun ad => [.ref (ad 0), .int p1, .int p2]) := by
  refine s_con_of cX9_isInView 4 (some .boolean) RX9 (by decide) rfl rfl (fun _ => Nat.le_of_ble_eq_true rfl) (fun ad m res V C h => ?_)
  unfold f_X9_isInView at h
  have F_i9 : ∀ w ∈ wsX90, w ∈ wsX9_isInView := by decide +kernel
  have F_k42 : Cond.fieldLink RX9 42 "ShadowFile" "slots" "[LShadowFile$Slot;" ∈ wsX9_isInView := by decide +kernel
  have F_i7 : ∀ w ∈ wsX70, w ∈ wsX9_isInView := by decide +kernel
  have F_k142 : Cond.fieldLink RX9 142 "ShadowFile$Slot" "changes" "LShadowFile$Changes;" ∈ wsX9_isInView := by decide +kernel
  have F_i0 : ∀ w ∈ wsX00, w ∈ wsX9_isInView := by decide +kernel
  have F_k216 : Cond.fieldLink RX9 216 "ShadowFile$Changes" "touched" "J" ∈ wsX9_isInView := by decide +kernel
  have F_k19 : Cond.fieldLink RX9 19 "ShadowFile" "present" "LShadowFile$Version;" ∈ wsX9_isInView := by decide +kernel
  have F_i8 : ∀ w ∈ wsX80, w ∈ wsX9_isInView := by decide +kernel
  have F_k225 : Cond.fieldLink RX9 225 "ShadowFile$Version" "keys" "J" ∈ wsX9_isInView := by decide +kernel
  have F_k205 : Cond.fieldLink RX9 205 "ShadowFile$Changes" "removed" "J" ∈ wsX9_isInView := by decide +kernel
  show V 0 0 [(0, .ref (ad 0)), (1, .int p1), (2, .int p2)] [] m
  refine r_aload_n C dX9_isInView_0 rfl 0 rfl ?_
  refine r_getr C (ci := 9) (k9 := 5) dX9_isInView_1 rfl F_i9 (by decide) F_k42 (by omega) la_0 rfl ?_
  refine r_iload_n C dX9_isInView_4 rfl 1 rfl ?_
  refine r_aald C (b0 := 54) (d0 := 10) dX9_isInView_5 (by omega) la_53 (fun _ => rfl) rfl h (fun j1 hj1 h => ?_)
  refine r_getr C (ci := 7) (k9 := 0) dX9_isInView_6 rfl F_i7 (by decide) F_k142 (by have := isSlt_b (isSlt_s hj1); omega) (isSlt_0 (isSlt_s hj1)) rfl ?_
  refine r_astore_n C dX9_isInView_9 rfl (by decide) (show _ = [(3, .ref (ad ((54 + 10 * j1) + 1))), (0, .ref (ad 0)), (1, .int p1), (2, .int p2)] from rfl) ?_
  refine r_aload_n C dX9_isInView_10 rfl 0 rfl ?_
  refine r_getl C (ci := 0) (k9 := 1) dX9_isInView_11 rfl F_i0 (by decide) F_k216 (by have := isChg_b (isSlt_c (isSlt_s hj1)); omega) (isChg_0 (isSlt_c (isSlt_s hj1))) rfl ?_
  refine r_iload_n C dX9_isInView_14 rfl 3 rfl ?_
  refine r_callS C (c_X9_isIn nw hnw (m.2 ((54 + 10 * j1) + 1) 1) p2) (As := [.long (m.2 ((54 + 10 * j1) + 1) 1), .int p2]) (nn := 2) (stk := [.int p2, .long (m.2 ((54 + 10 * j1) + 1) 1)]) dX9_isInView_15 gX9_isInView_X9_isIn ⟨by decide, by decide, by decide +kernel⟩ rfl rfl (by decide) rfl rfl (Nat.le_of_ble_eq_true rfl) (by decide) h (fun r2 m3 h => ?_)
  show V 0 18 [(3, .ref (ad ((54 + 10 * j1) + 1))), (0, .ref (ad 0)), (1, .int p1), (2, .int p2)] [.int r2] m3
  refine r_if_eq C (tgt := 38) dX9_isInView_18 (by decide) h (fun _ h => ?_) (fun _ h => ?_)
  · skip
    refine r_aload_n C dX9_isInView_38 rfl 1 rfl ?_
    refine r_getr C (ci := 9) (k9 := 1) dX9_isInView_39 rfl F_i9 (by decide) F_k19 (by omega) la_0 rfl ?_
    refine r_getl C (ci := 8) (k9 := 2) dX9_isInView_42 rfl F_i8 (by decide) F_k225 (by omega) la_36 rfl ?_
    refine r_iload_n C dX9_isInView_45 rfl 3 rfl ?_
    refine r_callS C (c_X9_isIn nw hnw (m3.2 36 2) p2) (As := [.long (m3.2 36 2), .int p2]) (nn := 2) (stk := [.int p2, .long (m3.2 36 2)]) dX9_isInView_46 gX9_isInView_X9_isIn ⟨by decide, by decide, by decide +kernel⟩ rfl rfl (by decide) rfl rfl (Nat.le_of_ble_eq_true rfl) (by decide) h (fun r4 m5 h => ?_)
    show V 0 49 [(3, .ref (ad ((54 + 10 * j1) + 1))), (0, .ref (ad 0)), (1, .int p1), (2, .int p2)] [.int r4] m5
    obtain ⟨hg, h⟩ := s_gd_of h
    exact r_zret C dX9_isInView_49 rfl (s_z hg) h
  · skip
    refine r_aload_n C dX9_isInView_21 rfl 0 rfl ?_
    refine r_getl C (ci := 0) (k9 := 2) dX9_isInView_22 rfl F_i0 (by decide) F_k205 (by have := isChg_b (isSlt_c (isSlt_s hj1)); omega) (isChg_0 (isSlt_c (isSlt_s hj1))) rfl ?_
    refine r_iload_n C dX9_isInView_25 rfl 3 rfl ?_
    refine r_callS C (c_X9_isIn nw hnw (m3.2 ((54 + 10 * j1) + 1) 2) p2) (As := [.long (m3.2 ((54 + 10 * j1) + 1) 2), .int p2]) (nn := 2) (stk := [.int p2, .long (m3.2 ((54 + 10 * j1) + 1) 2)]) dX9_isInView_26 gX9_isInView_X9_isIn ⟨by decide, by decide, by decide +kernel⟩ rfl rfl (by decide) rfl rfl (Nat.le_of_ble_eq_true rfl) (by decide) h (fun r6 m7 h => ?_)
    show V 0 29 [(3, .ref (ad ((54 + 10 * j1) + 1))), (0, .ref (ad 0)), (1, .int p1), (2, .int p2)] [.int r6] m7
    refine s_join h (fun k37 => ∀ (s0_37 : Int32), k37 s0_37 = some res → V 0 37 [] [.int s0_37] m7) ?_ (fun k37 hk37 h => ?_)
    · intro s0_37 h
      obtain ⟨hg, h⟩ := s_gd_of h
      exact r_zret C dX9_isInView_37 rfl (s_z hg) h
    refine r_if_ne C (tgt := 36) dX9_isInView_29 (by decide) h (fun _ h => ?_) (fun _ h => ?_)
    · skip
      refine r_iconst C (v := 1) dX9_isInView_32 (by decide) ?_
      refine r_goto C (tgt := 37) dX9_isInView_33 (by decide) ?_
      refine r_sub C [] (show _ = [] from rfl) ?_
      exact hk37 1 h
    · skip
      refine r_iconst C (v := 0) dX9_isInView_36 (by decide) ?_
      refine r_sub C [] (show _ = [] from rfl) ?_
      exact hk37 0 h
noncomputable def f_X9_setOf (p0 : Int32) (m : sM) : Option (sR Int64) :=
  some (.inl (s_lshl 1 p0), m)
set_option maxRecDepth 20000 in
set_option maxHeartbeats 4000000 in
theorem c_X9_setOf (nw : Nat) (hnw : 109 ≤ nw) (p0 : Int32) : s_Con s_l 0 nw yX9_setOf wsX9_setOf 12 140 0 (f_X9_setOf p0) (fun ad => [.int p0]) := by
  refine s_con_of cX9_setOf 1 (some .long) RX9 (by decide) rfl rfl (fun _ => Nat.le_of_ble_eq_true rfl) (fun ad m res V C h => ?_)
  unfold f_X9_setOf at h
  show V 0 0 [(0, .int p0)] [] m
  refine r_lconst C (v := 1) dX9_setOf_0 (by decide) ?_
  refine r_iload_n C dX9_setOf_1 rfl 0 rfl ?_
  refine r_lshl C dX9_setOf_2 ?_
  exact r_lret C dX9_setOf_3 rfl h
noncomputable def f_X0_renew (a : Nat) (p1 : Int32) (p2 : Int32) (m : sM) : Option (sR Unit) :=
  s_bd (f_X9_setOf p1 m) fun r1 m2 => s_md (s_uL m2 a 1 ((m.2 a 1) ||| r1)) fun m3 => s_bd (f_X9_setOf p1 m3) fun r4 m5 => s_md (s_uL m5 a 2 ((m3.2 a 2) &&& (r4 ^^^ (-1)))) fun m6 => s_ix p1 64 fun j7 => s_md (s_up m6 (a + 1) j7 p2) fun m8 => some (.inl (), m8)
set_option maxRecDepth 20000 in
set_option maxHeartbeats 4000000 in
theorem c_X0_renew (nw : Nat) (hnw : 109 ≤ nw) (a : Nat) (p1 : Int32) (p2 : Int32) (ha : isChg a) : s_Con s_u 0 nw yX0_renew wsX0_renew 14 185 0 (f_X0_renew a p1 p2) (fun ad => [.ref (ad a), .int p1, .int p2]) := by
  refine s_con_of cX0_renew 3 none RX0 (by decide) rfl rfl (fun _ => Nat.le_of_ble_eq_true rfl) (fun ad m res V C h => ?_)
  unfold f_X0_renew at h
  have F_i0 : ∀ w ∈ wsX00, w ∈ wsX0_renew := by decide +kernel
  have F_k15 : Cond.fieldLink RX0 15 "ShadowFile$Changes" "touched" "J" ∈ wsX0_renew := by decide +kernel
  have F_tyX9_setOf : Cond.static yX9_setOf ∈ wsX0_renew := by decide +kernel
  have F_nyX9_setOf : Cond.initialized RX9 ∈ wsX0_renew := by decide +kernel
  have F_k19 : Cond.fieldLink RX0 19 "ShadowFile$Changes" "removed" "J" ∈ wsX0_renew := by decide +kernel
  have F_w26 : Cond.constantLong RX0 26 (-1) ∈ wsX0_renew := by decide +kernel
  have F_k9 : Cond.fieldLink RX0 9 "ShadowFile$Changes" "values" "[I" ∈ wsX0_renew := by decide +kernel
  show V 0 0 [(0, .ref (ad a)), (1, .int p1), (2, .int p2)] [] m
  refine r_aload_n C dX0_renew_0 rfl 0 rfl ?_
  refine r_dup C dX0_renew_1 rfl ?_
  refine r_getl C (ci := 0) (k9 := 1) dX0_renew_2 rfl F_i0 (by decide) F_k15 (by have := isChg_b ha; omega) (isChg_0 ha) rfl ?_
  refine r_iload_n C dX0_renew_5 rfl 1 rfl ?_
  refine r_callN C (c_X9_setOf nw hnw p1) (host := RX9) (As := [.int p1]) (nn := 1) (stk := [.int p1, .long (m.2 a 1), .ref (ad a)]) dX0_renew_6 gX0_renew_X9_setOf_n22 (by decide +kernel) F_tyX9_setOf F_nyX9_setOf ⟨by decide, by decide, by decide +kernel⟩ rfl rfl (by decide) rfl rfl (Nat.le_of_ble_eq_true rfl) (by decide) h (fun r1 m2 h => ?_)
  show V 0 9 [(0, .ref (ad a)), (1, .int p1), (2, .int p2)] [.long r1, .long (m.2 a 1), .ref (ad a)] m2
  refine r_lor C dX0_renew_9 ?_
  refine r_putl C (ci := 0) (k9 := 1) dX0_renew_10 rfl F_i0 (by decide) F_k15 (by have := isChg_b ha; omega) (isChg_0 ha) rfl tyX0 tyX0_ok nmX0 rfl (tyX0_ok 1 (by decide)) rfl rfl h (fun m3 _ h => ?_)
  refine r_aload_n C dX0_renew_13 rfl 0 rfl ?_
  refine r_dup C dX0_renew_14 rfl ?_
  refine r_getl C (ci := 0) (k9 := 2) dX0_renew_15 rfl F_i0 (by decide) F_k19 (by have := isChg_b ha; omega) (isChg_0 ha) rfl ?_
  refine r_iload_n C dX0_renew_18 rfl 1 rfl ?_
  refine r_callN C (c_X9_setOf nw hnw p1) (host := RX9) (As := [.int p1]) (nn := 1) (stk := [.int p1, .long (m3.2 a 2), .ref (ad a)]) dX0_renew_19 gX0_renew_X9_setOf_n22 (by decide +kernel) F_tyX9_setOf F_nyX9_setOf ⟨by decide, by decide, by decide +kernel⟩ rfl rfl (by decide) rfl rfl (Nat.le_of_ble_eq_true rfl) (by decide) h (fun r4 m5 h => ?_)
  show V 0 22 [(0, .ref (ad a)), (1, .int p1), (2, .int p2)] [.long r4, .long (m3.2 a 2), .ref (ad a)] m5
  refine r_ldc2 C dX0_renew_22 F_w26 ?_
  refine r_lxor C dX0_renew_25 ?_
  refine r_land C dX0_renew_26 ?_
  refine r_putl C (ci := 0) (k9 := 2) dX0_renew_27 rfl F_i0 (by decide) F_k19 (by have := isChg_b ha; omega) (isChg_0 ha) rfl tyX0 tyX0_ok nmX0 rfl (tyX0_ok 2 (by decide)) rfl rfl h (fun m6 _ h => ?_)
  refine r_aload_n C dX0_renew_30 rfl 0 rfl ?_
  refine r_getr C (ci := 0) (k9 := 0) dX0_renew_31 rfl F_i0 (by decide) F_k9 (by have := isChg_b ha; omega) (isChg_0 ha) rfl ?_
  refine r_iload_n C dX0_renew_34 rfl 1 rfl ?_
  refine r_iload_n C dX0_renew_35 rfl 2 rfl ?_
  refine r_iast C dX0_renew_36 (by have := isChg_b ha; omega) (isChg_1 ha) h (fun j7 m8 hj7 _ h => ?_)
  exact r_vret C dX0_renew_37 rfl h
noncomputable def f_X9_put (p1 : Int32) (p2 : Int32) (p3 : Int32) (m : sM) : Option (sR Int32) :=
  s_bd (f_X9_requireSlot p1 m) fun r1 m2 => s_bd (f_X9_requireKey p2 m2) fun r3 m4 => s_jn (some (.inr "java/lang/IllegalArgumentException", m4)) fun k22 => if p3 < (-9999) then (k22) else (if p3 ≤ 9999 then (s_bd (f_X9_requireActive p1 m4) fun r5 m6 => s_bd (f_X9_isInView p1 p2 m6) fun r7 m8 => s_ix p1 3 fun j9 => s_bd (f_X0_renew ((54 + 10 * j9) + 1) p2 p3 m8) fun r10 m11 => s_gd (r7 = 0 ∨ r7 = 1) (some (.inl r7, m11))) else (k22))
set_option maxRecDepth 20000 in
set_option maxHeartbeats 4000000 in
theorem c_X9_put (nw : Nat) (hnw : 109 ≤ nw) (p1 : Int32) (p2 : Int32) (p3 : Int32) : s_Con s_i 0 nw yX9_put wsX9_put 16 230 3 (f_X9_put p1 p2 p3) (fun ad => [.ref (ad 0), .int p1, .int p2, .int p3]) := by
  refine s_con_of cX9_put 5 (some .boolean) RX9 (by decide) rfl rfl (fun _ => Nat.le_of_ble_eq_true rfl) (fun ad m res V C h => ?_)
  unfold f_X9_put at h
  have F_q130 : Cond.classLink RX9 130 "java/lang/IllegalArgumentException" ∈ wsX9_put := by decide +kernel
  have F_u130 : Cond.initialized "java/lang/IllegalArgumentException" ∈ wsX9_put := by decide +kernel
  have F_z134 : ∀ w ∈ (vx_atS RX9 134 "java/lang/IllegalArgumentException" ["java/lang/RuntimeException", "java/lang/Exception"]).filter goodWord, w ∈ wsX9_put := by decide +kernel
  have F_y134 : ∀ w ∈ (vx_atS RX9 134 "java/lang/IllegalArgumentException" ["java/lang/RuntimeException", "java/lang/Exception"]).filter (fun w => !goodWord w), w ∈ Cond.castable "java/lang/IllegalArgumentException" "java/lang/IllegalArgumentException" :: s_dec.map Cond.declares := by decide +kernel
  have F_v134 : ∀ w ∈ Cond.classLink RX9 130 "java/lang/IllegalArgumentException" :: Cond.initialized "java/lang/IllegalArgumentException" :: vx_atS RX9 134 "java/lang/IllegalArgumentException" ["java/lang/RuntimeException", "java/lang/Exception"], vx_ot w = true := by decide +kernel
  have F_i9 : ∀ w ∈ wsX90, w ∈ wsX9_put := by decide +kernel
  have F_k42 : Cond.fieldLink RX9 42 "ShadowFile" "slots" "[LShadowFile$Slot;" ∈ wsX9_put := by decide +kernel
  have F_i7 : ∀ w ∈ wsX70, w ∈ wsX9_put := by decide +kernel
  have F_k142 : Cond.fieldLink RX9 142 "ShadowFile$Slot" "changes" "LShadowFile$Changes;" ∈ wsX9_put := by decide +kernel
  show V 3 0 [(0, .ref (ad 0)), (1, .int p1), (2, .int p2), (3, .int p3)] [] m
  refine r_iload_n C dX9_put_0 rfl 1 rfl ?_
  refine r_callS C (c_X9_requireSlot nw hnw p1) (As := [.int p1]) (nn := 1) (stk := [.int p1]) dX9_put_1 gX9_put_X9_requireSlot ⟨by decide, by decide, by decide +kernel⟩ rfl rfl (by decide) rfl rfl (Nat.le_of_ble_eq_true rfl) (by decide) h (fun r1 m2 h => ?_)
  show V 2 4 [(0, .ref (ad 0)), (1, .int p1), (2, .int p2), (3, .int p3)] [] m2
  refine r_iload_n C dX9_put_4 rfl 2 rfl ?_
  refine r_callS C (c_X9_requireKey nw hnw p2) (As := [.int p2]) (nn := 1) (stk := [.int p2]) dX9_put_5 gX9_put_X9_requireKey ⟨by decide, by decide, by decide +kernel⟩ rfl rfl (by decide) rfl rfl (Nat.le_of_ble_eq_true rfl) (by decide) h (fun r3 m4 h => ?_)
  show V 1 8 [(0, .ref (ad 0)), (1, .int p1), (2, .int p2), (3, .int p3)] [] m4
  refine r_iload_n C dX9_put_8 rfl 3 rfl ?_
  refine r_sipush C (v := -9999) dX9_put_9 (by decide) ?_
  refine s_join h (fun k22 => k22  = some res → V 1 22 [] [] m4) ?_ (fun k22 hk22 h => ?_)
  · intro  h
    exact r_throw C (text := "the value is out of range") (names := ["java/lang/RuntimeException", "java/lang/Exception"]) dX9_put_22 dX9_put_25 dX9_put_26 dX9_put_28 dX9_put_31 (by decide) (by decide) F_q130 F_u130 F_z134 F_y134 F_v134 (by decide +kernel) (by decide +kernel) (by decide) (Nat.le_of_ble_eq_true rfl) (by decide) h
  refine r_icmp_lt C (tgt := 22) dX9_put_12 (by decide) h (fun _ h => ?_) (fun _ h => ?_)
  · skip
    refine r_sub C [] (show _ = [] from rfl) ?_
    exact hk22 h
  · skip
    refine r_iload_n C dX9_put_15 rfl 3 rfl ?_
    refine r_sipush C (v := 9999) dX9_put_16 (by decide) ?_
    refine r_icmp_le C (tgt := 32) dX9_put_19 (by decide) h (fun _ h => ?_) (fun _ h => ?_)
    · skip
      refine r_aload_n C dX9_put_32 rfl 0 rfl ?_
      refine r_iload_n C dX9_put_33 rfl 1 rfl ?_
      refine r_callV C (c_X9_requireActive nw hnw p1) (As := [.int p1]) (nn := 1) (stk := [.int p1, .ref (ad 0)]) (ci := 9) dX9_put_34 gX9_put_X9_requireActive ⟨rfl, by decide, by decide, by decide +kernel⟩ (by omega) la_0 rfl rfl rfl (by decide) rfl rfl (Nat.le_of_ble_eq_true rfl) (by decide) h (fun r5 m6 h => ?_)
      show V 0 37 [(0, .ref (ad 0)), (1, .int p1), (2, .int p2), (3, .int p3)] [] m6
      refine r_aload_n C dX9_put_37 rfl 0 rfl ?_
      refine r_iload_n C dX9_put_38 rfl 1 rfl ?_
      refine r_iload_n C dX9_put_39 rfl 2 rfl ?_
      refine r_callV C (c_X9_isInView nw hnw p1 p2) (As := [.int p1, .int p2]) (nn := 2) (stk := [.int p2, .int p1, .ref (ad 0)]) (ci := 9) dX9_put_40 gX9_put_X9_isInView ⟨rfl, by decide, by decide, by decide +kernel⟩ (by omega) la_0 rfl rfl rfl (by decide) rfl rfl (Nat.le_of_ble_eq_true rfl) (by decide) h (fun r7 m8 h => ?_)
      show V 0 43 [(0, .ref (ad 0)), (1, .int p1), (2, .int p2), (3, .int p3)] [.int r7] m8
      refine r_istore C dX9_put_43 (by decide) (show _ = [(4, .int r7), (0, .ref (ad 0)), (1, .int p1), (2, .int p2), (3, .int p3)] from rfl) ?_
      refine r_aload_n C dX9_put_45 rfl 1 rfl ?_
      refine r_getr C (ci := 9) (k9 := 5) dX9_put_46 rfl F_i9 (by decide) F_k42 (by omega) la_0 rfl ?_
      refine r_iload_n C dX9_put_49 rfl 2 rfl ?_
      refine r_aald C (b0 := 54) (d0 := 10) dX9_put_50 (by omega) la_53 (fun _ => rfl) rfl h (fun j9 hj9 h => ?_)
      refine r_getr C (ci := 7) (k9 := 0) dX9_put_51 rfl F_i7 (by decide) F_k142 (by have := isSlt_b (isSlt_s hj9); omega) (isSlt_0 (isSlt_s hj9)) rfl ?_
      refine r_iload_n C dX9_put_54 rfl 3 rfl ?_
      refine r_iload_n C dX9_put_55 rfl 4 rfl ?_
      refine r_callV C (c_X0_renew nw hnw ((54 + 10 * j9) + 1) p2 p3 (isSlt_c (isSlt_s hj9))) (As := [.int p2, .int p3]) (nn := 2) (stk := [.int p3, .int p2, .ref (ad ((54 + 10 * j9) + 1))]) (ci := 0) dX9_put_56 gX9_put_X0_renew ⟨rfl, by decide, by decide, by decide +kernel⟩ (by have := isChg_b (isSlt_c (isSlt_s hj9)); omega) (isChg_0 (isSlt_c (isSlt_s hj9))) rfl rfl rfl (by decide) rfl rfl (Nat.le_of_ble_eq_true rfl) (by decide) h (fun r10 m11 h => ?_)
      show V 0 59 [(4, .int r7), (0, .ref (ad 0)), (1, .int p1), (2, .int p2), (3, .int p3)] [] m11
      refine r_iload C dX9_put_59 0 rfl ?_
      obtain ⟨hg, h⟩ := s_gd_of h
      exact r_zret C dX9_put_61 rfl (s_z hg) h
    · skip
      refine r_sub C [] (show _ = [] from rfl) ?_
      exact hk22 h
noncomputable def f_X9_requireInView (p1 : Int32) (p2 : Int32) (m : sM) : Option (sR Unit) :=
  s_bd (f_X9_isInView p1 p2 m) fun r1 m2 => if r1 = 0 then (some (.inr "java/util/NoSuchElementException", m2)) else (some (.inl (), m2))
set_option maxRecDepth 20000 in
set_option maxHeartbeats 4000000 in
theorem c_X9_requireInView (nw : Nat) (hnw : 109 ≤ nw) (p1 : Int32) (p2 : Int32) : s_Con s_u 0 nw yX9_requireInView wsX9_requireInView 16 230 1 (f_X9_requireInView p1 p2) (fun ad => [.ref (ad 0), .int p1, .int p2]) := by
  refine s_con_of cX9_requireInView 3 none RX9 (by decide) rfl rfl (fun _ => Nat.le_of_ble_eq_true rfl) (fun ad m res V C h => ?_)
  unfold f_X9_requireInView at h
  have F_q174 : Cond.classLink RX9 174 "java/util/NoSuchElementException" ∈ wsX9_requireInView := by decide +kernel
  have F_u174 : Cond.initialized "java/util/NoSuchElementException" ∈ wsX9_requireInView := by decide +kernel
  have F_z178 : ∀ w ∈ (vy_at RX9 178 "java/util/NoSuchElementException" "java/lang/RuntimeException" ["java/lang/Exception"]).filter goodWord, w ∈ wsX9_requireInView := by decide +kernel
  have F_y178 : ∀ w ∈ (vy_at RX9 178 "java/util/NoSuchElementException" "java/lang/RuntimeException" ["java/lang/Exception"]).filter (fun w => !goodWord w), w ∈ Cond.castable "java/util/NoSuchElementException" "java/util/NoSuchElementException" :: s_dec.map Cond.declares := by decide +kernel
  have F_v178 : ∀ w ∈ Cond.classLink RX9 174 "java/util/NoSuchElementException" :: Cond.initialized "java/util/NoSuchElementException" :: vy_at RX9 178 "java/util/NoSuchElementException" "java/lang/RuntimeException" ["java/lang/Exception"], vx_ot w = true := by decide +kernel
  show V 1 0 [(0, .ref (ad 0)), (1, .int p1), (2, .int p2)] [] m
  refine r_aload_n C dX9_requireInView_0 rfl 0 rfl ?_
  refine r_iload_n C dX9_requireInView_1 rfl 1 rfl ?_
  refine r_iload_n C dX9_requireInView_2 rfl 2 rfl ?_
  refine r_callV C (c_X9_isInView nw hnw p1 p2) (As := [.int p1, .int p2]) (nn := 2) (stk := [.int p2, .int p1, .ref (ad 0)]) (ci := 9) dX9_requireInView_3 gX9_requireInView_X9_isInView ⟨rfl, by decide, by decide, by decide +kernel⟩ (by omega) la_0 rfl rfl rfl (by decide) rfl rfl (Nat.le_of_ble_eq_true rfl) (by decide) h (fun r1 m2 h => ?_)
  show V 1 6 [(0, .ref (ad 0)), (1, .int p1), (2, .int p2)] [.int r1] m2
  refine r_if_ne C (tgt := 20) dX9_requireInView_6 (by decide) h (fun _ h => ?_) (fun _ h => ?_)
  · skip
    exact r_throwNW C (text := "the view has no record with the key") dX9_requireInView_9 dX9_requireInView_12 dX9_requireInView_13 dX9_requireInView_16 dX9_requireInView_19 (by decide) (by decide) F_q174 F_u174 F_z178 F_y178 F_v178 (by decide +kernel) (by decide +kernel) (by decide) (Nat.le_of_ble_eq_true rfl) (by decide) h
  · skip
    exact r_vret C dX9_requireInView_20 rfl h
noncomputable def f_X9_valueInView (p1 : Int32) (p2 : Int32) (m : sM) : Option (sR Int32) :=
  s_ix p1 3 fun j1 => s_bd (f_X9_isIn (m.2 ((54 + 10 * j1) + 1) 1) p2 m) fun r2 m3 => s_jn (fun (s0_39 : Int32) => some (.inl s0_39, m3)) fun k39 => if r2 = 0 then (s_ix p2 64 fun j4 => k39 (m3.1 38 j4)) else (s_ix p2 64 fun j5 => k39 (m3.1 (((54 + 10 * j1) + 1) + 1) j5))
set_option maxRecDepth 20000 in
set_option maxHeartbeats 4000000 in
theorem c_X9_valueInView (nw : Nat) (hnw : 109 ≤ nw) (p1 : Int32) (p2 : Int32) : s_Con s_i 0 nw yX9_valueInView wsX9_valueInView 14 185 0 (f_X9_valueInView p1 p2) (fun ad => [.ref (ad 0), .int p1, .int p2]) := by
  refine s_con_of cX9_valueInView 4 (some .int) RX9 (by decide) rfl rfl (fun _ => Nat.le_of_ble_eq_true rfl) (fun ad m res V C h => ?_)
  unfold f_X9_valueInView at h
  have F_i9 : ∀ w ∈ wsX90, w ∈ wsX9_valueInView := by decide +kernel
  have F_k42 : Cond.fieldLink RX9 42 "ShadowFile" "slots" "[LShadowFile$Slot;" ∈ wsX9_valueInView := by decide +kernel
  have F_i7 : ∀ w ∈ wsX70, w ∈ wsX9_valueInView := by decide +kernel
  have F_k142 : Cond.fieldLink RX9 142 "ShadowFile$Slot" "changes" "LShadowFile$Changes;" ∈ wsX9_valueInView := by decide +kernel
  have F_i0 : ∀ w ∈ wsX00, w ∈ wsX9_valueInView := by decide +kernel
  have F_k216 : Cond.fieldLink RX9 216 "ShadowFile$Changes" "touched" "J" ∈ wsX9_valueInView := by decide +kernel
  have F_k19 : Cond.fieldLink RX9 19 "ShadowFile" "present" "LShadowFile$Version;" ∈ wsX9_valueInView := by decide +kernel
  have F_i8 : ∀ w ∈ wsX80, w ∈ wsX9_valueInView := by decide +kernel
  have F_k228 : Cond.fieldLink RX9 228 "ShadowFile$Version" "values" "[I" ∈ wsX9_valueInView := by decide +kernel
  have F_k219 : Cond.fieldLink RX9 219 "ShadowFile$Changes" "values" "[I" ∈ wsX9_valueInView := by decide +kernel
  show V 0 0 [(0, .ref (ad 0)), (1, .int p1), (2, .int p2)] [] m
  refine r_aload_n C dX9_valueInView_0 rfl 0 rfl ?_
  refine r_getr C (ci := 9) (k9 := 5) dX9_valueInView_1 rfl F_i9 (by decide) F_k42 (by omega) la_0 rfl ?_
  refine r_iload_n C dX9_valueInView_4 rfl 1 rfl ?_
  refine r_aald C (b0 := 54) (d0 := 10) dX9_valueInView_5 (by omega) la_53 (fun _ => rfl) rfl h (fun j1 hj1 h => ?_)
  refine r_getr C (ci := 7) (k9 := 0) dX9_valueInView_6 rfl F_i7 (by decide) F_k142 (by have := isSlt_b (isSlt_s hj1); omega) (isSlt_0 (isSlt_s hj1)) rfl ?_
  refine r_astore_n C dX9_valueInView_9 rfl (by decide) (show _ = [(3, .ref (ad ((54 + 10 * j1) + 1))), (0, .ref (ad 0)), (1, .int p1), (2, .int p2)] from rfl) ?_
  refine r_aload_n C dX9_valueInView_10 rfl 0 rfl ?_
  refine r_getl C (ci := 0) (k9 := 1) dX9_valueInView_11 rfl F_i0 (by decide) F_k216 (by have := isChg_b (isSlt_c (isSlt_s hj1)); omega) (isChg_0 (isSlt_c (isSlt_s hj1))) rfl ?_
  refine r_iload_n C dX9_valueInView_14 rfl 3 rfl ?_
  refine r_callS C (c_X9_isIn nw hnw (m.2 ((54 + 10 * j1) + 1) 1) p2) (As := [.long (m.2 ((54 + 10 * j1) + 1) 1), .int p2]) (nn := 2) (stk := [.int p2, .long (m.2 ((54 + 10 * j1) + 1) 1)]) dX9_valueInView_15 gX9_valueInView_X9_isIn ⟨by decide, by decide, by decide +kernel⟩ rfl rfl (by decide) rfl rfl (Nat.le_of_ble_eq_true rfl) (by decide) h (fun r2 m3 h => ?_)
  show V 0 18 [(3, .ref (ad ((54 + 10 * j1) + 1))), (0, .ref (ad 0)), (1, .int p1), (2, .int p2)] [.int r2] m3
  refine s_join h (fun k39 => ∀ (s0_39 : Int32), k39 s0_39 = some res → V 0 39 [] [.int s0_39] m3) ?_ (fun k39 hk39 h => ?_)
  · intro s0_39 h
    exact r_iret C dX9_valueInView_39 rfl h
  refine r_if_eq C (tgt := 30) dX9_valueInView_18 (by decide) h (fun _ h => ?_) (fun _ h => ?_)
  · skip
    refine r_aload_n C dX9_valueInView_30 rfl 1 rfl ?_
    refine r_getr C (ci := 9) (k9 := 1) dX9_valueInView_31 rfl F_i9 (by decide) F_k19 (by omega) la_0 rfl ?_
    refine r_getr C (ci := 8) (k9 := 1) dX9_valueInView_34 rfl F_i8 (by decide) F_k228 (by omega) la_36 rfl ?_
    refine r_iload_n C dX9_valueInView_37 rfl 3 rfl ?_
    refine r_iald C dX9_valueInView_38 (by omega) la_38 h (fun j4 hj4 h => ?_)
    refine r_sub C [] (show _ = [] from rfl) ?_
    exact hk39 (m3.1 38 j4) h
  · skip
    refine r_aload_n C dX9_valueInView_21 rfl 0 rfl ?_
    refine r_getr C (ci := 0) (k9 := 0) dX9_valueInView_22 rfl F_i0 (by decide) F_k219 (by have := isChg_b (isSlt_c (isSlt_s hj1)); omega) (isChg_0 (isSlt_c (isSlt_s hj1))) rfl ?_
    refine r_iload_n C dX9_valueInView_25 rfl 3 rfl ?_
    refine r_iald C dX9_valueInView_26 (by have := isChg_b (isSlt_c (isSlt_s hj1)); omega) (isChg_1 (isSlt_c (isSlt_s hj1))) h (fun j5 hj5 h => ?_)
    refine r_goto C (tgt := 39) dX9_valueInView_27 (by decide) ?_
    refine r_sub C [] (show _ = [] from rfl) ?_
    exact hk39 (m3.1 (((54 + 10 * j1) + 1) + 1) j5) h
noncomputable def f_X0_drop (a : Nat) (p1 : Int32) (m : sM) : Option (sR Unit) :=
  s_bd (f_X9_setOf p1 m) fun r1 m2 => s_md (s_uL m2 a 1 ((m.2 a 1) ||| r1)) fun m3 => s_bd (f_X9_setOf p1 m3) fun r4 m5 => s_md (s_uL m5 a 2 ((m3.2 a 2) ||| r4)) fun m6 => some (.inl (), m6)
set_option maxRecDepth 20000 in
set_option maxHeartbeats 4000000 in
theorem c_X0_drop (nw : Nat) (hnw : 109 ≤ nw) (a : Nat) (p1 : Int32) (ha : isChg a) : s_Con s_u 0 nw yX0_drop wsX0_drop 14 185 0 (f_X0_drop a p1) (fun ad => [.ref (ad a), .int p1]) := by
  refine s_con_of cX0_drop 2 none RX0 (by decide) rfl rfl (fun _ => Nat.le_of_ble_eq_true rfl) (fun ad m res V C h => ?_)
  unfold f_X0_drop at h
  have F_i0 : ∀ w ∈ wsX00, w ∈ wsX0_drop := by decide +kernel
  have F_k15 : Cond.fieldLink RX0 15 "ShadowFile$Changes" "touched" "J" ∈ wsX0_drop := by decide +kernel
  have F_tyX9_setOf : Cond.static yX9_setOf ∈ wsX0_drop := by decide +kernel
  have F_nyX9_setOf : Cond.initialized RX9 ∈ wsX0_drop := by decide +kernel
  have F_k19 : Cond.fieldLink RX0 19 "ShadowFile$Changes" "removed" "J" ∈ wsX0_drop := by decide +kernel
  show V 0 0 [(0, .ref (ad a)), (1, .int p1)] [] m
  refine r_aload_n C dX0_drop_0 rfl 0 rfl ?_
  refine r_dup C dX0_drop_1 rfl ?_
  refine r_getl C (ci := 0) (k9 := 1) dX0_drop_2 rfl F_i0 (by decide) F_k15 (by have := isChg_b ha; omega) (isChg_0 ha) rfl ?_
  refine r_iload_n C dX0_drop_5 rfl 1 rfl ?_
  refine r_callN C (c_X9_setOf nw hnw p1) (host := RX9) (As := [.int p1]) (nn := 1) (stk := [.int p1, .long (m.2 a 1), .ref (ad a)]) dX0_drop_6 gX0_drop_X9_setOf_n22 (by decide +kernel) F_tyX9_setOf F_nyX9_setOf ⟨by decide, by decide, by decide +kernel⟩ rfl rfl (by decide) rfl rfl (Nat.le_of_ble_eq_true rfl) (by decide) h (fun r1 m2 h => ?_)
  show V 0 9 [(0, .ref (ad a)), (1, .int p1)] [.long r1, .long (m.2 a 1), .ref (ad a)] m2
  refine r_lor C dX0_drop_9 ?_
  refine r_putl C (ci := 0) (k9 := 1) dX0_drop_10 rfl F_i0 (by decide) F_k15 (by have := isChg_b ha; omega) (isChg_0 ha) rfl tyX0 tyX0_ok nmX0 rfl (tyX0_ok 1 (by decide)) rfl rfl h (fun m3 _ h => ?_)
  refine r_aload_n C dX0_drop_13 rfl 0 rfl ?_
  refine r_dup C dX0_drop_14 rfl ?_
  refine r_getl C (ci := 0) (k9 := 2) dX0_drop_15 rfl F_i0 (by decide) F_k19 (by have := isChg_b ha; omega) (isChg_0 ha) rfl ?_
  refine r_iload_n C dX0_drop_18 rfl 1 rfl ?_
  refine r_callN C (c_X9_setOf nw hnw p1) (host := RX9) (As := [.int p1]) (nn := 1) (stk := [.int p1, .long (m3.2 a 2), .ref (ad a)]) dX0_drop_19 gX0_drop_X9_setOf_n22 (by decide +kernel) F_tyX9_setOf F_nyX9_setOf ⟨by decide, by decide, by decide +kernel⟩ rfl rfl (by decide) rfl rfl (Nat.le_of_ble_eq_true rfl) (by decide) h (fun r4 m5 h => ?_)
  show V 0 22 [(0, .ref (ad a)), (1, .int p1)] [.long r4, .long (m3.2 a 2), .ref (ad a)] m5
  refine r_lor C dX0_drop_22 ?_
  refine r_putl C (ci := 0) (k9 := 2) dX0_drop_23 rfl F_i0 (by decide) F_k19 (by have := isChg_b ha; omega) (isChg_0 ha) rfl tyX0 tyX0_ok nmX0 rfl (tyX0_ok 2 (by decide)) rfl rfl h (fun m6 _ h => ?_)
  exact r_vret C dX0_drop_26 rfl h
noncomputable def f_X9_remove (p1 : Int32) (p2 : Int32) (m : sM) : Option (sR Int32) :=
  s_bd (f_X9_requireSlot p1 m) fun r1 m2 => s_bd (f_X9_requireKey p2 m2) fun r3 m4 => s_bd (f_X9_requireActive p1 m4) fun r5 m6 => s_bd (f_X9_requireInView p1 p2 m6) fun r7 m8 => s_bd (f_X9_valueInView p1 p2 m8) fun r9 m10 => s_ix p1 3 fun j11 => s_bd (f_X0_drop ((54 + 10 * j11) + 1) p2 m10) fun r12 m13 => some (.inl r9, m13)
set_option maxRecDepth 20000 in
set_option maxHeartbeats 4000000 in
theorem c_X9_remove (nw : Nat) (hnw : 109 ≤ nw) (p1 : Int32) (p2 : Int32) : s_Con s_i 0 nw yX9_remove wsX9_remove 18 275 4 (f_X9_remove p1 p2) (fun ad => [.ref (ad 0), .int p1, .int p2]) := by
  refine s_con_of cX9_remove 4 (some .int) RX9 (by decide) rfl rfl (fun _ => Nat.le_of_ble_eq_true rfl) (fun ad m res V C h => ?_)
  unfold f_X9_remove at h
  have F_i9 : ∀ w ∈ wsX90, w ∈ wsX9_remove := by decide +kernel
  have F_k42 : Cond.fieldLink RX9 42 "ShadowFile" "slots" "[LShadowFile$Slot;" ∈ wsX9_remove := by decide +kernel
  have F_i7 : ∀ w ∈ wsX70, w ∈ wsX9_remove := by decide +kernel
  have F_k142 : Cond.fieldLink RX9 142 "ShadowFile$Slot" "changes" "LShadowFile$Changes;" ∈ wsX9_remove := by decide +kernel
  show V 4 0 [(0, .ref (ad 0)), (1, .int p1), (2, .int p2)] [] m
  refine r_iload_n C dX9_remove_0 rfl 1 rfl ?_
  refine r_callS C (c_X9_requireSlot nw hnw p1) (As := [.int p1]) (nn := 1) (stk := [.int p1]) dX9_remove_1 gX9_remove_X9_requireSlot ⟨by decide, by decide, by decide +kernel⟩ rfl rfl (by decide) rfl rfl (Nat.le_of_ble_eq_true rfl) (by decide) h (fun r1 m2 h => ?_)
  show V 3 4 [(0, .ref (ad 0)), (1, .int p1), (2, .int p2)] [] m2
  refine r_iload_n C dX9_remove_4 rfl 2 rfl ?_
  refine r_callS C (c_X9_requireKey nw hnw p2) (As := [.int p2]) (nn := 1) (stk := [.int p2]) dX9_remove_5 gX9_remove_X9_requireKey ⟨by decide, by decide, by decide +kernel⟩ rfl rfl (by decide) rfl rfl (Nat.le_of_ble_eq_true rfl) (by decide) h (fun r3 m4 h => ?_)
  show V 2 8 [(0, .ref (ad 0)), (1, .int p1), (2, .int p2)] [] m4
  refine r_aload_n C dX9_remove_8 rfl 0 rfl ?_
  refine r_iload_n C dX9_remove_9 rfl 1 rfl ?_
  refine r_callV C (c_X9_requireActive nw hnw p1) (As := [.int p1]) (nn := 1) (stk := [.int p1, .ref (ad 0)]) (ci := 9) dX9_remove_10 gX9_remove_X9_requireActive ⟨rfl, by decide, by decide, by decide +kernel⟩ (by omega) la_0 rfl rfl rfl (by decide) rfl rfl (Nat.le_of_ble_eq_true rfl) (by decide) h (fun r5 m6 h => ?_)
  show V 1 13 [(0, .ref (ad 0)), (1, .int p1), (2, .int p2)] [] m6
  refine r_aload_n C dX9_remove_13 rfl 0 rfl ?_
  refine r_iload_n C dX9_remove_14 rfl 1 rfl ?_
  refine r_iload_n C dX9_remove_15 rfl 2 rfl ?_
  refine r_callV C (c_X9_requireInView nw hnw p1 p2) (As := [.int p1, .int p2]) (nn := 2) (stk := [.int p2, .int p1, .ref (ad 0)]) (ci := 9) dX9_remove_16 gX9_remove_X9_requireInView ⟨rfl, by decide, by decide, by decide +kernel⟩ (by omega) la_0 rfl rfl rfl (by decide) rfl rfl (Nat.le_of_ble_eq_true rfl) (by decide) h (fun r7 m8 h => ?_)
  show V 0 19 [(0, .ref (ad 0)), (1, .int p1), (2, .int p2)] [] m8
  refine r_aload_n C dX9_remove_19 rfl 0 rfl ?_
  refine r_iload_n C dX9_remove_20 rfl 1 rfl ?_
  refine r_iload_n C dX9_remove_21 rfl 2 rfl ?_
  refine r_callV C (c_X9_valueInView nw hnw p1 p2) (As := [.int p1, .int p2]) (nn := 2) (stk := [.int p2, .int p1, .ref (ad 0)]) (ci := 9) dX9_remove_22 gX9_remove_X9_valueInView ⟨rfl, by decide, by decide, by decide +kernel⟩ (by omega) la_0 rfl rfl rfl (by decide) rfl rfl (Nat.le_of_ble_eq_true rfl) (by decide) h (fun r9 m10 h => ?_)
  show V 0 25 [(0, .ref (ad 0)), (1, .int p1), (2, .int p2)] [.int r9] m10
  refine r_istore_n C dX9_remove_25 rfl (by decide) (show _ = [(3, .int r9), (0, .ref (ad 0)), (1, .int p1), (2, .int p2)] from rfl) ?_
  refine r_aload_n C dX9_remove_26 rfl 1 rfl ?_
  refine r_getr C (ci := 9) (k9 := 5) dX9_remove_27 rfl F_i9 (by decide) F_k42 (by omega) la_0 rfl ?_
  refine r_iload_n C dX9_remove_30 rfl 2 rfl ?_
  refine r_aald C (b0 := 54) (d0 := 10) dX9_remove_31 (by omega) la_53 (fun _ => rfl) rfl h (fun j11 hj11 h => ?_)
  refine r_getr C (ci := 7) (k9 := 0) dX9_remove_32 rfl F_i7 (by decide) F_k142 (by have := isSlt_b (isSlt_s hj11); omega) (isSlt_0 (isSlt_s hj11)) rfl ?_
  refine r_iload_n C dX9_remove_35 rfl 3 rfl ?_
  refine r_callV C (c_X0_drop nw hnw ((54 + 10 * j11) + 1) p2 (isSlt_c (isSlt_s hj11))) (As := [.int p2]) (nn := 1) (stk := [.int p2, .ref (ad ((54 + 10 * j11) + 1))]) (ci := 0) dX9_remove_36 gX9_remove_X0_drop ⟨rfl, by decide, by decide, by decide +kernel⟩ (by have := isChg_b (isSlt_c (isSlt_s hj11)); omega) (isChg_0 (isSlt_c (isSlt_s hj11))) rfl rfl rfl (by decide) rfl rfl (Nat.le_of_ble_eq_true rfl) (by decide) h (fun r12 m13 h => ?_)
  show V 0 39 [(3, .int r9), (0, .ref (ad 0)), (1, .int p1), (2, .int p2)] [] m13
  refine r_iload_n C dX9_remove_39 rfl 0 rfl ?_
  exact r_iret C dX9_remove_40 rfl h
noncomputable def f_X9_requireNotIdle (p1 : Int32) (m : sM) : Option (sR Unit) :=
  s_ix p1 3 fun j1 => if (m.1 (54 + 10 * j1) 3) = 0 then (some (.inr "java/lang/IllegalStateException", m)) else (some (.inl (), m))
set_option maxRecDepth 20000 in
set_option maxHeartbeats 4000000 in
theorem c_X9_requireNotIdle (nw : Nat) (hnw : 109 ≤ nw) (p1 : Int32) : s_Con s_u 0 nw yX9_requireNotIdle wsX9_requireNotIdle 12 140 1 (f_X9_requireNotIdle p1) (fun ad => [.ref (ad 0), .int p1]) := by
  refine s_con_of cX9_requireNotIdle 2 none RX9 (by decide) rfl rfl (fun _ => Nat.le_of_ble_eq_true rfl) (fun ad m res V C h => ?_)
  unfold f_X9_requireNotIdle at h
  have F_i9 : ∀ w ∈ wsX90, w ∈ wsX9_requireNotIdle := by decide +kernel
  have F_k42 : Cond.fieldLink RX9 42 "ShadowFile" "slots" "[LShadowFile$Slot;" ∈ wsX9_requireNotIdle := by decide +kernel
  have F_i7 : ∀ w ∈ wsX70, w ∈ wsX9_requireNotIdle := by decide +kernel
  have F_k110 : Cond.fieldLink RX9 110 "ShadowFile$Slot" "state" "I" ∈ wsX9_requireNotIdle := by decide +kernel
  have F_q117 : Cond.classLink RX9 117 "java/lang/IllegalStateException" ∈ wsX9_requireNotIdle := by decide +kernel
  have F_u117 : Cond.initialized "java/lang/IllegalStateException" ∈ wsX9_requireNotIdle := by decide +kernel
  have F_z121 : ∀ w ∈ (vx_atS RX9 121 "java/lang/IllegalStateException" ["java/lang/RuntimeException", "java/lang/Exception"]).filter goodWord, w ∈ wsX9_requireNotIdle := by decide +kernel
  have F_y121 : ∀ w ∈ (vx_atS RX9 121 "java/lang/IllegalStateException" ["java/lang/RuntimeException", "java/lang/Exception"]).filter (fun w => !goodWord w), w ∈ Cond.castable "java/lang/IllegalStateException" "java/lang/IllegalStateException" :: s_dec.map Cond.declares := by decide +kernel
  have F_v121 : ∀ w ∈ Cond.classLink RX9 117 "java/lang/IllegalStateException" :: Cond.initialized "java/lang/IllegalStateException" :: vx_atS RX9 121 "java/lang/IllegalStateException" ["java/lang/RuntimeException", "java/lang/Exception"], vx_ot w = true := by decide +kernel
  show V 1 0 [(0, .ref (ad 0)), (1, .int p1)] [] m
  refine r_aload_n C dX9_requireNotIdle_0 rfl 0 rfl ?_
  refine r_getr C (ci := 9) (k9 := 5) dX9_requireNotIdle_1 rfl F_i9 (by decide) F_k42 (by omega) la_0 rfl ?_
  refine r_iload_n C dX9_requireNotIdle_4 rfl 1 rfl ?_
  refine r_aald C (b0 := 54) (d0 := 10) dX9_requireNotIdle_5 (by omega) la_53 (fun _ => rfl) rfl h (fun j1 hj1 h => ?_)
  refine r_geti C (ci := 7) (k9 := 3) dX9_requireNotIdle_6 rfl F_i7 (by decide) F_k110 (by have := isSlt_b (isSlt_s hj1); omega) (isSlt_0 (isSlt_s hj1)) rfl ?_
  refine r_if_ne C (tgt := 23) dX9_requireNotIdle_9 (by decide) h (fun _ h => ?_) (fun _ h => ?_)
  · skip
    exact r_throwW C (text := "the slot is idle") (names := ["java/lang/RuntimeException", "java/lang/Exception"]) dX9_requireNotIdle_12 dX9_requireNotIdle_15 dX9_requireNotIdle_16 dX9_requireNotIdle_19 dX9_requireNotIdle_22 (by decide) (by decide) F_q117 F_u117 F_z121 F_y121 F_v121 (by decide +kernel) (by decide +kernel) (by decide) (Nat.le_of_ble_eq_true rfl) (by decide) h
  · skip
    exact r_vret C dX9_requireNotIdle_23 rfl h
noncomputable def f_X9_get (p1 : Int32) (p2 : Int32) (m : sM) : Option (sR Int32) :=
  s_bd (f_X9_requireSlot p1 m) fun r1 m2 => s_bd (f_X9_requireKey p2 m2) fun r3 m4 => s_bd (f_X9_requireNotIdle p1 m4) fun r5 m6 => s_bd (f_X9_requireInView p1 p2 m6) fun r7 m8 => s_bd (f_X9_valueInView p1 p2 m8) fun r9 m10 => some (.inl r9, m10)
set_option maxRecDepth 20000 in
set_option maxHeartbeats 4000000 in
theorem c_X9_get (nw : Nat) (hnw : 109 ≤ nw) (p1 : Int32) (p2 : Int32) : s_Con s_i 0 nw yX9_get wsX9_get 18 275 4 (f_X9_get p1 p2) (fun ad => [.ref (ad 0), .int p1, .int p2]) := by
  refine s_con_of cX9_get 3 (some .int) RX9 (by decide) rfl rfl (fun _ => Nat.le_of_ble_eq_true rfl) (fun ad m res V C h => ?_)
  unfold f_X9_get at h
  show V 4 0 [(0, .ref (ad 0)), (1, .int p1), (2, .int p2)] [] m
  refine r_iload_n C dX9_get_0 rfl 1 rfl ?_
  refine r_callS C (c_X9_requireSlot nw hnw p1) (As := [.int p1]) (nn := 1) (stk := [.int p1]) dX9_get_1 gX9_get_X9_requireSlot ⟨by decide, by decide, by decide +kernel⟩ rfl rfl (by decide) rfl rfl (Nat.le_of_ble_eq_true rfl) (by decide) h (fun r1 m2 h => ?_)
  show V 3 4 [(0, .ref (ad 0)), (1, .int p1), (2, .int p2)] [] m2
  refine r_iload_n C dX9_get_4 rfl 2 rfl ?_
  refine r_callS C (c_X9_requireKey nw hnw p2) (As := [.int p2]) (nn := 1) (stk := [.int p2]) dX9_get_5 gX9_get_X9_requireKey ⟨by decide, by decide, by decide +kernel⟩ rfl rfl (by decide) rfl rfl (Nat.le_of_ble_eq_true rfl) (by decide) h (fun r3 m4 h => ?_)
  show V 2 8 [(0, .ref (ad 0)), (1, .int p1), (2, .int p2)] [] m4
  refine r_aload_n C dX9_get_8 rfl 0 rfl ?_
  refine r_iload_n C dX9_get_9 rfl 1 rfl ?_
  refine r_callV C (c_X9_requireNotIdle nw hnw p1) (As := [.int p1]) (nn := 1) (stk := [.int p1, .ref (ad 0)]) (ci := 9) dX9_get_10 gX9_get_X9_requireNotIdle ⟨rfl, by decide, by decide, by decide +kernel⟩ (by omega) la_0 rfl rfl rfl (by decide) rfl rfl (Nat.le_of_ble_eq_true rfl) (by decide) h (fun r5 m6 h => ?_)
  show V 1 13 [(0, .ref (ad 0)), (1, .int p1), (2, .int p2)] [] m6
  refine r_aload_n C dX9_get_13 rfl 0 rfl ?_
  refine r_iload_n C dX9_get_14 rfl 1 rfl ?_
  refine r_iload_n C dX9_get_15 rfl 2 rfl ?_
  refine r_callV C (c_X9_requireInView nw hnw p1 p2) (As := [.int p1, .int p2]) (nn := 2) (stk := [.int p2, .int p1, .ref (ad 0)]) (ci := 9) dX9_get_16 gX9_get_X9_requireInView ⟨rfl, by decide, by decide, by decide +kernel⟩ (by omega) la_0 rfl rfl rfl (by decide) rfl rfl (Nat.le_of_ble_eq_true rfl) (by decide) h (fun r7 m8 h => ?_)
  show V 0 19 [(0, .ref (ad 0)), (1, .int p1), (2, .int p2)] [] m8
  refine r_aload_n C dX9_get_19 rfl 0 rfl ?_
  refine r_iload_n C dX9_get_20 rfl 1 rfl ?_
  refine r_iload_n C dX9_get_21 rfl 2 rfl ?_
  refine r_callV C (c_X9_valueInView nw hnw p1 p2) (As := [.int p1, .int p2]) (nn := 2) (stk := [.int p2, .int p1, .ref (ad 0)]) (ci := 9) dX9_get_22 gX9_get_X9_valueInView ⟨rfl, by decide, by decide, by decide +kernel⟩ (by omega) la_0 rfl rfl rfl (by decide) rfl rfl (Nat.le_of_ble_eq_true rfl) (by decide) h (fun r9 m10 h => ?_)
  show V 0 25 [(0, .ref (ad 0)), (1, .int p1), (2, .int p2)] [.int r9] m10
  exact r_iret C dX9_get_25 rfl h
noncomputable def f_J13_bitCount_95d88 (p0 : Int64) (m : sM) : Option (sR Int32) :=
  some (.inl ((Int64.toInt32 ((((((((p0 - ((s_lushr p0 1) &&& 6148914691236517205)) &&& 3689348814741910323) + ((s_lushr (p0 - ((s_lushr p0 1) &&& 6148914691236517205)) 2) &&& 3689348814741910323)) + (s_lushr (((p0 - ((s_lushr p0 1) &&& 6148914691236517205)) &&& 3689348814741910323) + ((s_lushr (p0 - ((s_lushr p0 1) &&& 6148914691236517205)) 2) &&& 3689348814741910323)) 4)) &&& 1085102592571150095) + (s_lushr (((((p0 - ((s_lushr p0 1) &&& 6148914691236517205)) &&& 3689348814741910323) + ((s_lushr (p0 - ((s_lushr p0 1) &&& 6148914691236517205)) 2) &&& 3689348814741910323)) + (s_lushr (((p0 - ((s_lushr p0 1) &&& 6148914691236517205)) &&& 3689348814741910323) + ((s_lushr (p0 - ((s_lushr p0 1) &&& 6148914691236517205)) 2) &&& 3689348814741910323)) 4)) &&& 1085102592571150095) 8)) + (s_lushr ((((((p0 - ((s_lushr p0 1) &&& 6148914691236517205)) &&& 3689348814741910323) + ((s_lushr (p0 - ((s_lushr p0 1) &&& 6148914691236517205)) 2) &&& 3689348814741910323)) + (s_lushr (((p0 - ((s_lushr p0 1) &&& 6148914691236517205)) &&& 3689348814741910323) + ((s_lushr (p0 - ((s_lushr p0 1) &&& 6148914691236517205)) 2) &&& 3689348814741910323)) 4)) &&& 1085102592571150095) + (s_lushr (((((p0 - ((s_lushr p0 1) &&& 6148914691236517205)) &&& 3689348814741910323) + ((s_lushr (p0 - ((s_lushr p0 1) &&& 6148914691236517205)) 2) &&& 3689348814741910323)) + (s_lushr (((p0 - ((s_lushr p0 1) &&& 6148914691236517205)) &&& 3689348814741910323) + ((s_lushr (p0 - ((s_lushr p0 1) &&& 6148914691236517205)) 2) &&& 3689348814741910323)) 4)) &&& 1085102592571150095) 8)) 16)) + (s_lushr (((((((p0 - ((s_lushr p0 1) &&& 6148914691236517205)) &&& 3689348814741910323) + ((s_lushr (p0 - ((s_lushr p0 1) &&& 6148914691236517205)) 2) &&& 3689348814741910323)) + (s_lushr (((p0 - ((s_lushr p0 1) &&& 6148914691236517205)) &&& 3689348814741910323) + ((s_lushr (p0 - ((s_lushr p0 1) &&& 6148914691236517205)) 2) &&& 3689348814741910323)) 4)) &&& 1085102592571150095) + (s_lushr (((((p0 - ((s_lushr p0 1) &&& 6148914691236517205)) &&& 3689348814741910323) + ((s_lushr (p0 - ((s_lushr p0 1) &&& 6148914691236517205)) 2) &&& 3689348814741910323)) + (s_lushr (((p0 - ((s_lushr p0 1) &&& 6148914691236517205)) &&& 3689348814741910323) + ((s_lushr (p0 - ((s_lushr p0 1) &&& 6148914691236517205)) 2) &&& 3689348814741910323)) 4)) &&& 1085102592571150095) 8)) + (s_lushr ((((((p0 - ((s_lushr p0 1) &&& 6148914691236517205)) &&& 3689348814741910323) + ((s_lushr (p0 - ((s_lushr p0 1) &&& 6148914691236517205)) 2) &&& 3689348814741910323)) + (s_lushr (((p0 - ((s_lushr p0 1) &&& 6148914691236517205)) &&& 3689348814741910323) + ((s_lushr (p0 - ((s_lushr p0 1) &&& 6148914691236517205)) 2) &&& 3689348814741910323)) 4)) &&& 1085102592571150095) + (s_lushr (((((p0 - ((s_lushr p0 1) &&& 6148914691236517205)) &&& 3689348814741910323) + ((s_lushr (p0 - ((s_lushr p0 1) &&& 6148914691236517205)) 2) &&& 3689348814741910323)) + (s_lushr (((p0 - ((s_lushr p0 1) &&& 6148914691236517205)) &&& 3689348814741910323) + ((s_lushr (p0 - ((s_lushr p0 1) &&& 6148914691236517205)) 2) &&& 3689348814741910323)) 4)) &&& 1085102592571150095) 8)) 16)) 32))) &&& 127), m)
set_option maxRecDepth 20000 in
set_option maxHeartbeats 4000000 in
theorem c_J13_bitCount_95d88 (nw : Nat) (hnw : 109 ≤ nw) (p0 : Int64) : s_Con s_i 0 nw yJ13_bitCount_95d88 wsJ13_bitCount_95d88 12 140 0 (f_J13_bitCount_95d88 p0) (fun ad => [.long p0]) := by
  refine s_con_of cJ13_bitCount_95d88 2 (some .int) RJ13 (by decide) rfl rfl (fun _ => Nat.le_of_ble_eq_true rfl) (fun ad m res V C h => ?_)
  unfold f_J13_bitCount_95d88 at h
  have F_w314 : Cond.constantLong RJ13 314 (6148914691236517205) ∈ wsJ13_bitCount_95d88 := by decide +kernel
  have F_w316 : Cond.constantLong RJ13 316 (3689348814741910323) ∈ wsJ13_bitCount_95d88 := by decide +kernel
  have F_w318 : Cond.constantLong RJ13 318 (1085102592571150095) ∈ wsJ13_bitCount_95d88 := by decide +kernel
  show V 0 0 [(0, .long p0)] [] m
  refine r_lload_n C dJ13_bitCount_95d88_0 rfl 0 rfl ?_
  refine r_lload_n C dJ13_bitCount_95d88_1 rfl 0 rfl ?_
  refine r_iconst C (v := 1) dJ13_bitCount_95d88_2 (by decide) ?_
  refine r_lushr C dJ13_bitCount_95d88_3 ?_
  refine r_ldc2 C dJ13_bitCount_95d88_4 F_w314 ?_
  refine r_land C dJ13_bitCount_95d88_7 ?_
  refine r_lsub C dJ13_bitCount_95d88_8 ?_
  refine r_lstore_n C dJ13_bitCount_95d88_9 rfl (by decide) (show _ = [(0, .long (p0 - ((s_lushr p0 1) &&& 6148914691236517205)))] from rfl) ?_
  refine r_lload_n C dJ13_bitCount_95d88_10 rfl 0 rfl ?_
  refine r_ldc2 C dJ13_bitCount_95d88_11 F_w316 ?_
  refine r_land C dJ13_bitCount_95d88_14 ?_
  refine r_lload_n C dJ13_bitCount_95d88_15 rfl 0 rfl ?_
  refine r_iconst C (v := 2) dJ13_bitCount_95d88_16 (by decide) ?_
  refine r_lushr C dJ13_bitCount_95d88_17 ?_
  refine r_ldc2 C dJ13_bitCount_95d88_18 F_w316 ?_
  refine r_land C dJ13_bitCount_95d88_21 ?_
  refine r_ladd C dJ13_bitCount_95d88_22 ?_
  refine r_lstore_n C dJ13_bitCount_95d88_23 rfl (by decide) (show _ = [(0, .long (((p0 - ((s_lushr p0 1) &&& 6148914691236517205)) &&& 3689348814741910323) + ((s_lushr (p0 - ((s_lushr p0 1) &&& 6148914691236517205)) 2) &&& 3689348814741910323)))] from rfl) ?_
  refine r_lload_n C dJ13_bitCount_95d88_24 rfl 0 rfl ?_
  refine r_lload_n C dJ13_bitCount_95d88_25 rfl 0 rfl ?_
  refine r_iconst C (v := 4) dJ13_bitCount_95d88_26 (by decide) ?_
  refine r_lushr C dJ13_bitCount_95d88_27 ?_
  refine r_ladd C dJ13_bitCount_95d88_28 ?_
  refine r_ldc2 C dJ13_bitCount_95d88_29 F_w318 ?_
  refine r_land C dJ13_bitCount_95d88_32 ?_
  refine r_lstore_n C dJ13_bitCount_95d88_33 rfl (by decide) (show _ = [(0, .long (((((p0 - ((s_lushr p0 1) &&& 6148914691236517205)) &&& 3689348814741910323) + ((s_lushr (p0 - ((s_lushr p0 1) &&& 6148914691236517205)) 2) &&& 3689348814741910323)) + (s_lushr (((p0 - ((s_lushr p0 1) &&& 6148914691236517205)) &&& 3689348814741910323) + ((s_lushr (p0 - ((s_lushr p0 1) &&& 6148914691236517205)) 2) &&& 3689348814741910323)) 4)) &&& 1085102592571150095))] from rfl) ?_
  refine r_lload_n C dJ13_bitCount_95d88_34 rfl 0 rfl ?_
  refine r_lload_n C dJ13_bitCount_95d88_35 rfl 0 rfl ?_
  refine r_bipush C (v := 8) dJ13_bitCount_95d88_36 (by decide) ?_
  refine r_lushr C dJ13_bitCount_95d88_38 ?_
  refine r_ladd C dJ13_bitCount_95d88_39 ?_
  refine r_lstore_n C dJ13_bitCount_95d88_40 rfl (by decide) (show _ = [(0, .long ((((((p0 - ((s_lushr p0 1) &&& 6148914691236517205)) &&& 3689348814741910323) + ((s_lushr (p0 - ((s_lushr p0 1) &&& 6148914691236517205)) 2) &&& 3689348814741910323)) + (s_lushr (((p0 - ((s_lushr p0 1) &&& 6148914691236517205)) &&& 3689348814741910323) + ((s_lushr (p0 - ((s_lushr p0 1) &&& 6148914691236517205)) 2) &&& 3689348814741910323)) 4)) &&& 1085102592571150095) + (s_lushr (((((p0 - ((s_lushr p0 1) &&& 6148914691236517205)) &&& 3689348814741910323) + ((s_lushr (p0 - ((s_lushr p0 1) &&& 6148914691236517205)) 2) &&& 3689348814741910323)) + (s_lushr (((p0 - ((s_lushr p0 1) &&& 6148914691236517205)) &&& 3689348814741910323) + ((s_lushr (p0 - ((s_lushr p0 1) &&& 6148914691236517205)) 2) &&& 3689348814741910323)) 4)) &&& 1085102592571150095) 8)))] from rfl) ?_
  refine r_lload_n C dJ13_bitCount_95d88_41 rfl 0 rfl ?_
  refine r_lload_n C dJ13_bitCount_95d88_42 rfl 0 rfl ?_
  refine r_bipush C (v := 16) dJ13_bitCount_95d88_43 (by decide) ?_
  refine r_lushr C dJ13_bitCount_95d88_45 ?_
  refine r_ladd C dJ13_bitCount_95d88_46 ?_
  refine r_lstore_n C dJ13_bitCount_95d88_47 rfl (by decide) (show _ = [(0, .long (((((((p0 - ((s_lushr p0 1) &&& 6148914691236517205)) &&& 3689348814741910323) + ((s_lushr (p0 - ((s_lushr p0 1) &&& 6148914691236517205)) 2) &&& 3689348814741910323)) + (s_lushr (((p0 - ((s_lushr p0 1) &&& 6148914691236517205)) &&& 3689348814741910323) + ((s_lushr (p0 - ((s_lushr p0 1) &&& 6148914691236517205)) 2) &&& 3689348814741910323)) 4)) &&& 1085102592571150095) + (s_lushr (((((p0 - ((s_lushr p0 1) &&& 6148914691236517205)) &&& 3689348814741910323) + ((s_lushr (p0 - ((s_lushr p0 1) &&& 6148914691236517205)) 2) &&& 3689348814741910323)) + (s_lushr (((p0 - ((s_lushr p0 1) &&& 6148914691236517205)) &&& 3689348814741910323) + ((s_lushr (p0 - ((s_lushr p0 1) &&& 6148914691236517205)) 2) &&& 3689348814741910323)) 4)) &&& 1085102592571150095) 8)) + (s_lushr ((((((p0 - ((s_lushr p0 1) &&& 6148914691236517205)) &&& 3689348814741910323) + ((s_lushr (p0 - ((s_lushr p0 1) &&& 6148914691236517205)) 2) &&& 3689348814741910323)) + (s_lushr (((p0 - ((s_lushr p0 1) &&& 6148914691236517205)) &&& 3689348814741910323) + ((s_lushr (p0 - ((s_lushr p0 1) &&& 6148914691236517205)) 2) &&& 3689348814741910323)) 4)) &&& 1085102592571150095) + (s_lushr (((((p0 - ((s_lushr p0 1) &&& 6148914691236517205)) &&& 3689348814741910323) + ((s_lushr (p0 - ((s_lushr p0 1) &&& 6148914691236517205)) 2) &&& 3689348814741910323)) + (s_lushr (((p0 - ((s_lushr p0 1) &&& 6148914691236517205)) &&& 3689348814741910323) + ((s_lushr (p0 - ((s_lushr p0 1) &&& 6148914691236517205)) 2) &&& 3689348814741910323)) 4)) &&& 1085102592571150095) 8)) 16)))] from rfl) ?_
  refine r_lload_n C dJ13_bitCount_95d88_48 rfl 0 rfl ?_
  refine r_lload_n C dJ13_bitCount_95d88_49 rfl 0 rfl ?_
  refine r_bipush C (v := 32) dJ13_bitCount_95d88_50 (by decide) ?_
  refine r_lushr C dJ13_bitCount_95d88_52 ?_
  refine r_ladd C dJ13_bitCount_95d88_53 ?_
  refine r_lstore_n C dJ13_bitCount_95d88_54 rfl (by decide) (show _ = [(0, .long ((((((((p0 - ((s_lushr p0 1) &&& 6148914691236517205)) &&& 3689348814741910323) + ((s_lushr (p0 - ((s_lushr p0 1) &&& 6148914691236517205)) 2) &&& 3689348814741910323)) + (s_lushr (((p0 - ((s_lushr p0 1) &&& 6148914691236517205)) &&& 3689348814741910323) + ((s_lushr (p0 - ((s_lushr p0 1) &&& 6148914691236517205)) 2) &&& 3689348814741910323)) 4)) &&& 1085102592571150095) + (s_lushr (((((p0 - ((s_lushr p0 1) &&& 6148914691236517205)) &&& 3689348814741910323) + ((s_lushr (p0 - ((s_lushr p0 1) &&& 6148914691236517205)) 2) &&& 3689348814741910323)) + (s_lushr (((p0 - ((s_lushr p0 1) &&& 6148914691236517205)) &&& 3689348814741910323) + ((s_lushr (p0 - ((s_lushr p0 1) &&& 6148914691236517205)) 2) &&& 3689348814741910323)) 4)) &&& 1085102592571150095) 8)) + (s_lushr ((((((p0 - ((s_lushr p0 1) &&& 6148914691236517205)) &&& 3689348814741910323) + ((s_lushr (p0 - ((s_lushr p0 1) &&& 6148914691236517205)) 2) &&& 3689348814741910323)) + (s_lushr (((p0 - ((s_lushr p0 1) &&& 6148914691236517205)) &&& 3689348814741910323) + ((s_lushr (p0 - ((s_lushr p0 1) &&& 6148914691236517205)) 2) &&& 3689348814741910323)) 4)) &&& 1085102592571150095) + (s_lushr (((((p0 - ((s_lushr p0 1) &&& 6148914691236517205)) &&& 3689348814741910323) + ((s_lushr (p0 - ((s_lushr p0 1) &&& 6148914691236517205)) 2) &&& 3689348814741910323)) + (s_lushr (((p0 - ((s_lushr p0 1) &&& 6148914691236517205)) &&& 3689348814741910323) + ((s_lushr (p0 - ((s_lushr p0 1) &&& 6148914691236517205)) 2) &&& 3689348814741910323)) 4)) &&& 1085102592571150095) 8)) 16)) + (s_lushr (((((((p0 - ((s_lushr p0 1) &&& 6148914691236517205)) &&& 3689348814741910323) + ((s_lushr (p0 - ((s_lushr p0 1) &&& 6148914691236517205)) 2) &&& 3689348814741910323)) + (s_lushr (((p0 - ((s_lushr p0 1) &&& 6148914691236517205)) &&& 3689348814741910323) + ((s_lushr (p0 - ((s_lushr p0 1) &&& 6148914691236517205)) 2) &&& 3689348814741910323)) 4)) &&& 1085102592571150095) + (s_lushr (((((p0 - ((s_lushr p0 1) &&& 6148914691236517205)) &&& 3689348814741910323) + ((s_lushr (p0 - ((s_lushr p0 1) &&& 6148914691236517205)) 2) &&& 3689348814741910323)) + (s_lushr (((p0 - ((s_lushr p0 1) &&& 6148914691236517205)) &&& 3689348814741910323) + ((s_lushr (p0 - ((s_lushr p0 1) &&& 6148914691236517205)) 2) &&& 3689348814741910323)) 4)) &&& 1085102592571150095) 8)) + (s_lushr ((((((p0 - ((s_lushr p0 1) &&& 6148914691236517205)) &&& 3689348814741910323) + ((s_lushr (p0 - ((s_lushr p0 1) &&& 6148914691236517205)) 2) &&& 3689348814741910323)) + (s_lushr (((p0 - ((s_lushr p0 1) &&& 6148914691236517205)) &&& 3689348814741910323) + ((s_lushr (p0 - ((s_lushr p0 1) &&& 6148914691236517205)) 2) &&& 3689348814741910323)) 4)) &&& 1085102592571150095) + (s_lushr (((((p0 - ((s_lushr p0 1) &&& 6148914691236517205)) &&& 3689348814741910323) + ((s_lushr (p0 - ((s_lushr p0 1) &&& 6148914691236517205)) 2) &&& 3689348814741910323)) + (s_lushr (((p0 - ((s_lushr p0 1) &&& 6148914691236517205)) &&& 3689348814741910323) + ((s_lushr (p0 - ((s_lushr p0 1) &&& 6148914691236517205)) 2) &&& 3689348814741910323)) 4)) &&& 1085102592571150095) 8)) 16)) 32)))] from rfl) ?_
  refine r_lload_n C dJ13_bitCount_95d88_55 rfl 0 rfl ?_
  refine r_l2i C dJ13_bitCount_95d88_56 ?_
  refine r_bipush C (v := 127) dJ13_bitCount_95d88_57 (by decide) ?_
  refine r_iand C dJ13_bitCount_95d88_59 ?_
  exact r_iret C dJ13_bitCount_95d88_60 rfl h
noncomputable def f_X0_count (a : Nat) (m : sM) : Option (sR Int32) :=
  s_bd (f_J13_bitCount_95d88 (m.2 a 1) m) fun r1 m2 => some (.inl r1, m2)
set_option maxRecDepth 20000 in
set_option maxHeartbeats 4000000 in
theorem c_X0_count (nw : Nat) (hnw : 109 ≤ nw) (a : Nat) (ha : isChg a) : s_Con s_i 0 nw yX0_count wsX0_count 14 185 0 (f_X0_count a) (fun ad => [.ref (ad a)]) := by
  refine s_con_of cX0_count 1 (some .int) RX0 (by decide) rfl rfl (fun _ => Nat.le_of_ble_eq_true rfl) (fun ad m res V C h => ?_)
  unfold f_X0_count at h
  have F_i0 : ∀ w ∈ wsX00, w ∈ wsX0_count := by decide +kernel
  have F_k15 : Cond.fieldLink RX0 15 "ShadowFile$Changes" "touched" "J" ∈ wsX0_count := by decide +kernel
  show V 0 0 [(0, .ref (ad a))] [] m
  refine r_aload_n C dX0_count_0 rfl 0 rfl ?_
  refine r_getl C (ci := 0) (k9 := 1) dX0_count_1 rfl F_i0 (by decide) F_k15 (by have := isChg_b ha; omega) (isChg_0 ha) rfl ?_
  refine r_callS C (c_J13_bitCount_95d88 nw hnw (m.2 a 1)) (As := [.long (m.2 a 1)]) (nn := 1) (stk := [.long (m.2 a 1)]) dX0_count_4 gX0_count_J13_bitCount_95d88 ⟨by decide, by decide, by decide +kernel⟩ rfl rfl (by decide) rfl rfl (Nat.le_of_ble_eq_true rfl) (by decide) h (fun r1 m2 h => ?_)
  show V 0 7 [(0, .ref (ad a))] [.int r1] m2
  exact r_iret C dX0_count_7 rfl h
noncomputable def f_X9_changes (p1 : Int32) (m : sM) : Option (sR Int32) :=
  s_bd (f_X9_requireSlot p1 m) fun r1 m2 => s_ix p1 3 fun j3 => s_bd (f_X0_count ((54 + 10 * j3) + 1) m2) fun r4 m5 => some (.inl r4, m5)
set_option maxRecDepth 20000 in
set_option maxHeartbeats 4000000 in
theorem c_X9_changes (nw : Nat) (hnw : 109 ≤ nw) (p1 : Int32) : s_Con s_i 0 nw yX9_changes wsX9_changes 16 230 1 (f_X9_changes p1) (fun ad => [.ref (ad 0), .int p1]) := by
  refine s_con_of cX9_changes 2 (some .int) RX9 (by decide) rfl rfl (fun _ => Nat.le_of_ble_eq_true rfl) (fun ad m res V C h => ?_)
  unfold f_X9_changes at h
  have F_i9 : ∀ w ∈ wsX90, w ∈ wsX9_changes := by decide +kernel
  have F_k42 : Cond.fieldLink RX9 42 "ShadowFile" "slots" "[LShadowFile$Slot;" ∈ wsX9_changes := by decide +kernel
  have F_i7 : ∀ w ∈ wsX70, w ∈ wsX9_changes := by decide +kernel
  have F_k142 : Cond.fieldLink RX9 142 "ShadowFile$Slot" "changes" "LShadowFile$Changes;" ∈ wsX9_changes := by decide +kernel
  show V 1 0 [(0, .ref (ad 0)), (1, .int p1)] [] m
  refine r_iload_n C dX9_changes_0 rfl 1 rfl ?_
  refine r_callS C (c_X9_requireSlot nw hnw p1) (As := [.int p1]) (nn := 1) (stk := [.int p1]) dX9_changes_1 gX9_changes_X9_requireSlot ⟨by decide, by decide, by decide +kernel⟩ rfl rfl (by decide) rfl rfl (Nat.le_of_ble_eq_true rfl) (by decide) h (fun r1 m2 h => ?_)
  show V 0 4 [(0, .ref (ad 0)), (1, .int p1)] [] m2
  refine r_aload_n C dX9_changes_4 rfl 0 rfl ?_
  refine r_getr C (ci := 9) (k9 := 5) dX9_changes_5 rfl F_i9 (by decide) F_k42 (by omega) la_0 rfl ?_
  refine r_iload_n C dX9_changes_8 rfl 1 rfl ?_
  refine r_aald C (b0 := 54) (d0 := 10) dX9_changes_9 (by omega) la_53 (fun _ => rfl) rfl h (fun j3 hj3 h => ?_)
  refine r_getr C (ci := 7) (k9 := 0) dX9_changes_10 rfl F_i7 (by decide) F_k142 (by have := isSlt_b (isSlt_s hj3); omega) (isSlt_0 (isSlt_s hj3)) rfl ?_
  refine r_callV C (c_X0_count nw hnw ((54 + 10 * j3) + 1) (isSlt_c (isSlt_s hj3))) (As := []) (nn := 0) (stk := [.ref (ad ((54 + 10 * j3) + 1))]) (ci := 0) dX9_changes_13 gX9_changes_X0_count ⟨rfl, by decide, by decide, by decide +kernel⟩ (by have := isChg_b (isSlt_c (isSlt_s hj3)); omega) (isChg_0 (isSlt_c (isSlt_s hj3))) rfl rfl rfl (by decide) rfl rfl (Nat.le_of_ble_eq_true rfl) (by decide) h (fun r4 m5 h => ?_)
  show V 0 16 [(0, .ref (ad 0)), (1, .int p1)] [.int r4] m5
  exact r_iret C dX9_changes_16 rfl h
noncomputable def f_X9_slotState (p1 : Int32) (m : sM) : Option (sR Int32) :=
  s_bd (f_X9_requireSlot p1 m) fun r1 m2 => s_ix p1 3 fun j3 => some (.inl (m2.1 (54 + 10 * j3) 3), m2)
set_option maxRecDepth 20000 in
set_option maxHeartbeats 4000000 in
theorem c_X9_slotState (nw : Nat) (hnw : 109 ≤ nw) (p1 : Int32) : s_Con s_i 0 nw yX9_slotState wsX9_slotState 16 230 1 (f_X9_slotState p1) (fun ad => [.ref (ad 0), .int p1]) := by
  refine s_con_of cX9_slotState 2 (some .int) RX9 (by decide) rfl rfl (fun _ => Nat.le_of_ble_eq_true rfl) (fun ad m res V C h => ?_)
  unfold f_X9_slotState at h
  have F_i9 : ∀ w ∈ wsX90, w ∈ wsX9_slotState := by decide +kernel
  have F_k42 : Cond.fieldLink RX9 42 "ShadowFile" "slots" "[LShadowFile$Slot;" ∈ wsX9_slotState := by decide +kernel
  have F_i7 : ∀ w ∈ wsX70, w ∈ wsX9_slotState := by decide +kernel
  have F_k110 : Cond.fieldLink RX9 110 "ShadowFile$Slot" "state" "I" ∈ wsX9_slotState := by decide +kernel
  show V 1 0 [(0, .ref (ad 0)), (1, .int p1)] [] m
  refine r_iload_n C dX9_slotState_0 rfl 1 rfl ?_
  refine r_callS C (c_X9_requireSlot nw hnw p1) (As := [.int p1]) (nn := 1) (stk := [.int p1]) dX9_slotState_1 gX9_slotState_X9_requireSlot ⟨by decide, by decide, by decide +kernel⟩ rfl rfl (by decide) rfl rfl (Nat.le_of_ble_eq_true rfl) (by decide) h (fun r1 m2 h => ?_)
  show V 0 4 [(0, .ref (ad 0)), (1, .int p1)] [] m2
  refine r_aload_n C dX9_slotState_4 rfl 0 rfl ?_
  refine r_getr C (ci := 9) (k9 := 5) dX9_slotState_5 rfl F_i9 (by decide) F_k42 (by omega) la_0 rfl ?_
  refine r_iload_n C dX9_slotState_8 rfl 1 rfl ?_
  refine r_aald C (b0 := 54) (d0 := 10) dX9_slotState_9 (by omega) la_53 (fun _ => rfl) rfl h (fun j3 hj3 h => ?_)
  refine r_geti C (ci := 7) (k9 := 3) dX9_slotState_10 rfl F_i7 (by decide) F_k110 (by have := isSlt_b (isSlt_s hj3); omega) (isSlt_0 (isSlt_s hj3)) rfl ?_
  exact r_iret C dX9_slotState_13 rfl h
noncomputable def f_X0_copyFrom (a : Nat) (a1 : Nat) (m : sM) : Option (sR Unit) :=
  s_gd (¬ (0 : Int32) < 0 ∧ ¬ (0 : Int32) < 0 ∧ ¬ (64 : Int32) < 0 ∧ (0 : Int32).toNatClampNeg + (64 : Int32).toNatClampNeg ≤ 64 ∧ (0 : Int32).toNatClampNeg + (64 : Int32).toNatClampNeg ≤ 64 ∧ ∀ i, i < (64 : Int32).toNatClampNeg → fits .int (.int (m.1 (a1 + 1) ((0 : Int32).toNatClampNeg + i))) = true) (s_md (s_cp m (a1 + 1) (a + 1) (0 : Int32).toNatClampNeg (0 : Int32).toNatClampNeg (64 : Int32).toNatClampNeg) fun m1 => s_md (s_uL m1 a 1 (m1.2 a1 1)) fun m2 => s_md (s_uL m2 a 2 (m2.2 a1 2)) fun m3 => some (.inl (), m3))
set_option maxRecDepth 20000 in
set_option maxHeartbeats 4000000 in
theorem c_X0_copyFrom (nw : Nat) (hnw : 109 ≤ nw) (a : Nat) (a1 : Nat) (ha : isChg a) (ha1 : isChg a1) : s_Con s_u 0 nw yX0_copyFrom wsX0_copyFrom 12 140 0 (f_X0_copyFrom a a1) (fun ad => [.ref (ad a), .ref (ad a1)]) := by
  refine s_con_of cX0_copyFrom 2 none RX0 (by decide) rfl rfl (fun _ => Nat.le_of_ble_eq_true rfl) (fun ad m res V C h => ?_)
  unfold f_X0_copyFrom at h
  have F_i0 : ∀ w ∈ wsX00, w ∈ wsX0_copyFrom := by decide +kernel
  have F_k9 : Cond.fieldLink RX0 9 "ShadowFile$Changes" "values" "[I" ∈ wsX0_copyFrom := by decide +kernel
  have F_c28 : Cond.methodLink RX0 28 arraycopyName ∈ wsX0_copyFrom := by decide +kernel
  have F_cnat : Cond.native arraycopyName ∈ wsX0_copyFrom := by decide +kernel
  have F_csta : Cond.static arraycopyName ∈ wsX0_copyFrom := by decide +kernel
  have F_cini : Cond.initialized "java/lang/System" ∈ wsX0_copyFrom := by decide +kernel
  have F_k15 : Cond.fieldLink RX0 15 "ShadowFile$Changes" "touched" "J" ∈ wsX0_copyFrom := by decide +kernel
  have F_k19 : Cond.fieldLink RX0 19 "ShadowFile$Changes" "removed" "J" ∈ wsX0_copyFrom := by decide +kernel
  show V 0 0 [(0, .ref (ad a)), (1, .ref (ad a1))] [] m
  refine r_aload_n C dX0_copyFrom_0 rfl 1 rfl ?_
  refine r_getr C (ci := 0) (k9 := 0) dX0_copyFrom_1 rfl F_i0 (by decide) F_k9 (by have := isChg_b ha1; omega) (isChg_0 ha1) rfl ?_
  refine r_iconst C (v := 0) dX0_copyFrom_4 (by decide) ?_
  refine r_aload_n C dX0_copyFrom_5 rfl 0 rfl ?_
  refine r_getr C (ci := 0) (k9 := 0) dX0_copyFrom_6 rfl F_i0 (by decide) F_k9 (by have := isChg_b ha; omega) (isChg_0 ha) rfl ?_
  refine r_iconst C (v := 0) dX0_copyFrom_9 (by decide) ?_
  refine r_bipush C (v := 64) dX0_copyFrom_10 (by decide) ?_
  refine r_copy C dX0_copyFrom_12 F_c28 F_cnat F_csta F_cini (by have := isChg_b ha1; omega) (by have := isChg_b ha; omega) (isChg_1 ha1) (isChg_1 ha) (by decide) (fun _ => rfl) rfl (by decide) (Nat.le_of_ble_eq_true rfl) h (fun m1 _ h => ?_)
  refine r_aload_n C dX0_copyFrom_15 rfl 0 rfl ?_
  refine r_aload_n C dX0_copyFrom_16 rfl 1 rfl ?_
  refine r_getl C (ci := 0) (k9 := 1) dX0_copyFrom_17 rfl F_i0 (by decide) F_k15 (by have := isChg_b ha1; omega) (isChg_0 ha1) rfl ?_
  refine r_putl C (ci := 0) (k9 := 1) dX0_copyFrom_20 rfl F_i0 (by decide) F_k15 (by have := isChg_b ha; omega) (isChg_0 ha) rfl tyX0 tyX0_ok nmX0 rfl (tyX0_ok 1 (by decide)) rfl rfl h (fun m2 _ h => ?_)
  refine r_aload_n C dX0_copyFrom_23 rfl 0 rfl ?_
  refine r_aload_n C dX0_copyFrom_24 rfl 1 rfl ?_
  refine r_getl C (ci := 0) (k9 := 2) dX0_copyFrom_25 rfl F_i0 (by decide) F_k19 (by have := isChg_b ha1; omega) (isChg_0 ha1) rfl ?_
  refine r_putl C (ci := 0) (k9 := 2) dX0_copyFrom_28 rfl F_i0 (by decide) F_k19 (by have := isChg_b ha; omega) (isChg_0 ha) rfl tyX0 tyX0_ok nmX0 rfl (tyX0_ok 2 (by decide)) rfl rfl h (fun m3 _ h => ?_)
  exact r_vret C dX0_copyFrom_31 rfl h
