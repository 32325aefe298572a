noncomputable def f_X7_setMark (a : Nat) (m : sM) : Option (sR Int32) :=
  s_jn (fun (m34_ : sM) => some (.inl (m34_.1 a 2), m34_)) fun k34 => if 3 ≤ (m.1 a 2) then (k34  m) else (s_ix (m.1 a 2) 3 fun j1 => s_bd (f_X0_copyFrom (a + 4 + 2 * j1) (a + 1) m) fun r2 m3 => s_md (s_up m3 a 2 ((m3.1 a 2) + 1)) fun m4 => k34  m4)
set_option maxRecDepth 20000 in
set_option maxHeartbeats 4000000 in
theorem c_X7_setMark (nw : Nat) (hnw : 109 ≤ nw) (a : Nat) (ha : isSlt a) : s_Con s_i 0 nw yX7_setMark wsX7_setMark 14 185 0 (f_X7_setMark a) (fun ad => [.ref (ad a)]) := by
  refine s_con_of cX7_setMark 1 (some .int) RX7 (by decide) rfl rfl (fun _ => Nat.le_of_ble_eq_true rfl) (fun ad m res V C h => ?_)
  unfold f_X7_setMark at h
  have F_i7 : ∀ w ∈ wsX70, w ∈ wsX7_setMark := by decide +kernel
  have F_k22 : Cond.fieldLink RX7 22 "ShadowFile$Slot" "markCount" "I" ∈ wsX7_setMark := by decide +kernel
  have F_k18 : Cond.fieldLink RX7 18 "ShadowFile$Slot" "marks" "[LShadowFile$Changes;" ∈ wsX7_setMark := by decide +kernel
  have F_k12 : Cond.fieldLink RX7 12 "ShadowFile$Slot" "changes" "LShadowFile$Changes;" ∈ wsX7_setMark := by decide +kernel
  show V 0 0 [(0, .ref (ad a))] [] m
  refine r_aload_n C dX7_setMark_0 rfl 0 rfl ?_
  refine r_geti C (ci := 7) (k9 := 2) dX7_setMark_1 rfl F_i7 (by decide) F_k22 (by have := isSlt_b ha; omega) (isSlt_0 ha) rfl ?_
  refine r_iconst C (v := 3) dX7_setMark_4 (by decide) ?_
  refine s_join h (fun k34 => ∀ (m34_ : sM), k34 m34_ = some res → V 0 34 [(0, .ref (ad a))] [] m34_) ?_ (fun k34 hk34 h => ?_)
  · intro m34_ h
    refine r_aload_n C dX7_setMark_34 rfl 0 rfl ?_
    refine r_geti C (ci := 7) (k9 := 2) dX7_setMark_35 rfl F_i7 (by decide) F_k22 (by have := isSlt_b ha; omega) (isSlt_0 ha) rfl ?_
    exact r_iret C dX7_setMark_38 rfl h
  refine r_icmp_ge C (tgt := 34) dX7_setMark_5 (by decide) h (fun _ h => ?_) (fun _ h => ?_)
  · skip
    exact hk34 m h
  · skip
    refine r_aload_n C dX7_setMark_8 rfl 0 rfl ?_
    refine r_getr C (ci := 7) (k9 := 1) dX7_setMark_9 rfl F_i7 (by decide) F_k18 (by have := isSlt_b ha; omega) (isSlt_0 ha) rfl ?_
    refine r_aload_n C dX7_setMark_12 rfl 0 rfl ?_
    refine r_geti C (ci := 7) (k9 := 2) dX7_setMark_13 rfl F_i7 (by decide) F_k22 (by have := isSlt_b ha; omega) (isSlt_0 ha) rfl ?_
    refine r_aald C (b0 := a + 4) (d0 := 2) dX7_setMark_16 (by have := isSlt_b ha; omega) (isSlt_3 ha) (fun _ => rfl) rfl h (fun j1 hj1 h => ?_)
    refine r_aload_n C dX7_setMark_17 rfl 0 rfl ?_
    refine r_getr C (ci := 7) (k9 := 0) dX7_setMark_18 rfl F_i7 (by decide) F_k12 (by have := isSlt_b ha; omega) (isSlt_0 ha) rfl ?_
    refine r_callV C (c_X0_copyFrom nw hnw (a + 4 + 2 * j1) (a + 1) (isSlt_m ha hj1) (isSlt_c ha)) (As := [.ref (ad (a + 1))]) (nn := 1) (stk := [.ref (ad (a + 1)), .ref (ad (a + 4 + 2 * j1))]) (ci := 0) dX7_setMark_21 gX7_setMark_X0_copyFrom ⟨rfl, by decide, by decide, by decide +kernel⟩ (by have := isChg_b (isSlt_m ha hj1); omega) (isChg_0 (isSlt_m ha hj1)) rfl rfl rfl (by decide) rfl rfl (Nat.le_of_ble_eq_true rfl) (by decide) h (fun r2 m3 h => ?_)
    show V 0 24 [(0, .ref (ad a))] [] m3
    refine r_aload_n C dX7_setMark_24 rfl 0 rfl ?_
    refine r_dup C dX7_setMark_25 rfl ?_
    refine r_geti C (ci := 7) (k9 := 2) dX7_setMark_26 rfl F_i7 (by decide) F_k22 (by have := isSlt_b ha; omega) (isSlt_0 ha) rfl ?_
    refine r_iconst C (v := 1) dX7_setMark_29 (by decide) ?_
    refine r_iadd C dX7_setMark_30 ?_
    refine r_puti C (ci := 7) (k9 := 2) dX7_setMark_31 rfl F_i7 (by decide) F_k22 (by have := isSlt_b ha; omega) (isSlt_0 ha) rfl tyX7 tyX7_ok nmX7 rfl (tyX7_ok 2 (by decide)) rfl rfl h (fun m4 _ h => ?_)
    exact hk34 m4 h
noncomputable def f_X9_mark (p1 : Int32) (m : sM) : Option (sR Int32) :=
  s_bd (f_X9_requireSlot p1 m) fun r1 m2 => s_bd (f_X9_requireActive p1 m2) fun r3 m4 => s_ix p1 3 fun j5 => if (m4.1 (54 + 10 * j5) 2) < 3 then (s_ix p1 3 fun j6 => s_bd (f_X7_setMark (54 + 10 * j6) m4) fun r7 m8 => some (.inl r7, m8)) else (some (.inr "java/lang/IllegalStateException", m4))
set_option maxRecDepth 20000 in
set_option maxHeartbeats 4000000 in
theorem c_X9_mark (nw : Nat) (hnw : 109 ≤ nw) (p1 : Int32) : s_Con s_i 0 nw yX9_mark wsX9_mark 16 230 3 (f_X9_mark p1) (fun ad => [.ref (ad 0), .int p1]) := by
  refine s_con_of cX9_mark 2 (some .int) RX9 (by decide) rfl rfl (fun _ => Nat.le_of_ble_eq_true rfl) (fun ad m res V C h => ?_)
  unfold f_X9_mark at h
  have F_i9 : ∀ w ∈ wsX90, w ∈ wsX9_mark := by decide +kernel
  have F_k42 : Cond.fieldLink RX9 42 "ShadowFile" "slots" "[LShadowFile$Slot;" ∈ wsX9_mark := by decide +kernel
  have F_i7 : ∀ w ∈ wsX70, w ∈ wsX9_mark := by decide +kernel
  have F_k166 : Cond.fieldLink RX9 166 "ShadowFile$Slot" "markCount" "I" ∈ wsX9_mark := by decide +kernel
  have F_q117 : Cond.classLink RX9 117 "java/lang/IllegalStateException" ∈ wsX9_mark := by decide +kernel
  have F_u117 : Cond.initialized "java/lang/IllegalStateException" ∈ wsX9_mark := by decide +kernel
  have F_z121 : ∀ w ∈ (vx_atS RX9 121 "java/lang/IllegalStateException" ["java/lang/RuntimeException", "java/lang/Exception"]).filter goodWord, w ∈ wsX9_mark := by decide +kernel
  have F_y121 : ∀ w ∈ (vx_atS RX9 121 "java/lang/IllegalStateException" ["java/lang/RuntimeException", "java/lang/Exception"]).filter (fun w => !goodWord w), w ∈ Cond.castable "java/lang/IllegalStateException" "java/lang/IllegalStateException" :: s_dec.map Cond.declares := by decide +kernel
  have F_v121 : ∀ w ∈ Cond.classLink RX9 117 "java/lang/IllegalStateException" :: Cond.initialized "java/lang/IllegalStateException" :: vx_atS RX9 121 "java/lang/IllegalStateException" ["java/lang/RuntimeException", "java/lang/Exception"], vx_ot w = true := by decide +kernel
  show V 3 0 [(0, .ref (ad 0)), (1, .int p1)] [] m
  refine r_iload_n C dX9_mark_0 rfl 1 rfl ?_
  refine r_callS C (c_X9_requireSlot nw hnw p1) (As := [.int p1]) (nn := 1) (stk := [.int p1]) dX9_mark_1 gX9_mark_X9_requireSlot ⟨by decide, by decide, by decide +kernel⟩ rfl rfl (by decide) rfl rfl (Nat.le_of_ble_eq_true rfl) (by decide) h (fun r1 m2 h => ?_)
  show V 2 4 [(0, .ref (ad 0)), (1, .int p1)] [] m2
  refine r_aload_n C dX9_mark_4 rfl 0 rfl ?_
  refine r_iload_n C dX9_mark_5 rfl 1 rfl ?_
  refine r_callV C (c_X9_requireActive nw hnw p1) (As := [.int p1]) (nn := 1) (stk := [.int p1, .ref (ad 0)]) (ci := 9) dX9_mark_6 gX9_mark_X9_requireActive ⟨rfl, by decide, by decide, by decide +kernel⟩ (by omega) la_0 rfl rfl rfl (by decide) rfl rfl (Nat.le_of_ble_eq_true rfl) (by decide) h (fun r3 m4 h => ?_)
  show V 1 9 [(0, .ref (ad 0)), (1, .int p1)] [] m4
  refine r_aload_n C dX9_mark_9 rfl 0 rfl ?_
  refine r_getr C (ci := 9) (k9 := 5) dX9_mark_10 rfl F_i9 (by decide) F_k42 (by omega) la_0 rfl ?_
  refine r_iload_n C dX9_mark_13 rfl 1 rfl ?_
  refine r_aald C (b0 := 54) (d0 := 10) dX9_mark_14 (by omega) la_53 (fun _ => rfl) rfl h (fun j5 hj5 h => ?_)
  refine r_geti C (ci := 7) (k9 := 2) dX9_mark_15 rfl F_i7 (by decide) F_k166 (by have := isSlt_b (isSlt_s hj5); omega) (isSlt_0 (isSlt_s hj5)) rfl ?_
  refine r_iconst C (v := 3) dX9_mark_18 (by decide) ?_
  refine r_icmp_lt C (tgt := 32) dX9_mark_19 (by decide) h (fun _ h => ?_) (fun _ h => ?_)
  · skip
    refine r_aload_n C dX9_mark_32 rfl 0 rfl ?_
    refine r_getr C (ci := 9) (k9 := 5) dX9_mark_33 rfl F_i9 (by decide) F_k42 (by omega) la_0 rfl ?_
    refine r_iload_n C dX9_mark_36 rfl 1 rfl ?_
    refine r_aald C (b0 := 54) (d0 := 10) dX9_mark_37 (by omega) la_53 (fun _ => rfl) rfl h (fun j6 hj6 h => ?_)
    refine r_callV C (c_X7_setMark nw hnw (54 + 10 * j6) (isSlt_s hj6)) (As := []) (nn := 0) (stk := [.ref (ad (54 + 10 * j6))]) (ci := 7) dX9_mark_38 gX9_mark_X7_setMark ⟨rfl, by decide, by decide, by decide +kernel⟩ (by have := isSlt_b (isSlt_s hj6); omega) (isSlt_0 (isSlt_s hj6)) rfl rfl rfl (by decide) rfl rfl (Nat.le_of_ble_eq_true rfl) (by decide) h (fun r7 m8 h => ?_)
    show V 1 41 [(0, .ref (ad 0)), (1, .int p1)] [.int r7] m8
    exact r_iret C dX9_mark_41 rfl h
  · skip
    exact r_throw C (text := "the slot has all its marks") (names := ["java/lang/RuntimeException", "java/lang/Exception"]) dX9_mark_22 dX9_mark_25 dX9_mark_26 dX9_mark_28 dX9_mark_31 (by decide) (by decide) F_q117 F_u117 F_z121 F_y121 F_v121 (by decide +kernel) (by decide +kernel) (by decide) (Nat.le_of_ble_eq_true rfl) (by decide) h
noncomputable def f_X7_takeMark (a : Nat) (m : sM) : Option (sR Unit) :=
  s_jn (fun (m33_ : sM) => some (.inl (), m33_)) fun k33 => if (m.1 a 2) ≤ 0 then (k33  m) else (s_md (s_up m a 2 ((m.1 a 2) - 1)) fun m1 => s_ix (m1.1 a 2) 3 fun j2 => s_bd (f_X0_copyFrom (a + 1) (a + 4 + 2 * j2) m1) fun r3 m4 => k33  m4)
set_option maxRecDepth 20000 in
set_option maxHeartbeats 4000000 in
theorem c_X7_takeMark (nw : Nat) (hnw : 109 ≤ nw) (a : Nat) (ha : isSlt a) : s_Con s_u 0 nw yX7_takeMark wsX7_takeMark 14 185 0 (f_X7_takeMark a) (fun ad => [.ref (ad a)]) := by
  refine s_con_of cX7_takeMark 1 none RX7 (by decide) rfl rfl (fun _ => Nat.le_of_ble_eq_true rfl) (fun ad m res V C h => ?_)
  unfold f_X7_takeMark at h
  have F_i7 : ∀ w ∈ wsX70, w ∈ wsX7_takeMark := by decide +kernel
  have F_k22 : Cond.fieldLink RX7 22 "ShadowFile$Slot" "markCount" "I" ∈ wsX7_takeMark := by decide +kernel
  have F_k12 : Cond.fieldLink RX7 12 "ShadowFile$Slot" "changes" "LShadowFile$Changes;" ∈ wsX7_takeMark := by decide +kernel
  have F_k18 : Cond.fieldLink RX7 18 "ShadowFile$Slot" "marks" "[LShadowFile$Changes;" ∈ wsX7_takeMark := by decide +kernel
  show V 0 0 [(0, .ref (ad a))] [] m
  refine r_aload_n C dX7_takeMark_0 rfl 0 rfl ?_
  refine r_geti C (ci := 7) (k9 := 2) dX7_takeMark_1 rfl F_i7 (by decide) F_k22 (by have := isSlt_b ha; omega) (isSlt_0 ha) rfl ?_
  refine s_join h (fun k33 => ∀ (m33_ : sM), k33 m33_ = some res → V 0 33 [] [] m33_) ?_ (fun k33 hk33 h => ?_)
  · intro m33_ h
    exact r_vret C dX7_takeMark_33 rfl h
  refine r_if_le C (tgt := 33) dX7_takeMark_4 (by decide) h (fun _ h => ?_) (fun _ h => ?_)
  · skip
    refine r_sub C [] (show _ = [] from rfl) ?_
    exact hk33 m h
  · skip
    refine r_aload_n C dX7_takeMark_7 rfl 0 rfl ?_
    refine r_dup C dX7_takeMark_8 rfl ?_
    refine r_geti C (ci := 7) (k9 := 2) dX7_takeMark_9 rfl F_i7 (by decide) F_k22 (by have := isSlt_b ha; omega) (isSlt_0 ha) rfl ?_
    refine r_iconst C (v := 1) dX7_takeMark_12 (by decide) ?_
    refine r_isub C dX7_takeMark_13 ?_
    refine r_puti C (ci := 7) (k9 := 2) dX7_takeMark_14 rfl F_i7 (by decide) F_k22 (by have := isSlt_b ha; omega) (isSlt_0 ha) rfl tyX7 tyX7_ok nmX7 rfl (tyX7_ok 2 (by decide)) rfl rfl h (fun m1 _ h => ?_)
    refine r_aload_n C dX7_takeMark_17 rfl 0 rfl ?_
    refine r_getr C (ci := 7) (k9 := 0) dX7_takeMark_18 rfl F_i7 (by decide) F_k12 (by have := isSlt_b ha; omega) (isSlt_0 ha) rfl ?_
    refine r_aload_n C dX7_takeMark_21 rfl 0 rfl ?_
    refine r_getr C (ci := 7) (k9 := 1) dX7_takeMark_22 rfl F_i7 (by decide) F_k18 (by have := isSlt_b ha; omega) (isSlt_0 ha) rfl ?_
    refine r_aload_n C dX7_takeMark_25 rfl 0 rfl ?_
    refine r_geti C (ci := 7) (k9 := 2) dX7_takeMark_26 rfl F_i7 (by decide) F_k22 (by have := isSlt_b ha; omega) (isSlt_0 ha) rfl ?_
    refine r_aald C (b0 := a + 4) (d0 := 2) dX7_takeMark_29 (by have := isSlt_b ha; omega) (isSlt_3 ha) (fun _ => rfl) rfl h (fun j2 hj2 h => ?_)
    refine r_callV C (c_X0_copyFrom nw hnw (a + 1) (a + 4 + 2 * j2) (isSlt_c ha) (isSlt_m ha hj2)) (As := [.ref (ad (a + 4 + 2 * j2))]) (nn := 1) (stk := [.ref (ad (a + 4 + 2 * j2)), .ref (ad (a + 1))]) (ci := 0) dX7_takeMark_30 gX7_takeMark_X0_copyFrom ⟨rfl, by decide, by decide, by decide +kernel⟩ (by have := isChg_b (isSlt_c ha); omega) (isChg_0 (isSlt_c ha)) rfl rfl rfl (by decide) rfl rfl (Nat.le_of_ble_eq_true rfl) (by decide) h (fun r3 m4 h => ?_)
    show V 0 33 [(0, .ref (ad a))] [] m4
    refine r_sub C [] (show _ = [] from rfl) ?_
    exact hk33 m4 h
noncomputable def f_X9_goBack (p1 : Int32) (m : sM) : Option (sR Int32) :=
  s_bd (f_X9_requireSlot p1 m) fun r1 m2 => s_bd (f_X9_requireActive p1 m2) fun r3 m4 => s_ix p1 3 fun j5 => if 0 < (m4.1 (54 + 10 * j5) 2) then (s_ix p1 3 fun j6 => s_bd (f_X7_takeMark (54 + 10 * j6) m4) fun r7 m8 => s_ix p1 3 fun j9 => s_bd (f_X0_count ((54 + 10 * j9) + 1) m8) fun r10 m11 => some (.inl r10, m11)) else (some (.inr "java/util/NoSuchElementException", m4))
set_option maxRecDepth 20000 in
set_option maxHeartbeats 4000000 in
theorem c_X9_goBack (nw : Nat) (hnw : 109 ≤ nw) (p1 : Int32) : s_Con s_i 0 nw yX9_goBack wsX9_goBack 16 230 3 (f_X9_goBack p1) (fun ad => [.ref (ad 0), .int p1]) := by
  refine s_con_of cX9_goBack 2 (some .int) RX9 (by decide) rfl rfl (fun _ => Nat.le_of_ble_eq_true rfl) (fun ad m res V C h => ?_)
  unfold f_X9_goBack at h
  have F_i9 : ∀ w ∈ wsX90, w ∈ wsX9_goBack := by decide +kernel
  have F_k42 : Cond.fieldLink RX9 42 "ShadowFile" "slots" "[LShadowFile$Slot;" ∈ wsX9_goBack := by decide +kernel
  have F_i7 : ∀ w ∈ wsX70, w ∈ wsX9_goBack := by decide +kernel
  have F_k166 : Cond.fieldLink RX9 166 "ShadowFile$Slot" "markCount" "I" ∈ wsX9_goBack := by decide +kernel
  have F_k142 : Cond.fieldLink RX9 142 "ShadowFile$Slot" "changes" "LShadowFile$Changes;" ∈ wsX9_goBack := by decide +kernel
  have F_q174 : Cond.classLink RX9 174 "java/util/NoSuchElementException" ∈ wsX9_goBack := by decide +kernel
  have F_u174 : Cond.initialized "java/util/NoSuchElementException" ∈ wsX9_goBack := by decide +kernel
  have F_z178 : ∀ w ∈ (vy_at RX9 178 "java/util/NoSuchElementException" "java/lang/RuntimeException" ["java/lang/Exception"]).filter goodWord, w ∈ wsX9_goBack := by decide +kernel
  have F_y178 : ∀ w ∈ (vy_at RX9 178 "java/util/NoSuchElementException" "java/lang/RuntimeException" ["java/lang/Exception"]).filter (fun w => !goodWord w), w ∈ Cond.castable "java/util/NoSuchElementException" "java/util/NoSuchElementException" :: s_dec.map Cond.declares := by decide +kernel
  have F_v178 : ∀ w ∈ Cond.classLink RX9 174 "java/util/NoSuchElementException" :: Cond.initialized "java/util/NoSuchElementException" :: vy_at RX9 178 "java/util/NoSuchElementException" "java/lang/RuntimeException" ["java/lang/Exception"], vx_ot w = true := by decide +kernel
  show V 3 0 [(0, .ref (ad 0)), (1, .int p1)] [] m
  refine r_iload_n C dX9_goBack_0 rfl 1 rfl ?_
  refine r_callS C (c_X9_requireSlot nw hnw p1) (As := [.int p1]) (nn := 1) (stk := [.int p1]) dX9_goBack_1 gX9_goBack_X9_requireSlot ⟨by decide, by decide, by decide +kernel⟩ rfl rfl (by decide) rfl rfl (Nat.le_of_ble_eq_true rfl) (by decide) h (fun r1 m2 h => ?_)
  show V 2 4 [(0, .ref (ad 0)), (1, .int p1)] [] m2
  refine r_aload_n C dX9_goBack_4 rfl 0 rfl ?_
  refine r_iload_n C dX9_goBack_5 rfl 1 rfl ?_
  refine r_callV C (c_X9_requireActive nw hnw p1) (As := [.int p1]) (nn := 1) (stk := [.int p1, .ref (ad 0)]) (ci := 9) dX9_goBack_6 gX9_goBack_X9_requireActive ⟨rfl, by decide, by decide, by decide +kernel⟩ (by omega) la_0 rfl rfl rfl (by decide) rfl rfl (Nat.le_of_ble_eq_true rfl) (by decide) h (fun r3 m4 h => ?_)
  show V 1 9 [(0, .ref (ad 0)), (1, .int p1)] [] m4
  refine r_aload_n C dX9_goBack_9 rfl 0 rfl ?_
  refine r_getr C (ci := 9) (k9 := 5) dX9_goBack_10 rfl F_i9 (by decide) F_k42 (by omega) la_0 rfl ?_
  refine r_iload_n C dX9_goBack_13 rfl 1 rfl ?_
  refine r_aald C (b0 := 54) (d0 := 10) dX9_goBack_14 (by omega) la_53 (fun _ => rfl) rfl h (fun j5 hj5 h => ?_)
  refine r_geti C (ci := 7) (k9 := 2) dX9_goBack_15 rfl F_i7 (by decide) F_k166 (by have := isSlt_b (isSlt_s hj5); omega) (isSlt_0 (isSlt_s hj5)) rfl ?_
  refine r_if_gt C (tgt := 31) dX9_goBack_18 (by decide) h (fun _ h => ?_) (fun _ h => ?_)
  · skip
    refine r_aload_n C dX9_goBack_31 rfl 0 rfl ?_
    refine r_getr C (ci := 9) (k9 := 5) dX9_goBack_32 rfl F_i9 (by decide) F_k42 (by omega) la_0 rfl ?_
    refine r_iload_n C dX9_goBack_35 rfl 1 rfl ?_
    refine r_aald C (b0 := 54) (d0 := 10) dX9_goBack_36 (by omega) la_53 (fun _ => rfl) rfl h (fun j6 hj6 h => ?_)
    refine r_callV C (c_X7_takeMark nw hnw (54 + 10 * j6) (isSlt_s hj6)) (As := []) (nn := 0) (stk := [.ref (ad (54 + 10 * j6))]) (ci := 7) dX9_goBack_37 gX9_goBack_X7_takeMark ⟨rfl, by decide, by decide, by decide +kernel⟩ (by have := isSlt_b (isSlt_s hj6); omega) (isSlt_0 (isSlt_s hj6)) rfl rfl rfl (by decide) rfl rfl (Nat.le_of_ble_eq_true rfl) (by decide) h (fun r7 m8 h => ?_)
    show V 1 40 [(0, .ref (ad 0)), (1, .int p1)] [] m8
    refine r_aload_n C dX9_goBack_40 rfl 0 rfl ?_
    refine r_getr C (ci := 9) (k9 := 5) dX9_goBack_41 rfl F_i9 (by decide) F_k42 (by omega) la_0 rfl ?_
    refine r_iload_n C dX9_goBack_44 rfl 1 rfl ?_
    refine r_aald C (b0 := 54) (d0 := 10) dX9_goBack_45 (by omega) la_53 (fun _ => rfl) rfl h (fun j9 hj9 h => ?_)
    refine r_getr C (ci := 7) (k9 := 0) dX9_goBack_46 rfl F_i7 (by decide) F_k142 (by have := isSlt_b (isSlt_s hj9); omega) (isSlt_0 (isSlt_s hj9)) rfl ?_
    refine r_callV C (c_X0_count nw hnw ((54 + 10 * j9) + 1) (isSlt_c (isSlt_s hj9))) (As := []) (nn := 0) (stk := [.ref (ad ((54 + 10 * j9) + 1))]) (ci := 0) dX9_goBack_49 gX9_goBack_X0_count ⟨rfl, by decide, by decide, by decide +kernel⟩ (by have := isChg_b (isSlt_c (isSlt_s hj9)); omega) (isChg_0 (isSlt_c (isSlt_s hj9))) rfl rfl rfl (by decide) rfl rfl (Nat.le_of_ble_eq_true rfl) (by decide) h (fun r10 m11 h => ?_)
    show V 1 52 [(0, .ref (ad 0)), (1, .int p1)] [.int r10] m11
    exact r_iret C dX9_goBack_52 rfl h
  · skip
    exact r_throwN C (text := "the slot has no marks") dX9_goBack_21 dX9_goBack_24 dX9_goBack_25 dX9_goBack_27 dX9_goBack_30 (by decide) (by decide) F_q174 F_u174 F_z178 F_y178 F_v178 (by decide +kernel) (by decide +kernel) (by decide) (Nat.le_of_ble_eq_true rfl) (by decide) h
noncomputable def f_X9_ready (p1 : Int32) (m : sM) : Option (sR Int32) :=
  s_bd (f_X9_requireSlot p1 m) fun r1 m2 => s_bd (f_X9_requireActive p1 m2) fun r3 m4 => s_ix p1 3 fun j5 => s_md (s_up m4 (54 + 10 * j5) 3 2) fun m6 => s_ix p1 3 fun j7 => s_md (s_up m6 (54 + 10 * j7) 2 0) fun m8 => s_jn (fun (m57_ : sM) => some (.inl (m57_.1 0 7), m57_)) fun k57 => if 3 ≤ (m8.1 0 7) then (k57  m8) else (s_ix (m8.1 0 7) 3 fun j9 => s_md (s_up m8 84 j9 p1) fun m10 => s_md (s_up m10 0 7 ((m10.1 0 7) + 1)) fun m11 => k57  m11)
set_option maxRecDepth 20000 in
set_option maxHeartbeats 4000000 in
theorem c_X9_ready (nw : Nat) (hnw : 109 ≤ nw) (p1 : Int32) : s_Con s_i 0 nw yX9_ready wsX9_ready 16 230 2 (f_X9_ready p1) (fun ad => [.ref (ad 0), .int p1]) := by
  refine s_con_of cX9_ready 2 (some .int) RX9 (by decide) rfl rfl (fun _ => Nat.le_of_ble_eq_true rfl) (fun ad m res V C h => ?_)
  unfold f_X9_ready at h
  have F_i9 : ∀ w ∈ wsX90, w ∈ wsX9_ready := by decide +kernel
  have F_k42 : Cond.fieldLink RX9 42 "ShadowFile" "slots" "[LShadowFile$Slot;" ∈ wsX9_ready := by decide +kernel
  have F_i7 : ∀ w ∈ wsX70, w ∈ wsX9_ready := by decide +kernel
  have F_k110 : Cond.fieldLink RX9 110 "ShadowFile$Slot" "state" "I" ∈ wsX9_ready := by decide +kernel
  have F_k166 : Cond.fieldLink RX9 166 "ShadowFile$Slot" "markCount" "I" ∈ wsX9_ready := by decide +kernel
  have F_k50 : Cond.fieldLink RX9 50 "ShadowFile" "readyCount" "I" ∈ wsX9_ready := by decide +kernel
  have F_k46 : Cond.fieldLink RX9 46 "ShadowFile" "readyOrder" "[I" ∈ wsX9_ready := by decide +kernel
  show V 2 0 [(0, .ref (ad 0)), (1, .int p1)] [] m
  refine r_iload_n C dX9_ready_0 rfl 1 rfl ?_
  refine r_callS C (c_X9_requireSlot nw hnw p1) (As := [.int p1]) (nn := 1) (stk := [.int p1]) dX9_ready_1 gX9_ready_X9_requireSlot ⟨by decide, by decide, by decide +kernel⟩ rfl rfl (by decide) rfl rfl (Nat.le_of_ble_eq_true rfl) (by decide) h (fun r1 m2 h => ?_)
  show V 1 4 [(0, .ref (ad 0)), (1, .int p1)] [] m2
  refine r_aload_n C dX9_ready_4 rfl 0 rfl ?_
  refine r_iload_n C dX9_ready_5 rfl 1 rfl ?_
  refine r_callV C (c_X9_requireActive nw hnw p1) (As := [.int p1]) (nn := 1) (stk := [.int p1, .ref (ad 0)]) (ci := 9) dX9_ready_6 gX9_ready_X9_requireActive ⟨rfl, by decide, by decide, by decide +kernel⟩ (by omega) la_0 rfl rfl rfl (by decide) rfl rfl (Nat.le_of_ble_eq_true rfl) (by decide) h (fun r3 m4 h => ?_)
  show V 0 9 [(0, .ref (ad 0)), (1, .int p1)] [] m4
  refine r_aload_n C dX9_ready_9 rfl 0 rfl ?_
  refine r_getr C (ci := 9) (k9 := 5) dX9_ready_10 rfl F_i9 (by decide) F_k42 (by omega) la_0 rfl ?_
  refine r_iload_n C dX9_ready_13 rfl 1 rfl ?_
  refine r_aald C (b0 := 54) (d0 := 10) dX9_ready_14 (by omega) la_53 (fun _ => rfl) rfl h (fun j5 hj5 h => ?_)
  refine r_iconst C (v := 2) dX9_ready_15 (by decide) ?_
  refine r_puti C (ci := 7) (k9 := 3) dX9_ready_16 rfl F_i7 (by decide) F_k110 (by have := isSlt_b (isSlt_s hj5); omega) (isSlt_0 (isSlt_s hj5)) rfl tyX7 tyX7_ok nmX7 rfl (tyX7_ok 3 (by decide)) rfl rfl h (fun m6 _ h => ?_)
  refine r_aload_n C dX9_ready_19 rfl 0 rfl ?_
  refine r_getr C (ci := 9) (k9 := 5) dX9_ready_20 rfl F_i9 (by decide) F_k42 (by omega) la_0 rfl ?_
  refine r_iload_n C dX9_ready_23 rfl 1 rfl ?_
  refine r_aald C (b0 := 54) (d0 := 10) dX9_ready_24 (by omega) la_53 (fun _ => rfl) rfl h (fun j7 hj7 h => ?_)
  refine r_iconst C (v := 0) dX9_ready_25 (by decide) ?_
  refine r_puti C (ci := 7) (k9 := 2) dX9_ready_26 rfl F_i7 (by decide) F_k166 (by have := isSlt_b (isSlt_s hj7); omega) (isSlt_0 (isSlt_s hj7)) rfl tyX7 tyX7_ok nmX7 rfl (tyX7_ok 2 (by decide)) rfl rfl h (fun m8 _ h => ?_)
  refine r_aload_n C dX9_ready_29 rfl 0 rfl ?_
  refine r_geti C (ci := 9) (k9 := 7) dX9_ready_30 rfl F_i9 (by decide) F_k50 (by omega) la_0 rfl ?_
  refine r_iconst C (v := 3) dX9_ready_33 (by decide) ?_
  refine s_join h (fun k57 => ∀ (m57_ : sM), k57 m57_ = some res → V 0 57 [(0, .ref (ad 0))] [] m57_) ?_ (fun k57 hk57 h => ?_)
  · intro m57_ h
    refine r_aload_n C dX9_ready_57 rfl 0 rfl ?_
    refine r_geti C (ci := 9) (k9 := 7) dX9_ready_58 rfl F_i9 (by decide) F_k50 (by omega) la_0 rfl ?_
    exact r_iret C dX9_ready_61 rfl h
  refine r_icmp_ge C (tgt := 57) dX9_ready_34 (by decide) h (fun _ h => ?_) (fun _ h => ?_)
  · skip
    refine r_sub C [0] (show _ = [(0, .ref (ad 0))] from rfl) ?_
    exact hk57 m8 h
  · skip
    refine r_aload_n C dX9_ready_37 rfl 0 rfl ?_
    refine r_getr C (ci := 9) (k9 := 6) dX9_ready_38 rfl F_i9 (by decide) F_k46 (by omega) la_0 rfl ?_
    refine r_aload_n C dX9_ready_41 rfl 0 rfl ?_
    refine r_geti C (ci := 9) (k9 := 7) dX9_ready_42 rfl F_i9 (by decide) F_k50 (by omega) la_0 rfl ?_
    refine r_iload_n C dX9_ready_45 rfl 1 rfl ?_
    refine r_iast C dX9_ready_46 (by omega) la_84 h (fun j9 m10 hj9 _ h => ?_)
    refine r_aload_n C dX9_ready_47 rfl 0 rfl ?_
    refine r_dup C dX9_ready_48 rfl ?_
    refine r_geti C (ci := 9) (k9 := 7) dX9_ready_49 rfl F_i9 (by decide) F_k50 (by omega) la_0 rfl ?_
    refine r_iconst C (v := 1) dX9_ready_52 (by decide) ?_
    refine r_iadd C dX9_ready_53 ?_
    refine r_puti C (ci := 9) (k9 := 7) dX9_ready_54 rfl F_i9 (by decide) F_k50 (by omega) la_0 rfl tyX9 tyX9_ok nmX9 rfl (tyX9_ok 7 (by decide)) rfl rfl h (fun m11 _ h => ?_)
    refine r_sub C [0] (show _ = [(0, .ref (ad 0))] from rfl) ?_
    exact hk57 m11 h
noncomputable def f_X9_leaveReadyOrder_L4 (y1_4 : Int32) (e43_4 : Int32 → sM → Option (sR Unit)) : Nat → Int32 → Int32 → sM → Option (sR Unit)
  | 0, _, _, _ => none
  | n + 1, x2_4, x3_4, m4_ =>
    if (m4_.1 0 7) ≤ x3_4 then (e43_4 x2_4 m4_) else (s_ix x3_4 3 fun j2 => s_jn (fun (x2_37 : Int32) (m37_ : sM) => f_X9_leaveReadyOrder_L4 y1_4 e43_4 n x2_37 (x3_4 + 1) m37_) fun k37 => if (m4_.1 84 j2) = y1_4 then (k37 x2_4 m4_) else (s_ix x3_4 3 fun j3 => s_ix x2_4 3 fun j4 => s_md (s_up m4_ 84 j4 (m4_.1 84 j3)) fun m5 => k37 (x2_4 + 1) m5))
noncomputable def f_X9_leaveReadyOrder (p1 : Int32) (m : sM) : Option (sR Unit) :=
  s_jn (fun (x2_43 : Int32) (m43_ : sM) => s_md (s_up m43_ 0 7 x2_43) fun m1 => some (.inl (), m1)) fun e43_4 => f_X9_leaveReadyOrder_L4 p1 e43_4 5000 0 0 m
set_option maxRecDepth 20000 in
set_option maxHeartbeats 4000000 in
theorem c_X9_leaveReadyOrder (nw : Nat) (hnw : 109 ≤ nw) (p1 : Int32) : s_Con s_u 0 nw yX9_leaveReadyOrder wsX9_leaveReadyOrder 12 140 0 (f_X9_leaveReadyOrder p1) (fun ad => [.ref (ad 0), .int p1]) := by
  refine s_con_of cX9_leaveReadyOrder 4 none RX9 (by decide) rfl rfl (fun _ => Nat.le_of_ble_eq_true rfl) (fun ad m res V C h => ?_)
  unfold f_X9_leaveReadyOrder at h
  have F_i9 : ∀ w ∈ wsX90, w ∈ wsX9_leaveReadyOrder := by decide +kernel
  have F_k50 : Cond.fieldLink RX9 50 "ShadowFile" "readyCount" "I" ∈ wsX9_leaveReadyOrder := by decide +kernel
  have F_k46 : Cond.fieldLink RX9 46 "ShadowFile" "readyOrder" "[I" ∈ wsX9_leaveReadyOrder := by decide +kernel
  show V 0 0 [(0, .ref (ad 0)), (1, .int p1)] [] m
  refine r_iconst C (v := 0) dX9_leaveReadyOrder_0 (by decide) ?_
  refine r_istore_n C dX9_leaveReadyOrder_1 rfl (by decide) (show _ = [(2, .int 0), (0, .ref (ad 0)), (1, .int p1)] from rfl) ?_
  refine r_iconst C (v := 0) dX9_leaveReadyOrder_2 (by decide) ?_
  refine r_istore_n C dX9_leaveReadyOrder_3 rfl (by decide) (show _ = [(3, .int 0), (2, .int 0), (0, .ref (ad 0)), (1, .int p1)] from rfl) ?_
  refine s_join h (fun e43_4 => ∀ (x2_43 : Int32) (m43_ : sM), e43_4 x2_43 m43_ = some res → V 0 43 [(0, .ref (ad 0)), (2, .int x2_43)] [] m43_) ?_ (fun e43_4 he43_4 h => ?_)
  · intro x2_43 m43_ h
    refine r_aload_n C dX9_leaveReadyOrder_43 rfl 0 rfl ?_
    refine r_iload_n C dX9_leaveReadyOrder_44 rfl 1 rfl ?_
    refine r_puti C (ci := 9) (k9 := 7) dX9_leaveReadyOrder_45 rfl F_i9 (by decide) F_k50 (by omega) la_0 rfl tyX9 tyX9_ok nmX9 rfl (tyX9_ok 7 (by decide)) rfl rfl h (fun m1 _ h => ?_)
    exact r_vret C dX9_leaveReadyOrder_48 rfl h
  have L4 : ∀ (n : Nat) (x2_4 : Int32) (x3_4 : Int32) (m4_ : sM), f_X9_leaveReadyOrder_L4 p1 e43_4 n x2_4 x3_4 m4_ = some res → V 0 4 [(0, .ref (ad 0)), (1, .int p1), (2, .int x2_4), (3, .int x3_4)] [] m4_ := by
    intro n
    induction n with
    | zero => intro x2_4 x3_4 m4_ h; rw [f_X9_leaveReadyOrder_L4] at h; cases h
    | succ n ih =>
      intro x2_4 x3_4 m4_ h
      rw [f_X9_leaveReadyOrder_L4] at h
      refine r_iload_n C dX9_leaveReadyOrder_4 rfl 3 rfl ?_
      refine r_aload_n C dX9_leaveReadyOrder_5 rfl 0 rfl ?_
      refine r_geti C (ci := 9) (k9 := 7) dX9_leaveReadyOrder_6 rfl F_i9 (by decide) F_k50 (by omega) la_0 rfl ?_
      refine r_icmp_ge C (tgt := 43) dX9_leaveReadyOrder_9 (by decide) h (fun _ h => ?_) (fun _ h => ?_)
      · skip
        refine r_sub C [0, 2] (show _ = [(0, .ref (ad 0)), (2, .int x2_4)] from rfl) ?_
        exact he43_4 x2_4 m4_ h
      · skip
        refine r_aload_n C dX9_leaveReadyOrder_12 rfl 0 rfl ?_
        refine r_getr C (ci := 9) (k9 := 6) dX9_leaveReadyOrder_13 rfl F_i9 (by decide) F_k46 (by omega) la_0 rfl ?_
        refine r_iload_n C dX9_leaveReadyOrder_16 rfl 3 rfl ?_
        refine r_iald C dX9_leaveReadyOrder_17 (by omega) la_84 h (fun j2 hj2 h => ?_)
        refine r_iload_n C dX9_leaveReadyOrder_18 rfl 1 rfl ?_
        refine s_join h (fun k37 => ∀ (x2_37 : Int32) (m37_ : sM), k37 x2_37 m37_ = some res → V 0 37 [(0, .ref (ad 0)), (1, .int p1), (2, .int x2_37), (3, .int x3_4)] [] m37_) ?_ (fun k37 hk37 h => ?_)
        · intro x2_37 m37_ h
          refine r_iinc C (v := x3_4 + 1) dX9_leaveReadyOrder_37 3 rfl rfl (by decide) (show _ = [(3, .int (x3_4 + 1)), (0, .ref (ad 0)), (1, .int p1), (2, .int x2_37)] from rfl) ?_
          refine r_goto C (tgt := 4) dX9_leaveReadyOrder_40 (by decide) ?_
          refine r_sub C [1, 2, 3, 0] (show _ = [(0, .ref (ad 0)), (1, .int p1), (2, .int x2_37), (3, .int (x3_4 + 1))] from rfl) ?_
          exact ih x2_37 (x3_4 + 1) m37_ h
        refine r_icmp_eq C (tgt := 37) dX9_leaveReadyOrder_19 (by decide) h (fun _ h => ?_) (fun _ h => ?_)
        · skip
          exact hk37 x2_4 m4_ h
        · skip
          refine r_aload_n C dX9_leaveReadyOrder_22 rfl 0 rfl ?_
          refine r_getr C (ci := 9) (k9 := 6) dX9_leaveReadyOrder_23 rfl F_i9 (by decide) F_k46 (by omega) la_0 rfl ?_
          refine r_iload_n C dX9_leaveReadyOrder_26 rfl 2 rfl ?_
          refine r_aload_n C dX9_leaveReadyOrder_27 rfl 0 rfl ?_
          refine r_getr C (ci := 9) (k9 := 6) dX9_leaveReadyOrder_28 rfl F_i9 (by decide) F_k46 (by omega) la_0 rfl ?_
          refine r_iload_n C dX9_leaveReadyOrder_31 rfl 3 rfl ?_
          refine r_iald C dX9_leaveReadyOrder_32 (by omega) la_84 h (fun j3 hj3 h => ?_)
          refine r_iast C dX9_leaveReadyOrder_33 (by omega) la_84 h (fun j4 m5 hj4 _ h => ?_)
          refine r_iinc C (v := x2_4 + 1) dX9_leaveReadyOrder_34 2 rfl rfl (by decide) (show _ = [(2, .int (x2_4 + 1)), (0, .ref (ad 0)), (1, .int p1), (3, .int x3_4)] from rfl) ?_
          refine r_sub C [1, 2, 0, 3] (show _ = [(0, .ref (ad 0)), (1, .int p1), (2, .int (x2_4 + 1)), (3, .int x3_4)] from rfl) ?_
          exact hk37 (x2_4 + 1) m5 h
  refine r_sub C [2, 3, 1, 0] (show _ = [(0, .ref (ad 0)), (1, .int p1), (2, .int 0), (3, .int 0)] from rfl) ?_
  exact L4 5000 0 0 m h
noncomputable def f_X9_abandon (p1 : Int32) (m : sM) : Option (sR Int32) :=
  s_bd (f_X9_requireSlot p1 m) fun r1 m2 => s_bd (f_X9_requireNotIdle p1 m2) fun r3 m4 => s_ix p1 3 fun j5 => s_bd (f_X0_count ((54 + 10 * j5) + 1) m4) fun r6 m7 => s_bd (f_X9_leaveReadyOrder p1 m7) fun r8 m9 => s_ix p1 3 fun j10 => s_bd (f_X7_reset (54 + 10 * j10) 0 m9) fun r11 m12 => some (.inl r6, m12)
set_option maxRecDepth 20000 in
set_option maxHeartbeats 4000000 in
theorem c_X9_abandon (nw : Nat) (hnw : 109 ≤ nw) (p1 : Int32) : s_Con s_i 0 nw yX9_abandon wsX9_abandon 16 230 2 (f_X9_abandon p1) (fun ad => [.ref (ad 0), .int p1]) := by
  refine s_con_of cX9_abandon 3 (some .int) RX9 (by decide) rfl rfl (fun _ => Nat.le_of_ble_eq_true rfl) (fun ad m res V C h => ?_)
  unfold f_X9_abandon at h
  have F_i9 : ∀ w ∈ wsX90, w ∈ wsX9_abandon := by decide +kernel
  have F_k42 : Cond.fieldLink RX9 42 "ShadowFile" "slots" "[LShadowFile$Slot;" ∈ wsX9_abandon := by decide +kernel
  have F_i7 : ∀ w ∈ wsX70, w ∈ wsX9_abandon := by decide +kernel
  have F_k142 : Cond.fieldLink RX9 142 "ShadowFile$Slot" "changes" "LShadowFile$Changes;" ∈ wsX9_abandon := by decide +kernel
  show V 2 0 [(0, .ref (ad 0)), (1, .int p1)] [] m
  refine r_iload_n C dX9_abandon_0 rfl 1 rfl ?_
  refine r_callS C (c_X9_requireSlot nw hnw p1) (As := [.int p1]) (nn := 1) (stk := [.int p1]) dX9_abandon_1 gX9_abandon_X9_requireSlot ⟨by decide, by decide, by decide +kernel⟩ rfl rfl (by decide) rfl rfl (Nat.le_of_ble_eq_true rfl) (by decide) h (fun r1 m2 h => ?_)
  show V 1 4 [(0, .ref (ad 0)), (1, .int p1)] [] m2
  refine r_aload_n C dX9_abandon_4 rfl 0 rfl ?_
  refine r_iload_n C dX9_abandon_5 rfl 1 rfl ?_
  refine r_callV C (c_X9_requireNotIdle nw hnw p1) (As := [.int p1]) (nn := 1) (stk := [.int p1, .ref (ad 0)]) (ci := 9) dX9_abandon_6 gX9_abandon_X9_requireNotIdle ⟨rfl, by decide, by decide, by decide +kernel⟩ (by omega) la_0 rfl rfl rfl (by decide) rfl rfl (Nat.le_of_ble_eq_true rfl) (by decide) h (fun r3 m4 h => ?_)
  show V 0 9 [(0, .ref (ad 0)), (1, .int p1)] [] m4
  refine r_aload_n C dX9_abandon_9 rfl 0 rfl ?_
  refine r_getr C (ci := 9) (k9 := 5) dX9_abandon_10 rfl F_i9 (by decide) F_k42 (by omega) la_0 rfl ?_
  refine r_iload_n C dX9_abandon_13 rfl 1 rfl ?_
  refine r_aald C (b0 := 54) (d0 := 10) dX9_abandon_14 (by omega) la_53 (fun _ => rfl) rfl h (fun j5 hj5 h => ?_)
  refine r_getr C (ci := 7) (k9 := 0) dX9_abandon_15 rfl F_i7 (by decide) F_k142 (by have := isSlt_b (isSlt_s hj5); omega) (isSlt_0 (isSlt_s hj5)) rfl ?_
  refine r_callV C (c_X0_count nw hnw ((54 + 10 * j5) + 1) (isSlt_c (isSlt_s hj5))) (As := []) (nn := 0) (stk := [.ref (ad ((54 + 10 * j5) + 1))]) (ci := 0) dX9_abandon_18 gX9_abandon_X0_count ⟨rfl, by decide, by decide, by decide +kernel⟩ (by have := isChg_b (isSlt_c (isSlt_s hj5)); omega) (isChg_0 (isSlt_c (isSlt_s hj5))) rfl rfl rfl (by decide) rfl rfl (Nat.le_of_ble_eq_true rfl) (by decide) h (fun r6 m7 h => ?_)
  show V 0 21 [(0, .ref (ad 0)), (1, .int p1)] [.int r6] m7
  refine r_istore_n C dX9_abandon_21 rfl (by decide) (show _ = [(2, .int r6), (0, .ref (ad 0)), (1, .int p1)] from rfl) ?_
  refine r_aload_n C dX9_abandon_22 rfl 1 rfl ?_
  refine r_iload_n C dX9_abandon_23 rfl 2 rfl ?_
  refine r_callV C (c_X9_leaveReadyOrder nw hnw p1) (As := [.int p1]) (nn := 1) (stk := [.int p1, .ref (ad 0)]) (ci := 9) dX9_abandon_24 gX9_abandon_X9_leaveReadyOrder ⟨rfl, by decide, by decide, by decide +kernel⟩ (by omega) la_0 rfl rfl rfl (by decide) rfl rfl (Nat.le_of_ble_eq_true rfl) (by decide) h (fun r8 m9 h => ?_)
  show V 0 27 [(2, .int r6), (0, .ref (ad 0)), (1, .int p1)] [] m9
  refine r_aload_n C dX9_abandon_27 rfl 1 rfl ?_
  refine r_getr C (ci := 9) (k9 := 5) dX9_abandon_28 rfl F_i9 (by decide) F_k42 (by omega) la_0 rfl ?_
  refine r_iload_n C dX9_abandon_31 rfl 2 rfl ?_
  refine r_aald C (b0 := 54) (d0 := 10) dX9_abandon_32 (by omega) la_53 (fun _ => rfl) rfl h (fun j10 hj10 h => ?_)
  refine r_iconst C (v := 0) dX9_abandon_33 (by decide) ?_
  refine r_callV C (c_X7_reset nw hnw (54 + 10 * j10) 0 (isSlt_s hj10)) (As := [.int 0]) (nn := 1) (stk := [.int 0, .ref (ad (54 + 10 * j10))]) (ci := 7) dX9_abandon_34 gX9_abandon_X7_reset ⟨rfl, by decide, by decide, by decide +kernel⟩ (by have := isSlt_b (isSlt_s hj10); omega) (isSlt_0 (isSlt_s hj10)) rfl rfl rfl (by decide) rfl rfl (Nat.le_of_ble_eq_true rfl) (by decide) h (fun r11 m12 h => ?_)
  show V 0 37 [(2, .int r6), (0, .ref (ad 0)), (1, .int p1)] [] m12
  refine r_iload_n C dX9_abandon_37 rfl 0 rfl ?_
  exact r_iret C dX9_abandon_38 rfl h
noncomputable def f_X2_append (p1 : Int32) (m : sM) : Option (sR Unit) :=
  s_jn (fun (m29_ : sM) => some (.inl (), m29_)) fun k29 => if 60 ≤ (m.1 85 1) then (k29  m) else (s_ix (m.1 85 1) 60 fun j1 => s_md (s_up m 86 j1 (vp_nar .char p1)) fun m2 => s_md (s_up m2 85 1 ((m2.1 85 1) + 1)) fun m3 => k29  m3)
set_option maxRecDepth 20000 in
set_option maxHeartbeats 4000000 in
theorem c_X2_append (nw : Nat) (hnw : 109 ≤ nw) (p1 : Int32) : s_Con s_u 0 nw yX2_append wsX2_append 12 140 0 (f_X2_append p1) (fun ad => [.ref (ad 85), .int p1]) := by
  refine s_con_of cX2_append 2 none RX2 (by decide) rfl rfl (fun _ => Nat.le_of_ble_eq_true rfl) (fun ad m res V C h => ?_)
  unfold f_X2_append at h
  have F_i2 : ∀ w ∈ wsX20, w ∈ wsX2_append := by decide +kernel
  have F_k15 : Cond.fieldLink RX2 15 "ShadowFile$Input" "length" "I" ∈ wsX2_append := by decide +kernel
  have F_k11 : Cond.fieldLink RX2 11 "ShadowFile$Input" "signs" "[C" ∈ wsX2_append := by decide +kernel
  show V 0 0 [(0, .ref (ad 85)), (1, .int p1)] [] m
  refine r_aload_n C dX2_append_0 rfl 0 rfl ?_
  refine r_geti C (ci := 2) (k9 := 1) dX2_append_1 rfl F_i2 (by decide) F_k15 (by omega) la_85 rfl ?_
  refine r_bipush C (v := 60) dX2_append_4 (by decide) ?_
  refine s_join h (fun k29 => ∀ (m29_ : sM), k29 m29_ = some res → V 0 29 [] [] m29_) ?_ (fun k29 hk29 h => ?_)
  · intro m29_ h
    exact r_vret C dX2_append_29 rfl h
  refine r_icmp_ge C (tgt := 29) dX2_append_6 (by decide) h (fun _ h => ?_) (fun _ h => ?_)
  · skip
    refine r_sub C [] (show _ = [] from rfl) ?_
    exact hk29 m h
  · skip
    refine r_aload_n C dX2_append_9 rfl 0 rfl ?_
    refine r_getr C (ci := 2) (k9 := 0) dX2_append_10 rfl F_i2 (by decide) F_k11 (by omega) la_85 rfl ?_
    refine r_aload_n C dX2_append_13 rfl 0 rfl ?_
    refine r_geti C (ci := 2) (k9 := 1) dX2_append_14 rfl F_i2 (by decide) F_k15 (by omega) la_85 rfl ?_
    refine r_iload_n C dX2_append_17 rfl 1 rfl ?_
    refine r_cast C dX2_append_18 (by omega) la_86 h (fun j1 m2 hj1 _ h => ?_)
    refine r_aload_n C dX2_append_19 rfl 0 rfl ?_
    refine r_dup C dX2_append_20 rfl ?_
    refine r_geti C (ci := 2) (k9 := 1) dX2_append_21 rfl F_i2 (by decide) F_k15 (by omega) la_85 rfl ?_
    refine r_iconst C (v := 1) dX2_append_24 (by decide) ?_
    refine r_iadd C dX2_append_25 ?_
    refine r_puti C (ci := 2) (k9 := 1) dX2_append_26 rfl F_i2 (by decide) F_k15 (by omega) la_85 rfl tyX2 tyX2_ok nmX2 rfl (tyX2_ok 1 (by decide)) rfl rfl h (fun m3 _ h => ?_)
    refine r_sub C [] (show _ = [] from rfl) ?_
    exact hk29 m3 h
noncomputable def f_X9_feed (p1 : Int32) (m : sM) : Option (sR Int32) :=
  if (m.1 85 1) < 60 then (s_bd (f_X2_append p1 m) fun r1 m2 => some (.inl (m2.1 85 1), m2)) else (some (.inr "java/lang/IllegalStateException", m))
set_option maxRecDepth 20000 in
set_option maxHeartbeats 4000000 in
theorem c_X9_feed (nw : Nat) (hnw : 109 ≤ nw) (p1 : Int32) : s_Con s_i 0 nw yX9_feed wsX9_feed 14 185 1 (f_X9_feed p1) (fun ad => [.ref (ad 0), .int p1]) := by
  refine s_con_of cX9_feed 2 (some .int) RX9 (by decide) rfl rfl (fun _ => Nat.le_of_ble_eq_true rfl) (fun ad m res V C h => ?_)
  unfold f_X9_feed at h
  have F_i9 : ∀ w ∈ wsX90, w ∈ wsX9_feed := by decide +kernel
  have F_k65 : Cond.fieldLink RX9 65 "ShadowFile" "input" "LShadowFile$Input;" ∈ wsX9_feed := by decide +kernel
  have F_i2 : ∀ w ∈ wsX20, w ∈ wsX9_feed := by decide +kernel
  have F_k185 : Cond.fieldLink RX9 185 "ShadowFile$Input" "length" "I" ∈ wsX9_feed := by decide +kernel
  have F_q117 : Cond.classLink RX9 117 "java/lang/IllegalStateException" ∈ wsX9_feed := by decide +kernel
  have F_u117 : Cond.initialized "java/lang/IllegalStateException" ∈ wsX9_feed := by decide +kernel
  have F_z121 : ∀ w ∈ (vx_atS RX9 121 "java/lang/IllegalStateException" ["java/lang/RuntimeException", "java/lang/Exception"]).filter goodWord, w ∈ wsX9_feed := by decide +kernel
  have F_y121 : ∀ w ∈ (vx_atS RX9 121 "java/lang/IllegalStateException" ["java/lang/RuntimeException", "java/lang/Exception"]).filter (fun w => !goodWord w), w ∈ Cond.castable "java/lang/IllegalStateException" "java/lang/IllegalStateException" :: s_dec.map Cond.declares := by decide +kernel
  have F_v121 : ∀ w ∈ Cond.classLink RX9 117 "java/lang/IllegalStateException" :: Cond.initialized "java/lang/IllegalStateException" :: vx_atS RX9 121 "java/lang/IllegalStateException" ["java/lang/RuntimeException", "java/lang/Exception"], vx_ot w = true := by decide +kernel
  show V 1 0 [(0, .ref (ad 0)), (1, .int p1)] [] m
  refine r_aload_n C dX9_feed_0 rfl 0 rfl ?_
  refine r_getr C (ci := 9) (k9 := 10) dX9_feed_1 rfl F_i9 (by decide) F_k65 (by omega) la_0 rfl ?_
  refine r_geti C (ci := 2) (k9 := 1) dX9_feed_4 rfl F_i2 (by decide) F_k185 (by omega) la_85 rfl ?_
  refine r_bipush C (v := 60) dX9_feed_7 (by decide) ?_
  refine r_icmp_lt C (tgt := 22) dX9_feed_9 (by decide) h (fun _ h => ?_) (fun _ h => ?_)
  · skip
    refine r_aload_n C dX9_feed_22 rfl 0 rfl ?_
    refine r_getr C (ci := 9) (k9 := 10) dX9_feed_23 rfl F_i9 (by decide) F_k65 (by omega) la_0 rfl ?_
    refine r_iload_n C dX9_feed_26 rfl 1 rfl ?_
    refine r_callV C (c_X2_append nw hnw p1) (As := [.int p1]) (nn := 1) (stk := [.int p1, .ref (ad 85)]) (ci := 2) dX9_feed_27 gX9_feed_X2_append ⟨rfl, by decide, by decide, by decide +kernel⟩ (by omega) la_85 rfl rfl rfl (by decide) rfl rfl (Nat.le_of_ble_eq_true rfl) (by decide) h (fun r1 m2 h => ?_)
    show V 1 30 [(0, .ref (ad 0)), (1, .int p1)] [] m2
    refine r_aload_n C dX9_feed_30 rfl 0 rfl ?_
    refine r_getr C (ci := 9) (k9 := 10) dX9_feed_31 rfl F_i9 (by decide) F_k65 (by omega) la_0 rfl ?_
    refine r_geti C (ci := 2) (k9 := 1) dX9_feed_34 rfl F_i2 (by decide) F_k185 (by omega) la_85 rfl ?_
    exact r_iret C dX9_feed_37 rfl h
  · skip
    exact r_throw C (text := "the input is full") (names := ["java/lang/RuntimeException", "java/lang/Exception"]) dX9_feed_12 dX9_feed_15 dX9_feed_16 dX9_feed_18 dX9_feed_21 (by decide) (by decide) F_q117 F_u117 F_z121 F_y121 F_v121 (by decide +kernel) (by decide +kernel) (by decide) (Nat.le_of_ble_eq_true rfl) (by decide) h
noncomputable def f_X2_isDigit (p0 : Int32) (m : sM) : Option (sR Int32) :=
  s_jn (fun (s0_17 : Int32) => s_gd (s0_17 = 0 ∨ s0_17 = 1) (some (.inl s0_17, m))) fun k17 => s_jn (k17 0) fun k16 => if p0 < 48 then (k16) else (if 57 < p0 then (k16) else (k17 1))
set_option maxRecDepth 20000 in
set_option maxHeartbeats 4000000 in
theorem c_X2_isDigit (nw : Nat) (hnw : 109 ≤ nw) (p0 : Int32) : s_Con s_i 0 nw yX2_isDigit wsX2_isDigit 12 140 0 (f_X2_isDigit p0) (fun ad => [.int p0]) := by
  refine s_con_of cX2_isDigit 1 (some .boolean) RX2 (by decide) rfl rfl (fun _ => Nat.le_of_ble_eq_true rfl) (fun ad m res V C h => ?_)
  unfold f_X2_isDigit at h
  show V 0 0 [(0, .int p0)] [] m
  refine r_iload_n C dX2_isDigit_0 rfl 0 rfl ?_
  refine r_bipush C (v := 48) dX2_isDigit_1 (by decide) ?_
  refine s_join h (fun k17 => ∀ (s0_17 : Int32), k17 s0_17 = some res → V 0 17 [] [.int s0_17] m) ?_ (fun k17 hk17 h => ?_)
  · intro s0_17 h
    obtain ⟨hg, h⟩ := s_gd_of h
    exact r_zret C dX2_isDigit_17 rfl (s_z hg) h
  refine s_join h (fun k16 => k16  = some res → V 0 16 [] [] m) ?_ (fun k16 hk16 h => ?_)
  · intro  h
    refine r_iconst C (v := 0) dX2_isDigit_16 (by decide) ?_
    exact hk17 0 h
  refine r_icmp_lt C (tgt := 16) dX2_isDigit_3 (by decide) h (fun _ h => ?_) (fun _ h => ?_)
  · skip
    refine r_sub C [] (show _ = [] from rfl) ?_
    exact hk16 h
  · skip
    refine r_iload_n C dX2_isDigit_6 rfl 0 rfl ?_
    refine r_bipush C (v := 57) dX2_isDigit_7 (by decide) ?_
    refine r_icmp_gt C (tgt := 16) dX2_isDigit_9 (by decide) h (fun _ h => ?_) (fun _ h => ?_)
    · skip
      refine r_sub C [] (show _ = [] from rfl) ?_
      exact hk16 h
    · skip
      refine r_iconst C (v := 1) dX2_isDigit_12 (by decide) ?_
      refine r_goto C (tgt := 17) dX2_isDigit_13 (by decide) ?_
      refine r_sub C [] (show _ = [] from rfl) ?_
      exact hk17 1 h
noncomputable def f_X2_followDigit (p0 : Int32) (m : sM) : Option (sR Int32) :=
  if p0 = 0 then (some (.inl 1, m)) else if p0 = 1 then (some (.inl (p0 + 1), m)) else if p0 = 2 then (some (.inl (-1), m)) else if p0 = 3 then (some (.inl 5, m)) else if p0 = 4 then (some (.inl 5, m)) else if p0 = 5 then (some (.inl (p0 + 1), m)) else if p0 = 6 then (some (.inl (p0 + 1), m)) else if p0 = 7 then (some (.inl (p0 + 1), m)) else if p0 = 8 then (some (.inl (-1), m)) else if p0 = 9 then (some (.inl (p0 + 1), m)) else if p0 = 10 then (some (.inl (p0 + 1), m)) else if p0 = 11 then (some (.inl (-1), m)) else (some (.inl (p0 + 1), m))
set_option maxRecDepth 20000 in
set_option maxHeartbeats 4000000 in
theorem c_X2_followDigit (nw : Nat) (hnw : 109 ≤ nw) (p0 : Int32) : s_Con s_i 0 nw yX2_followDigit wsX2_followDigit 12 140 0 (f_X2_followDigit p0) (fun ad => [.int p0]) := by
  refine s_con_of cX2_followDigit 1 (some .int) RX2 (by decide) rfl rfl (fun _ => Nat.le_of_ble_eq_true rfl) (fun ad m res V C h => ?_)
  unfold f_X2_followDigit at h
  show V 0 0 [(0, .int p0)] [] m
  refine r_iload_n C dX2_followDigit_0 rfl 0 rfl ?_
  by_cases q0 : p0 = 0
  · have h := s_pos q0 h
    refine r_tabIn C (off := 63) (tgt := 64) dX2_followDigit_1 (by rw [q0]; decide) (by rw [q0]; decide) (by rw [q0]; rfl) (by decide) ?_
    refine r_iconst C (v := 1) dX2_followDigit_64 (by decide) ?_
    exact r_iret C dX2_followDigit_65 rfl h
  have h := s_neg q0 h
  by_cases q1 : p0 = 1
  · have h := s_pos q1 h
    refine r_tabIn C (off := 69) (tgt := 70) dX2_followDigit_1 (by rw [q1]; decide) (by rw [q1]; decide) (by rw [q1]; rfl) (by decide) ?_
    refine r_iload_n C dX2_followDigit_70 rfl 0 rfl ?_
    refine r_iconst C (v := 1) dX2_followDigit_71 (by decide) ?_
    refine r_iadd C dX2_followDigit_72 ?_
    exact r_iret C dX2_followDigit_73 rfl h
  have h := s_neg q1 h
  by_cases q2 : p0 = 2
  · have h := s_pos q2 h
    refine r_tabIn C (off := 67) (tgt := 68) dX2_followDigit_1 (by rw [q2]; decide) (by rw [q2]; decide) (by rw [q2]; rfl) (by decide) ?_
    refine r_iconst C (v := -1) dX2_followDigit_68 (by decide) ?_
    exact r_iret C dX2_followDigit_69 rfl h
  have h := s_neg q2 h
  by_cases q3 : p0 = 3
  · have h := s_pos q3 h
    refine r_tabIn C (off := 65) (tgt := 66) dX2_followDigit_1 (by rw [q3]; decide) (by rw [q3]; decide) (by rw [q3]; rfl) (by decide) ?_
    refine r_iconst C (v := 5) dX2_followDigit_66 (by decide) ?_
    exact r_iret C dX2_followDigit_67 rfl h
  have h := s_neg q3 h
  by_cases q4 : p0 = 4
  · have h := s_pos q4 h
    refine r_tabIn C (off := 65) (tgt := 66) dX2_followDigit_1 (by rw [q4]; decide) (by rw [q4]; decide) (by rw [q4]; rfl) (by decide) ?_
    refine r_iconst C (v := 5) dX2_followDigit_66 (by decide) ?_
    exact r_iret C dX2_followDigit_67 rfl h
  have h := s_neg q4 h
  by_cases q5 : p0 = 5
  · have h := s_pos q5 h
    refine r_tabIn C (off := 69) (tgt := 70) dX2_followDigit_1 (by rw [q5]; decide) (by rw [q5]; decide) (by rw [q5]; rfl) (by decide) ?_
    refine r_iload_n C dX2_followDigit_70 rfl 0 rfl ?_
    refine r_iconst C (v := 1) dX2_followDigit_71 (by decide) ?_
    refine r_iadd C dX2_followDigit_72 ?_
    exact r_iret C dX2_followDigit_73 rfl h
  have h := s_neg q5 h
  by_cases q6 : p0 = 6
  · have h := s_pos q6 h
    refine r_tabIn C (off := 69) (tgt := 70) dX2_followDigit_1 (by rw [q6]; decide) (by rw [q6]; decide) (by rw [q6]; rfl) (by decide) ?_
    refine r_iload_n C dX2_followDigit_70 rfl 0 rfl ?_
    refine r_iconst C (v := 1) dX2_followDigit_71 (by decide) ?_
    refine r_iadd C dX2_followDigit_72 ?_
    exact r_iret C dX2_followDigit_73 rfl h
  have h := s_neg q6 h
  by_cases q7 : p0 = 7
  · have h := s_pos q7 h
    refine r_tabIn C (off := 69) (tgt := 70) dX2_followDigit_1 (by rw [q7]; decide) (by rw [q7]; decide) (by rw [q7]; rfl) (by decide) ?_
    refine r_iload_n C dX2_followDigit_70 rfl 0 rfl ?_
    refine r_iconst C (v := 1) dX2_followDigit_71 (by decide) ?_
    refine r_iadd C dX2_followDigit_72 ?_
    exact r_iret C dX2_followDigit_73 rfl h
  have h := s_neg q7 h
  by_cases q8 : p0 = 8
  · have h := s_pos q8 h
    refine r_tabIn C (off := 67) (tgt := 68) dX2_followDigit_1 (by rw [q8]; decide) (by rw [q8]; decide) (by rw [q8]; rfl) (by decide) ?_
    refine r_iconst C (v := -1) dX2_followDigit_68 (by decide) ?_
    exact r_iret C dX2_followDigit_69 rfl h
  have h := s_neg q8 h
  by_cases q9 : p0 = 9
  · have h := s_pos q9 h
    refine r_tabIn C (off := 69) (tgt := 70) dX2_followDigit_1 (by rw [q9]; decide) (by rw [q9]; decide) (by rw [q9]; rfl) (by decide) ?_
    refine r_iload_n C dX2_followDigit_70 rfl 0 rfl ?_
    refine r_iconst C (v := 1) dX2_followDigit_71 (by decide) ?_
    refine r_iadd C dX2_followDigit_72 ?_
    exact r_iret C dX2_followDigit_73 rfl h
  have h := s_neg q9 h
  by_cases q10 : p0 = 10
  · have h := s_pos q10 h
    refine r_tabIn C (off := 69) (tgt := 70) dX2_followDigit_1 (by rw [q10]; decide) (by rw [q10]; decide) (by rw [q10]; rfl) (by decide) ?_
    refine r_iload_n C dX2_followDigit_70 rfl 0 rfl ?_
    refine r_iconst C (v := 1) dX2_followDigit_71 (by decide) ?_
    refine r_iadd C dX2_followDigit_72 ?_
    exact r_iret C dX2_followDigit_73 rfl h
  have h := s_neg q10 h
  by_cases q11 : p0 = 11
  · have h := s_pos q11 h
    refine r_tabIn C (off := 67) (tgt := 68) dX2_followDigit_1 (by rw [q11]; decide) (by rw [q11]; decide) (by rw [q11]; rfl) (by decide) ?_
    refine r_iconst C (v := -1) dX2_followDigit_68 (by decide) ?_
    exact r_iret C dX2_followDigit_69 rfl h
  have h := s_neg q11 h
  refine r_tabOut C (tgt := 70) dX2_followDigit_1 (by have z0 := lv_neT q0 (a := 0) rfl; have z1 := lv_neT q1 (a := 1) rfl; have z2 := lv_neT q2 (a := 2) rfl; have z3 := lv_neT q3 (a := 3) rfl; have z4 := lv_neT q4 (a := 4) rfl; have z5 := lv_neT q5 (a := 5) rfl; have z6 := lv_neT q6 (a := 6) rfl; have z7 := lv_neT q7 (a := 7) rfl; have z8 := lv_neT q8 (a := 8) rfl; have z9 := lv_neT q9 (a := 9) rfl; have z10 := lv_neT q10 (a := 10) rfl; have z11 := lv_neT q11 (a := 11) rfl; omega) (by decide) ?_
  refine r_iload_n C dX2_followDigit_70 rfl 0 rfl ?_
  refine r_iconst C (v := 1) dX2_followDigit_71 (by decide) ?_
  refine r_iadd C dX2_followDigit_72 ?_
  exact r_iret C dX2_followDigit_73 rfl h
noncomputable def f_X2_mayEnd (p0 : Int32) (m : sM) : Option (sR Int32) :=
  s_jn (fun (s0_28 : Int32) => s_gd (s0_28 = 0 ∨ s0_28 = 1) (some (.inl s0_28, m))) fun k28 => s_jn (k28 1) fun k23 => s_jn (if p0 = 10 then (k23) else (if p0 = 11 then (k23) else (k28 0))) fun k11 => if p0 < 5 then (k11) else (if p0 ≤ 8 then (k23) else (k11))
set_option maxRecDepth 20000 in
set_option maxHeartbeats 4000000 in
theorem c_X2_mayEnd (nw : Nat) (hnw : 109 ≤ nw) (p0 : Int32) : s_Con s_i 0 nw yX2_mayEnd wsX2_mayEnd 12 140 0 (f_X2_mayEnd p0) (fun ad => [.int p0]) := by
  refine s_con_of cX2_mayEnd 1 (some .boolean) RX2 (by decide) rfl rfl (fun _ => Nat.le_of_ble_eq_true rfl) (fun ad m res V C h => ?_)
  unfold f_X2_mayEnd at h
  show V 0 0 [(0, .int p0)] [] m
  refine r_iload_n C dX2_mayEnd_0 rfl 0 rfl ?_
  refine r_iconst C (v := 5) dX2_mayEnd_1 (by decide) ?_
  refine s_join h (fun k28 => ∀ (s0_28 : Int32), k28 s0_28 = some res → V 0 28 [] [.int s0_28] m) ?_ (fun k28 hk28 h => ?_)
  · intro s0_28 h
    obtain ⟨hg, h⟩ := s_gd_of h
    exact r_zret C dX2_mayEnd_28 rfl (s_z hg) h
  refine s_join h (fun k23 => k23  = some res → V 0 23 [] [] m) ?_ (fun k23 hk23 h => ?_)
  · intro  h
    refine r_iconst C (v := 1) dX2_mayEnd_23 (by decide) ?_
    refine r_goto C (tgt := 28) dX2_mayEnd_24 (by decide) ?_
    exact hk28 1 h
  refine s_join h (fun k11 => k11  = some res → V 0 11 [(0, .int p0)] [] m) ?_ (fun k11 hk11 h => ?_)
  · intro  h
    refine r_iload_n C dX2_mayEnd_11 rfl 0 rfl ?_
    refine r_bipush C (v := 10) dX2_mayEnd_12 (by decide) ?_
    refine r_icmp_eq C (tgt := 23) dX2_mayEnd_14 (by decide) h (fun _ h => ?_) (fun _ h => ?_)
    · skip
      refine r_sub C [] (show _ = [] from rfl) ?_
      exact hk23 h
    · skip
      refine r_iload_n C dX2_mayEnd_17 rfl 0 rfl ?_
      refine r_bipush C (v := 11) dX2_mayEnd_18 (by decide) ?_
      refine r_icmp_ne C (tgt := 27) dX2_mayEnd_20 (by decide) h (fun _ h => ?_) (fun _ h => ?_)
      · skip
        refine r_sub C [] (show _ = [] from rfl) ?_
        exact hk23 h
      · skip
        refine r_iconst C (v := 0) dX2_mayEnd_27 (by decide) ?_
        refine r_sub C [] (show _ = [] from rfl) ?_
        exact hk28 0 h
  refine r_icmp_lt C (tgt := 11) dX2_mayEnd_2 (by decide) h (fun _ h => ?_) (fun _ h => ?_)
  · skip
    exact hk11 h
  · skip
    refine r_iload_n C dX2_mayEnd_5 rfl 0 rfl ?_
    refine r_bipush C (v := 8) dX2_mayEnd_6 (by decide) ?_
    refine r_icmp_le C (tgt := 23) dX2_mayEnd_8 (by decide) h (fun _ h => ?_) (fun _ h => ?_)
    · skip
      refine r_sub C [] (show _ = [] from rfl) ?_
      exact hk23 h
    · skip
      exact hk11 h
noncomputable def f_X2_follow (p0 : Int32) (p1 : Int32) (m : sM) : Option (sR Int32) :=
  s_bd (f_X2_isDigit p1 m) fun r1 m2 => if r1 = 0 then (s_jn (fun (m27_ : sM) => s_jn (s_jn (s_jn (fun (s0_74 : Int32) => some (.inl s0_74, m27_)) fun k74 => s_jn (k74 (-1)) fun k73 => if p1 = 45 then (if p0 = 3 then (k74 4) else (k73)) else (k73)) fun k58 => if p1 = 45 then (if p0 = 0 then (some (.inl 9, m27_)) else (k58)) else (k58)) fun k45 => if p1 = 61 then (s_jn (some (.inl 3, m27_)) fun k43 => if p0 = 1 then (k43) else (if p0 = 2 then (k43) else (k45))) else (k45)) fun k27 => if p1 = 44 then (s_bd (f_X2_mayEnd p0 m2) fun r3 m4 => if r3 = 0 then (k27  m4) else (some (.inl 0, m4))) else (k27  m2)) else (s_bd (f_X2_followDigit p0 m2) fun r5 m6 => some (.inl r5, m6))
set_option maxRecDepth 20000 in
set_option maxHeartbeats 4000000 in
theorem c_X2_follow (nw : Nat) (hnw : 109 ≤ nw) (p0 : Int32) (p1 : Int32) : s_Con s_i 0 nw yX2_follow wsX2_follow 14 185 0 (f_X2_follow p0 p1) (fun ad => [.int p0, .int p1]) := by
  refine s_con_of cX2_follow 2 (some .int) RX2 (by decide) rfl rfl (fun _ => Nat.le_of_ble_eq_true rfl) (fun ad m res V C h => ?_)
  unfold f_X2_follow at h
  show V 0 0 [(0, .int p0), (1, .int p1)] [] m
  refine r_iload_n C dX2_follow_0 rfl 1 rfl ?_
  refine r_callS C (c_X2_isDigit nw hnw p1) (As := [.int p1]) (nn := 1) (stk := [.int p1]) dX2_follow_1 gX2_follow_X2_isDigit ⟨by decide, by decide, by decide +kernel⟩ rfl rfl (by decide) rfl rfl (Nat.le_of_ble_eq_true rfl) (by decide) h (fun r1 m2 h => ?_)
  show V 0 4 [(0, .int p0), (1, .int p1)] [.int r1] m2
  refine r_if_eq C (tgt := 12) dX2_follow_4 (by decide) h (fun _ h => ?_) (fun _ h => ?_)
  · skip
    refine r_iload_n C dX2_follow_12 rfl 1 rfl ?_
    refine r_bipush C (v := 44) dX2_follow_13 (by decide) ?_
    refine s_join h (fun k27 => ∀ (m27_ : sM), k27 m27_ = some res → V 0 27 [(0, .int p0), (1, .int p1)] [] m27_) ?_ (fun k27 hk27 h => ?_)
    · intro m27_ h
      refine r_iload_n C dX2_follow_27 rfl 1 rfl ?_
      refine r_bipush C (v := 61) dX2_follow_28 (by decide) ?_
      refine s_join h (fun k45 => k45  = some res → V 0 45 [(0, .int p0), (1, .int p1)] [] m27_) ?_ (fun k45 hk45 h => ?_)
      · intro  h
        refine r_iload_n C dX2_follow_45 rfl 1 rfl ?_
        refine r_bipush C (v := 45) dX2_follow_46 (by decide) ?_
        refine s_join h (fun k58 => k58  = some res → V 0 58 [(0, .int p0), (1, .int p1)] [] m27_) ?_ (fun k58 hk58 h => ?_)
        · intro  h
          refine r_iload_n C dX2_follow_58 rfl 1 rfl ?_
          refine r_bipush C (v := 45) dX2_follow_59 (by decide) ?_
          refine s_join h (fun k74 => ∀ (s0_74 : Int32), k74 s0_74 = some res → V 0 74 [] [.int s0_74] m27_) ?_ (fun k74 hk74 h => ?_)
          · intro s0_74 h
            exact r_iret C dX2_follow_74 rfl h
          refine s_join h (fun k73 => k73  = some res → V 0 73 [] [] m27_) ?_ (fun k73 hk73 h => ?_)
          · intro  h
            refine r_iconst C (v := -1) dX2_follow_73 (by decide) ?_
            exact hk74 (-1) h
          refine r_icmp_ne C (tgt := 73) dX2_follow_61 (by decide) h (fun _ h => ?_) (fun _ h => ?_)
          · skip
            refine r_iload_n C dX2_follow_64 rfl 0 rfl ?_
            refine r_iconst C (v := 3) dX2_follow_65 (by decide) ?_
            refine r_icmp_ne C (tgt := 73) dX2_follow_66 (by decide) h (fun _ h => ?_) (fun _ h => ?_)
            · skip
              refine r_iconst C (v := 4) dX2_follow_69 (by decide) ?_
              refine r_goto C (tgt := 74) dX2_follow_70 (by decide) ?_
              refine r_sub C [] (show _ = [] from rfl) ?_
              exact hk74 4 h
            · skip
              refine r_sub C [] (show _ = [] from rfl) ?_
              exact hk73 h
          · skip
            refine r_sub C [] (show _ = [] from rfl) ?_
            exact hk73 h
        refine r_icmp_ne C (tgt := 58) dX2_follow_48 (by decide) h (fun _ h => ?_) (fun _ h => ?_)
        · skip
          refine r_iload_n C dX2_follow_51 rfl 0 rfl ?_
          refine r_if_ne C (tgt := 58) dX2_follow_52 (by decide) h (fun _ h => ?_) (fun _ h => ?_)
          · skip
            refine r_bipush C (v := 9) dX2_follow_55 (by decide) ?_
            exact r_iret C dX2_follow_57 rfl h
          · skip
            exact hk58 h
        · skip
          exact hk58 h
      refine r_icmp_ne C (tgt := 45) dX2_follow_30 (by decide) h (fun _ h => ?_) (fun _ h => ?_)
      · skip
        refine r_iload_n C dX2_follow_33 rfl 0 rfl ?_
        refine r_iconst C (v := 1) dX2_follow_34 (by decide) ?_
        refine s_join h (fun k43 => k43  = some res → V 0 43 [] [] m27_) ?_ (fun k43 hk43 h => ?_)
        · intro  h
          refine r_iconst C (v := 3) dX2_follow_43 (by decide) ?_
          exact r_iret C dX2_follow_44 rfl h
        refine r_icmp_eq C (tgt := 43) dX2_follow_35 (by decide) h (fun _ h => ?_) (fun _ h => ?_)
        · skip
          refine r_sub C [] (show _ = [] from rfl) ?_
          exact hk43 h
        · skip
          refine r_iload_n C dX2_follow_38 rfl 0 rfl ?_
          refine r_iconst C (v := 2) dX2_follow_39 (by decide) ?_
          refine r_icmp_ne C (tgt := 45) dX2_follow_40 (by decide) h (fun _ h => ?_) (fun _ h => ?_)
          · skip
            refine r_sub C [] (show _ = [] from rfl) ?_
            exact hk43 h
          · skip
            exact hk45 h
      · skip
        exact hk45 h
    refine r_icmp_ne C (tgt := 27) dX2_follow_15 (by decide) h (fun _ h => ?_) (fun _ h => ?_)
    · skip
      refine r_iload_n C dX2_follow_18 rfl 0 rfl ?_
      refine r_callS C (c_X2_mayEnd nw hnw p0) (As := [.int p0]) (nn := 1) (stk := [.int p0]) dX2_follow_19 gX2_follow_X2_mayEnd ⟨by decide, by decide, by decide +kernel⟩ rfl rfl (by decide) rfl rfl (Nat.le_of_ble_eq_true rfl) (by decide) h (fun r3 m4 h => ?_)
      show V 0 22 [(0, .int p0), (1, .int p1)] [.int r3] m4
      refine r_if_eq C (tgt := 27) dX2_follow_22 (by decide) h (fun _ h => ?_) (fun _ h => ?_)
      · skip
        exact hk27 m4 h
      · skip
        refine r_iconst C (v := 0) dX2_follow_25 (by decide) ?_
        exact r_iret C dX2_follow_26 rfl h
    · skip
      exact hk27 m2 h
  · skip
    refine r_iload_n C dX2_follow_7 rfl 0 rfl ?_
    refine r_callS C (c_X2_followDigit nw hnw p0) (As := [.int p0]) (nn := 1) (stk := [.int p0]) dX2_follow_8 gX2_follow_X2_followDigit ⟨by decide, by decide, by decide +kernel⟩ rfl rfl (by decide) rfl rfl (Nat.le_of_ble_eq_true rfl) (by decide) h (fun r5 m6 h => ?_)
    show V 0 11 [(0, .int p0), (1, .int p1)] [.int r5] m6
    exact r_iret C dX2_follow_11 rfl h
noncomputable def f_X2_takeDigit (p1 : Int32) (p2 : Int32) (p3 : Int32) (m : sM) : Option (sR Unit) :=
  s_ix p2 60 fun j1 => s_jn (fun (m192_ : sM) => some (.inl (), m192_)) fun k192 => s_jn (s_jn (if (m.1 85 6) ≤ 0 then (k192  m) else (if p1 < 5 then (k192  m) else (if 8 < p1 then (k192  m) else (s_ix ((m.1 85 6) - 1) 60 fun j2 => s_ix ((m.1 85 6) - 1) 60 fun j3 => s_md (s_up m 89 j3 ((10 * (m.1 89 j2)) + (p3 * ((m.1 86 j1) - 48)))) fun m4 => k192  m4)))) fun k144 => if (m.1 85 6) ≤ 0 then (k144) else (s_jn (s_ix ((m.1 85 6) - 1) 60 fun j5 => s_ix ((m.1 85 6) - 1) 60 fun j6 => s_md (s_up m 87 j6 ((10 * (m.1 87 j5)) + ((m.1 86 j1) - 48))) fun m7 => k192  m7) fun k113 => if p1 = 2 then (k113) else (if p1 = 11 then (k113) else (k144)))) fun k95 => if 60 ≤ (m.1 85 6) then (k95) else (s_jn (s_ix (m.1 85 6) 60 fun j8 => s_md (s_up m 87 j8 ((m.1 86 j1) - 48)) fun m9 => s_ix (m9.1 85 6) 60 fun j10 => s_md (s_up m9 88 j10 p2) fun m11 => s_ix (m11.1 85 6) 60 fun j12 => s_md (s_up m11 89 j12 0) fun m13 => s_jn (fun (s0_81 : Int32) => s_ix (m13.1 85 6) 60 fun j14 => s_md (s_up m13 90 j14 (vp_nar .boolean s0_81)) fun m15 => s_md (s_up m15 85 6 ((m15.1 85 6) + 1)) fun m16 => k192  m16) fun k81 => if p1 = 10 then (k81 1) else (k81 0)) fun k31 => if p1 = 1 then (k31) else (if p1 = 10 then (k31) else (k95)))
set_option maxRecDepth 20000 in
set_option maxHeartbeats 4000000 in
theorem c_X2_takeDigit (nw : Nat) (hnw : 109 ≤ nw) (p1 : Int32) (p2 : Int32) (p3 : Int32) : s_Con s_u 0 nw yX2_takeDigit wsX2_takeDigit 12 140 0 (f_X2_takeDigit p1 p2 p3) (fun ad => [.ref (ad 85), .int p1, .int p2, .int p3]) := by
  refine s_con_of cX2_takeDigit 5 none RX2 (by decide) rfl rfl (fun _ => Nat.le_of_ble_eq_true rfl) (fun ad m res V C h => ?_)
  unfold f_X2_takeDigit at h
  have F_i2 : ∀ w ∈ wsX20, w ∈ wsX2_takeDigit := by decide +kernel
  have F_k11 : Cond.fieldLink RX2 11 "ShadowFile$Input" "signs" "[C" ∈ wsX2_takeDigit := by decide +kernel
  have F_k33 : Cond.fieldLink RX2 33 "ShadowFile$Input" "entries" "I" ∈ wsX2_takeDigit := by decide +kernel
  have F_k26 : Cond.fieldLink RX2 26 "ShadowFile$Input" "values" "[I" ∈ wsX2_takeDigit := by decide +kernel
  have F_k19 : Cond.fieldLink RX2 19 "ShadowFile$Input" "keys" "[I" ∈ wsX2_takeDigit := by decide +kernel
  have F_k23 : Cond.fieldLink RX2 23 "ShadowFile$Input" "keyPlaces" "[I" ∈ wsX2_takeDigit := by decide +kernel
  have F_k29 : Cond.fieldLink RX2 29 "ShadowFile$Input" "removals" "[Z" ∈ wsX2_takeDigit := by decide +kernel
  show V 0 0 [(0, .ref (ad 85)), (1, .int p1), (2, .int p2), (3, .int p3)] [] m
  refine r_aload_n C dX2_takeDigit_0 rfl 0 rfl ?_
  refine r_getr C (ci := 2) (k9 := 0) dX2_takeDigit_1 rfl F_i2 (by decide) F_k11 (by omega) la_85 rfl ?_
  refine r_iload_n C dX2_takeDigit_4 rfl 2 rfl ?_
  refine r_cald C dX2_takeDigit_5 (by omega) la_86 h (fun j1 hj1 h => ?_)
  refine r_bipush C (v := 48) dX2_takeDigit_6 (by decide) ?_
  refine r_isub C dX2_takeDigit_8 ?_
  refine r_istore C dX2_takeDigit_9 (by decide) (show _ = [(4, .int ((m.1 86 j1) - 48)), (0, .ref (ad 85)), (1, .int p1), (2, .int p2), (3, .int p3)] from rfl) ?_
  refine r_aload_n C dX2_takeDigit_11 rfl 1 rfl ?_
  refine r_geti C (ci := 2) (k9 := 6) dX2_takeDigit_12 rfl F_i2 (by decide) F_k33 (by omega) la_85 rfl ?_
  refine r_bipush C (v := 60) dX2_takeDigit_15 (by decide) ?_
  refine s_join h (fun k192 => ∀ (m192_ : sM), k192 m192_ = some res → V 0 192 [] [] m192_) ?_ (fun k192 hk192 h => ?_)
  · intro m192_ h
    exact r_vret C dX2_takeDigit_192 rfl h
  refine s_join h (fun k95 => k95  = some res → V 0 95 [(0, .ref (ad 85)), (1, .int p1), (3, .int p3), (4, .int ((m.1 86 j1) - 48))] [] m) ?_ (fun k95 hk95 h => ?_)
  · intro  h
    refine r_aload_n C dX2_takeDigit_95 rfl 0 rfl ?_
    refine r_geti C (ci := 2) (k9 := 6) dX2_takeDigit_96 rfl F_i2 (by decide) F_k33 (by omega) la_85 rfl ?_
    refine s_join h (fun k144 => k144  = some res → V 0 144 [(0, .ref (ad 85)), (1, .int p1), (3, .int p3), (4, .int ((m.1 86 j1) - 48))] [] m) ?_ (fun k144 hk144 h => ?_)
    · intro  h
      refine r_aload_n C dX2_takeDigit_144 rfl 0 rfl ?_
      refine r_geti C (ci := 2) (k9 := 6) dX2_takeDigit_145 rfl F_i2 (by decide) F_k33 (by omega) la_85 rfl ?_
      refine r_if_le C (tgt := 192) dX2_takeDigit_148 (by decide) h (fun _ h => ?_) (fun _ h => ?_)
      · skip
        refine r_sub C [] (show _ = [] from rfl) ?_
        exact hk192 m h
      · skip
        refine r_iload_n C dX2_takeDigit_151 rfl 1 rfl ?_
        refine r_iconst C (v := 5) dX2_takeDigit_152 (by decide) ?_
        refine r_icmp_lt C (tgt := 192) dX2_takeDigit_153 (by decide) h (fun _ h => ?_) (fun _ h => ?_)
        · skip
          refine r_sub C [] (show _ = [] from rfl) ?_
          exact hk192 m h
        · skip
          refine r_iload_n C dX2_takeDigit_156 rfl 1 rfl ?_
          refine r_bipush C (v := 8) dX2_takeDigit_157 (by decide) ?_
          refine r_icmp_gt C (tgt := 192) dX2_takeDigit_159 (by decide) h (fun _ h => ?_) (fun _ h => ?_)
          · skip
            refine r_sub C [] (show _ = [] from rfl) ?_
            exact hk192 m h
          · skip
            refine r_aload_n C dX2_takeDigit_162 rfl 0 rfl ?_
            refine r_getr C (ci := 2) (k9 := 4) dX2_takeDigit_163 rfl F_i2 (by decide) F_k26 (by omega) la_85 rfl ?_
            refine r_aload_n C dX2_takeDigit_166 rfl 0 rfl ?_
            refine r_geti C (ci := 2) (k9 := 6) dX2_takeDigit_167 rfl F_i2 (by decide) F_k33 (by omega) la_85 rfl ?_
            refine r_iconst C (v := 1) dX2_takeDigit_170 (by decide) ?_
            refine r_isub C dX2_takeDigit_171 ?_
            refine r_bipush C (v := 10) dX2_takeDigit_172 (by decide) ?_
            refine r_aload_n C dX2_takeDigit_174 rfl 0 rfl ?_
            refine r_getr C (ci := 2) (k9 := 4) dX2_takeDigit_175 rfl F_i2 (by decide) F_k26 (by omega) la_85 rfl ?_
            refine r_aload_n C dX2_takeDigit_178 rfl 0 rfl ?_
            refine r_geti C (ci := 2) (k9 := 6) dX2_takeDigit_179 rfl F_i2 (by decide) F_k33 (by omega) la_85 rfl ?_
            refine r_iconst C (v := 1) dX2_takeDigit_182 (by decide) ?_
            refine r_isub C dX2_takeDigit_183 ?_
            refine r_iald C dX2_takeDigit_184 (by omega) la_89 h (fun j2 hj2 h => ?_)
            refine r_imul C dX2_takeDigit_185 ?_
            refine r_iload_n C dX2_takeDigit_186 rfl 2 rfl ?_
            refine r_iload C dX2_takeDigit_187 3 rfl ?_
            refine r_imul C dX2_takeDigit_189 ?_
            refine r_iadd C dX2_takeDigit_190 ?_
            refine r_iast C dX2_takeDigit_191 (by omega) la_89 h (fun j3 m4 hj3 _ h => ?_)
            refine r_sub C [] (show _ = [] from rfl) ?_
            exact hk192 m4 h
    refine r_if_le C (tgt := 144) dX2_takeDigit_99 (by decide) h (fun _ h => ?_) (fun _ h => ?_)
    · skip
      exact hk144 h
    · skip
      refine r_iload_n C dX2_takeDigit_102 rfl 1 rfl ?_
      refine r_iconst C (v := 2) dX2_takeDigit_103 (by decide) ?_
      refine s_join h (fun k113 => k113  = some res → V 0 113 [(0, .ref (ad 85)), (4, .int ((m.1 86 j1) - 48))] [] m) ?_ (fun k113 hk113 h => ?_)
      · intro  h
        refine r_aload_n C dX2_takeDigit_113 rfl 0 rfl ?_
        refine r_getr C (ci := 2) (k9 := 2) dX2_takeDigit_114 rfl F_i2 (by decide) F_k19 (by omega) la_85 rfl ?_
        refine r_aload_n C dX2_takeDigit_117 rfl 0 rfl ?_
        refine r_geti C (ci := 2) (k9 := 6) dX2_takeDigit_118 rfl F_i2 (by decide) F_k33 (by omega) la_85 rfl ?_
        refine r_iconst C (v := 1) dX2_takeDigit_121 (by decide) ?_
        refine r_isub C dX2_takeDigit_122 ?_
        refine r_bipush C (v := 10) dX2_takeDigit_123 (by decide) ?_
        refine r_aload_n C dX2_takeDigit_125 rfl 0 rfl ?_
        refine r_getr C (ci := 2) (k9 := 2) dX2_takeDigit_126 rfl F_i2 (by decide) F_k19 (by omega) la_85 rfl ?_
        refine r_aload_n C dX2_takeDigit_129 rfl 0 rfl ?_
        refine r_geti C (ci := 2) (k9 := 6) dX2_takeDigit_130 rfl F_i2 (by decide) F_k33 (by omega) la_85 rfl ?_
        refine r_iconst C (v := 1) dX2_takeDigit_133 (by decide) ?_
        refine r_isub C dX2_takeDigit_134 ?_
        refine r_iald C dX2_takeDigit_135 (by omega) la_87 h (fun j5 hj5 h => ?_)
        refine r_imul C dX2_takeDigit_136 ?_
        refine r_iload C dX2_takeDigit_137 1 rfl ?_
        refine r_iadd C dX2_takeDigit_139 ?_
        refine r_iast C dX2_takeDigit_140 (by omega) la_87 h (fun j6 m7 hj6 _ h => ?_)
        refine r_goto C (tgt := 192) dX2_takeDigit_141 (by decide) ?_
        refine r_sub C [] (show _ = [] from rfl) ?_
        exact hk192 m7 h
      refine r_icmp_eq C (tgt := 113) dX2_takeDigit_104 (by decide) h (fun _ h => ?_) (fun _ h => ?_)
      · skip
        refine r_sub C [0, 3] (show _ = [(0, .ref (ad 85)), (4, .int ((m.1 86 j1) - 48))] from rfl) ?_
        exact hk113 h
      · skip
        refine r_iload_n C dX2_takeDigit_107 rfl 1 rfl ?_
        refine r_bipush C (v := 11) dX2_takeDigit_108 (by decide) ?_
        refine r_icmp_ne C (tgt := 144) dX2_takeDigit_110 (by decide) h (fun _ h => ?_) (fun _ h => ?_)
        · skip
          refine r_sub C [0, 3] (show _ = [(0, .ref (ad 85)), (4, .int ((m.1 86 j1) - 48))] from rfl) ?_
          exact hk113 h
        · skip
          exact hk144 h
  refine r_icmp_ge C (tgt := 95) dX2_takeDigit_17 (by decide) h (fun _ h => ?_) (fun _ h => ?_)
  · skip
    refine r_sub C [1, 2, 4, 0] (show _ = [(0, .ref (ad 85)), (1, .int p1), (3, .int p3), (4, .int ((m.1 86 j1) - 48))] from rfl) ?_
    exact hk95 h
  · skip
    refine r_iload_n C dX2_takeDigit_20 rfl 2 rfl ?_
    refine r_iconst C (v := 1) dX2_takeDigit_21 (by decide) ?_
    refine s_join h (fun k31 => k31  = some res → V 0 31 [(0, .ref (ad 85)), (1, .int p1), (2, .int p2), (4, .int ((m.1 86 j1) - 48))] [] m) ?_ (fun k31 hk31 h => ?_)
    · intro  h
      refine r_aload_n C dX2_takeDigit_31 rfl 0 rfl ?_
      refine r_getr C (ci := 2) (k9 := 2) dX2_takeDigit_32 rfl F_i2 (by decide) F_k19 (by omega) la_85 rfl ?_
      refine r_aload_n C dX2_takeDigit_35 rfl 0 rfl ?_
      refine r_geti C (ci := 2) (k9 := 6) dX2_takeDigit_36 rfl F_i2 (by decide) F_k33 (by omega) la_85 rfl ?_
      refine r_iload C dX2_takeDigit_39 3 rfl ?_
      refine r_iast C dX2_takeDigit_41 (by omega) la_87 h (fun j8 m9 hj8 _ h => ?_)
      refine r_aload_n C dX2_takeDigit_42 rfl 0 rfl ?_
      refine r_getr C (ci := 2) (k9 := 3) dX2_takeDigit_43 rfl F_i2 (by decide) F_k23 (by omega) la_85 rfl ?_
      refine r_aload_n C dX2_takeDigit_46 rfl 0 rfl ?_
      refine r_geti C (ci := 2) (k9 := 6) dX2_takeDigit_47 rfl F_i2 (by decide) F_k33 (by omega) la_85 rfl ?_
      refine r_iload_n C dX2_takeDigit_50 rfl 2 rfl ?_
      refine r_iast C dX2_takeDigit_51 (by omega) la_88 h (fun j10 m11 hj10 _ h => ?_)
      refine r_aload_n C dX2_takeDigit_52 rfl 0 rfl ?_
      refine r_getr C (ci := 2) (k9 := 4) dX2_takeDigit_53 rfl F_i2 (by decide) F_k26 (by omega) la_85 rfl ?_
      refine r_aload_n C dX2_takeDigit_56 rfl 0 rfl ?_
      refine r_geti C (ci := 2) (k9 := 6) dX2_takeDigit_57 rfl F_i2 (by decide) F_k33 (by omega) la_85 rfl ?_
      refine r_iconst C (v := 0) dX2_takeDigit_60 (by decide) ?_
      refine r_iast C dX2_takeDigit_61 (by omega) la_89 h (fun j12 m13 hj12 _ h => ?_)
      refine r_aload_n C dX2_takeDigit_62 rfl 0 rfl ?_
      refine r_getr C (ci := 2) (k9 := 5) dX2_takeDigit_63 rfl F_i2 (by decide) F_k29 (by omega) la_85 rfl ?_
      refine r_aload_n C dX2_takeDigit_66 rfl 0 rfl ?_
      refine r_geti C (ci := 2) (k9 := 6) dX2_takeDigit_67 rfl F_i2 (by decide) F_k33 (by omega) la_85 rfl ?_
      refine r_iload_n C dX2_takeDigit_70 rfl 1 rfl ?_
      refine r_bipush C (v := 10) dX2_takeDigit_71 (by decide) ?_
      refine s_join h (fun k81 => ∀ (s0_81 : Int32), k81 s0_81 = some res → V 0 81 [(0, .ref (ad 85))] [.int s0_81, .int (m13.1 85 6), .ref (ad 90)] m13) ?_ (fun k81 hk81 h => ?_)
      · intro s0_81 h
        refine r_zast C dX2_takeDigit_81 (by omega) la_90 h (fun j14 m15 hj14 _ h => ?_)
        refine r_aload_n C dX2_takeDigit_82 rfl 0 rfl ?_
        refine r_dup C dX2_takeDigit_83 rfl ?_
        refine r_geti C (ci := 2) (k9 := 6) dX2_takeDigit_84 rfl F_i2 (by decide) F_k33 (by omega) la_85 rfl ?_
        refine r_iconst C (v := 1) dX2_takeDigit_87 (by decide) ?_
        refine r_iadd C dX2_takeDigit_88 ?_
        refine r_puti C (ci := 2) (k9 := 6) dX2_takeDigit_89 rfl F_i2 (by decide) F_k33 (by omega) la_85 rfl tyX2 tyX2_ok nmX2 rfl (tyX2_ok 6 (by decide)) rfl rfl h (fun m16 _ h => ?_)
        refine r_goto C (tgt := 192) dX2_takeDigit_92 (by decide) ?_
        refine r_sub C [] (show _ = [] from rfl) ?_
        exact hk192 m16 h
      refine r_icmp_ne C (tgt := 80) dX2_takeDigit_73 (by decide) h (fun _ h => ?_) (fun _ h => ?_)
      · skip
        refine r_iconst C (v := 1) dX2_takeDigit_76 (by decide) ?_
        refine r_goto C (tgt := 81) dX2_takeDigit_77 (by decide) ?_
        refine r_sub C [0] (show _ = [(0, .ref (ad 85))] from rfl) ?_
        exact hk81 1 h
      · skip
        refine r_iconst C (v := 0) dX2_takeDigit_80 (by decide) ?_
        refine r_sub C [0] (show _ = [(0, .ref (ad 85))] from rfl) ?_
        exact hk81 0 h
    refine r_icmp_eq C (tgt := 31) dX2_takeDigit_22 (by decide) h (fun _ h => ?_) (fun _ h => ?_)
    · skip
      refine r_sub C [1, 2, 3, 0] (show _ = [(0, .ref (ad 85)), (1, .int p1), (2, .int p2), (4, .int ((m.1 86 j1) - 48))] from rfl) ?_
      exact hk31 h
    · skip
      refine r_iload_n C dX2_takeDigit_25 rfl 2 rfl ?_
      refine r_bipush C (v := 10) dX2_takeDigit_26 (by decide) ?_
      refine r_icmp_ne C (tgt := 95) dX2_takeDigit_28 (by decide) h (fun _ h => ?_) (fun _ h => ?_)
      · skip
        refine r_sub C [1, 2, 3, 0] (show _ = [(0, .ref (ad 85)), (1, .int p1), (2, .int p2), (4, .int ((m.1 86 j1) - 48))] from rfl) ?_
        exact hk31 h
      · skip
        refine r_sub C [1, 2, 4, 0] (show _ = [(0, .ref (ad 85)), (1, .int p1), (3, .int p3), (4, .int ((m.1 86 j1) - 48))] from rfl) ?_
        exact hk95 h
