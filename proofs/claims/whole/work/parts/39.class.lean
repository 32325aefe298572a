noncomputable def f_X9_cell (p1 : Int32) (p2 : Int32) (m : sM) : Option (sR Int32) :=
  s_bd (f_X9_requireIndex p1 32 m) fun r1 m2 => s_bd (f_X9_requireIndex p2 13 m2) fun r3 m4 => s_ix p1 32 fun j5 => s_ix p2 13 fun j6 => some (.inl (m4.1 (4 + 1 * j5) j6), m4)
set_option maxRecDepth 20000 in
set_option maxHeartbeats 4000000 in
theorem c_X9_cell (nw : Nat) (hnw : 109 ≤ nw) (p1 : Int32) (p2 : Int32) : s_Con s_i 0 nw yX9_cell wsX9_cell 14 185 2 (f_X9_cell p1 p2) (fun ad => [.ref (ad 0), .int p1, .int p2]) := by
  refine s_con_of cX9_cell 3 (some .int) RX9 (by decide) rfl rfl (fun _ => Nat.le_of_ble_eq_true rfl) (fun ad m res V C h => ?_)
  unfold f_X9_cell at h
  have F_i9 : ∀ w ∈ wsX90, w ∈ wsX9_cell := by decide +kernel
  have F_k10 : Cond.fieldLink RX9 10 "ShadowFile" "disk" "LShadowFile$Disk;" ∈ wsX9_cell := by decide +kernel
  have F_i1 : ∀ w ∈ wsX10, w ∈ wsX9_cell := by decide +kernel
  have F_k329 : Cond.fieldLink RX9 329 "ShadowFile$Disk" "cells" "[[I" ∈ wsX9_cell := by decide +kernel
  show V 2 0 [(0, .ref (ad 0)), (1, .int p1), (2, .int p2)] [] m
  refine r_iload_n C dX9_cell_0 rfl 1 rfl ?_
  refine r_bipush C (v := 32) dX9_cell_1 (by decide) ?_
  refine r_callS C (c_X9_requireIndex nw hnw p1 32) (As := [.int p1, .int 32]) (nn := 2) (stk := [.int 32, .int p1]) dX9_cell_3 gX9_cell_X9_requireIndex ⟨by decide, by decide, by decide +kernel⟩ rfl rfl (by decide) rfl rfl (Nat.le_of_ble_eq_true rfl) (by decide) h (fun r1 m2 h => ?_)
  show V 1 6 [(0, .ref (ad 0)), (1, .int p1), (2, .int p2)] [] m2
  refine r_iload_n C dX9_cell_6 rfl 2 rfl ?_
  refine r_bipush C (v := 13) dX9_cell_7 (by decide) ?_
  refine r_callS C (c_X9_requireIndex nw hnw p2 13) (As := [.int p2, .int 13]) (nn := 2) (stk := [.int 13, .int p2]) dX9_cell_9 gX9_cell_X9_requireIndex ⟨by decide, by decide, by decide +kernel⟩ rfl rfl (by decide) rfl rfl (Nat.le_of_ble_eq_true rfl) (by decide) h (fun r3 m4 h => ?_)
  show V 0 12 [(0, .ref (ad 0)), (1, .int p1), (2, .int p2)] [] m4
  refine r_aload_n C dX9_cell_12 rfl 0 rfl ?_
  refine r_getr C (ci := 9) (k9 := 0) dX9_cell_13 rfl F_i9 (by decide) F_k10 (by omega) la_0 rfl ?_
  refine r_getr C (ci := 1) (k9 := 0) dX9_cell_16 rfl F_i1 (by decide) F_k329 (by omega) la_1 rfl ?_
  refine r_iload_n C dX9_cell_19 rfl 1 rfl ?_
  refine r_aald C (b0 := 4) (d0 := 1) dX9_cell_20 (by omega) la_2 (fun _ => rfl) rfl h (fun j5 hj5 h => ?_)
  refine r_iload_n C dX9_cell_21 rfl 2 rfl ?_
  refine r_iald C dX9_cell_22 (by have := isRow_b (isRow_d hj5); omega) (isRow_0 (isRow_d hj5)) h (fun j6 hj6 h => ?_)
  exact r_iret C dX9_cell_23 rfl h
noncomputable def f_X9_damage (p1 : Int32) (p2 : Int32) (p3 : Int32) (m : sM) : Option (sR Int32) :=
  s_bd (f_X9_requireIndex p1 32 m) fun r1 m2 => s_bd (f_X9_requireIndex p2 13 m2) fun r3 m4 => s_ix p1 32 fun j5 => s_ix p2 13 fun j6 => s_ix p1 32 fun j7 => s_ix p2 13 fun j8 => s_md (s_up m4 (4 + 1 * j7) j8 p3) fun m9 => s_jn (fun (m54_ : sM) => some (.inl (m4.1 (4 + 1 * j5) j6), m54_)) fun k54 => if (m4.1 (4 + 1 * j5) j6) = p3 then (k54  m9) else (s_ix 7 8 fun j10 => s_ix 7 8 fun j11 => s_md (s_up m9 108 j11 ((m9.1 108 j10) + 1)) fun m12 => k54  m12)
set_option maxRecDepth 20000 in
set_option maxHeartbeats 4000000 in
theorem c_X9_damage (nw : Nat) (hnw : 109 ≤ nw) (p1 : Int32) (p2 : Int32) (p3 : Int32) : s_Con s_i 0 nw yX9_damage wsX9_damage 14 185 2 (f_X9_damage p1 p2 p3) (fun ad => [.ref (ad 0), .int p1, .int p2, .int p3]) := by
  refine s_con_of cX9_damage 5 (some .int) RX9 (by decide) rfl rfl (fun _ => Nat.le_of_ble_eq_true rfl) (fun ad m res V C h => ?_)
  unfold f_X9_damage at h
  have F_i9 : ∀ w ∈ wsX90, w ∈ wsX9_damage := by decide +kernel
  have F_k10 : Cond.fieldLink RX9 10 "ShadowFile" "disk" "LShadowFile$Disk;" ∈ wsX9_damage := by decide +kernel
  have F_i1 : ∀ w ∈ wsX10, w ∈ wsX9_damage := by decide +kernel
  have F_k329 : Cond.fieldLink RX9 329 "ShadowFile$Disk" "cells" "[[I" ∈ wsX9_damage := by decide +kernel
  have F_k90 : Cond.fieldLink RX9 90 "ShadowFile" "counts" "[I" ∈ wsX9_damage := by decide +kernel
  show V 2 0 [(0, .ref (ad 0)), (1, .int p1), (2, .int p2), (3, .int p3)] [] m
  refine r_iload_n C dX9_damage_0 rfl 1 rfl ?_
  refine r_bipush C (v := 32) dX9_damage_1 (by decide) ?_
  refine r_callS C (c_X9_requireIndex nw hnw p1 32) (As := [.int p1, .int 32]) (nn := 2) (stk := [.int 32, .int p1]) dX9_damage_3 gX9_damage_X9_requireIndex ⟨by decide, by decide, by decide +kernel⟩ rfl rfl (by decide) rfl rfl (Nat.le_of_ble_eq_true rfl) (by decide) h (fun r1 m2 h => ?_)
  show V 1 6 [(0, .ref (ad 0)), (1, .int p1), (2, .int p2), (3, .int p3)] [] m2
  refine r_iload_n C dX9_damage_6 rfl 2 rfl ?_
  refine r_bipush C (v := 13) dX9_damage_7 (by decide) ?_
  refine r_callS C (c_X9_requireIndex nw hnw p2 13) (As := [.int p2, .int 13]) (nn := 2) (stk := [.int 13, .int p2]) dX9_damage_9 gX9_damage_X9_requireIndex ⟨by decide, by decide, by decide +kernel⟩ rfl rfl (by decide) rfl rfl (Nat.le_of_ble_eq_true rfl) (by decide) h (fun r3 m4 h => ?_)
  show V 0 12 [(0, .ref (ad 0)), (1, .int p1), (2, .int p2), (3, .int p3)] [] m4
  refine r_aload_n C dX9_damage_12 rfl 0 rfl ?_
  refine r_getr C (ci := 9) (k9 := 0) dX9_damage_13 rfl F_i9 (by decide) F_k10 (by omega) la_0 rfl ?_
  refine r_getr C (ci := 1) (k9 := 0) dX9_damage_16 rfl F_i1 (by decide) F_k329 (by omega) la_1 rfl ?_
  refine r_iload_n C dX9_damage_19 rfl 1 rfl ?_
  refine r_aald C (b0 := 4) (d0 := 1) dX9_damage_20 (by omega) la_2 (fun _ => rfl) rfl h (fun j5 hj5 h => ?_)
  refine r_iload_n C dX9_damage_21 rfl 2 rfl ?_
  refine r_iald C dX9_damage_22 (by have := isRow_b (isRow_d hj5); omega) (isRow_0 (isRow_d hj5)) h (fun j6 hj6 h => ?_)
  refine r_istore C dX9_damage_23 (by decide) (show _ = [(4, .int (m4.1 (4 + 1 * j5) j6)), (0, .ref (ad 0)), (1, .int p1), (2, .int p2), (3, .int p3)] from rfl) ?_
  refine r_aload_n C dX9_damage_25 rfl 1 rfl ?_
  refine r_getr C (ci := 9) (k9 := 0) dX9_damage_26 rfl F_i9 (by decide) F_k10 (by omega) la_0 rfl ?_
  refine r_getr C (ci := 1) (k9 := 0) dX9_damage_29 rfl F_i1 (by decide) F_k329 (by omega) la_1 rfl ?_
  refine r_iload_n C dX9_damage_32 rfl 2 rfl ?_
  refine r_aald C (b0 := 4) (d0 := 1) dX9_damage_33 (by omega) la_2 (fun _ => rfl) rfl h (fun j7 hj7 h => ?_)
  refine r_iload_n C dX9_damage_34 rfl 3 rfl ?_
  refine r_iload_n C dX9_damage_35 rfl 4 rfl ?_
  refine r_iast C dX9_damage_36 (by have := isRow_b (isRow_d hj7); omega) (isRow_0 (isRow_d hj7)) h (fun j8 m9 hj8 _ h => ?_)
  refine r_iload C dX9_damage_37 0 rfl ?_
  refine r_iload_n C dX9_damage_39 rfl 4 rfl ?_
  refine s_join h (fun k54 => ∀ (m54_ : sM), k54 m54_ = some res → V 0 54 [(4, .int (m4.1 (4 + 1 * j5) j6))] [] m54_) ?_ (fun k54 hk54 h => ?_)
  · intro m54_ h
    refine r_iload C dX9_damage_54 0 rfl ?_
    exact r_iret C dX9_damage_56 rfl h
  refine r_icmp_eq C (tgt := 54) dX9_damage_40 (by decide) h (fun _ h => ?_) (fun _ h => ?_)
  · skip
    refine r_sub C [0] (show _ = [(4, .int (m4.1 (4 + 1 * j5) j6))] from rfl) ?_
    exact hk54 m9 h
  · skip
    refine r_aload_n C dX9_damage_43 rfl 1 rfl ?_
    refine r_getr C (ci := 9) (k9 := 14) dX9_damage_44 rfl F_i9 (by decide) F_k90 (by omega) la_0 rfl ?_
    refine r_bipush C (v := 7) dX9_damage_47 (by decide) ?_
    refine r_dup2 C dX9_damage_49 rfl rfl ?_
    refine r_iald C dX9_damage_50 (by omega) la_108 h (fun j10 hj10 h => ?_)
    refine r_iconst C (v := 1) dX9_damage_51 (by decide) ?_
    refine r_iadd C dX9_damage_52 ?_
    refine r_iast C dX9_damage_53 (by omega) la_108 h (fun j11 m12 hj11 _ h => ?_)
    refine r_sub C [0] (show _ = [(4, .int (m4.1 (4 + 1 * j5) j6))] from rfl) ?_
    exact hk54 m12 h
noncomputable def f_X9_checksum (p1 : Int32) (m : sM) : Option (sR Int32) :=
  s_bd (f_X9_requireIndex p1 32 m) fun r1 m2 => s_bd (f_X1_computeChecksum p1 m2) fun r3 m4 => some (.inl r3, m4)
set_option maxRecDepth 20000 in
set_option maxHeartbeats 4000000 in
theorem c_X9_checksum (nw : Nat) (hnw : 109 ≤ nw) (p1 : Int32) : s_Con s_i 0 nw yX9_checksum wsX9_checksum 14 185 1 (f_X9_checksum p1) (fun ad => [.ref (ad 0), .int p1]) := by
  refine s_con_of cX9_checksum 2 (some .int) RX9 (by decide) rfl rfl (fun _ => Nat.le_of_ble_eq_true rfl) (fun ad m res V C h => ?_)
  unfold f_X9_checksum at h
  have F_i9 : ∀ w ∈ wsX90, w ∈ wsX9_checksum := by decide +kernel
  have F_k10 : Cond.fieldLink RX9 10 "ShadowFile" "disk" "LShadowFile$Disk;" ∈ wsX9_checksum := by decide +kernel
  show V 1 0 [(0, .ref (ad 0)), (1, .int p1)] [] m
  refine r_iload_n C dX9_checksum_0 rfl 1 rfl ?_
  refine r_bipush C (v := 32) dX9_checksum_1 (by decide) ?_
  refine r_callS C (c_X9_requireIndex nw hnw p1 32) (As := [.int p1, .int 32]) (nn := 2) (stk := [.int 32, .int p1]) dX9_checksum_3 gX9_checksum_X9_requireIndex ⟨by decide, by decide, by decide +kernel⟩ rfl rfl (by decide) rfl rfl (Nat.le_of_ble_eq_true rfl) (by decide) h (fun r1 m2 h => ?_)
  show V 0 6 [(0, .ref (ad 0)), (1, .int p1)] [] m2
  refine r_aload_n C dX9_checksum_6 rfl 0 rfl ?_
  refine r_getr C (ci := 9) (k9 := 0) dX9_checksum_7 rfl F_i9 (by decide) F_k10 (by omega) la_0 rfl ?_
  refine r_iload_n C dX9_checksum_10 rfl 1 rfl ?_
  refine r_callV C (c_X1_computeChecksum nw hnw p1) (As := [.int p1]) (nn := 1) (stk := [.int p1, .ref (ad 1)]) (ci := 1) dX9_checksum_11 gX9_checksum_X1_computeChecksum ⟨rfl, by decide, by decide, by decide +kernel⟩ (by omega) la_1 rfl rfl rfl (by decide) rfl rfl (Nat.le_of_ble_eq_true rfl) (by decide) h (fun r3 m4 h => ?_)
  show V 0 14 [(0, .ref (ad 0)), (1, .int p1)] [.int r3] m4
  exact r_iret C dX9_checksum_14 rfl h
noncomputable def f_X9_isValid (p1 : Int32) (m : sM) : Option (sR Int32) :=
  s_bd (f_X9_requireIndex p1 32 m) fun r1 m2 => s_bd (f_X1_hasRightChecksum p1 m2) fun r3 m4 => s_gd (r3 = 0 ∨ r3 = 1) (some (.inl r3, m4))
set_option maxRecDepth 20000 in
set_option maxHeartbeats 4000000 in
theorem c_X9_isValid (nw : Nat) (hnw : 109 ≤ nw) (p1 : Int32) : s_Con s_i 0 nw yX9_isValid wsX9_isValid 16 230 1 (f_X9_isValid p1) (fun ad => [.ref (ad 0), .int p1]) := by
  refine s_con_of cX9_isValid 2 (some .boolean) RX9 (by decide) rfl rfl (fun _ => Nat.le_of_ble_eq_true rfl) (fun ad m res V C h => ?_)
  unfold f_X9_isValid at h
  have F_i9 : ∀ w ∈ wsX90, w ∈ wsX9_isValid := by decide +kernel
  have F_k10 : Cond.fieldLink RX9 10 "ShadowFile" "disk" "LShadowFile$Disk;" ∈ wsX9_isValid := by decide +kernel
  show V 1 0 [(0, .ref (ad 0)), (1, .int p1)] [] m
  refine r_iload_n C dX9_isValid_0 rfl 1 rfl ?_
  refine r_bipush C (v := 32) dX9_isValid_1 (by decide) ?_
  refine r_callS C (c_X9_requireIndex nw hnw p1 32) (As := [.int p1, .int 32]) (nn := 2) (stk := [.int 32, .int p1]) dX9_isValid_3 gX9_isValid_X9_requireIndex ⟨by decide, by decide, by decide +kernel⟩ rfl rfl (by decide) rfl rfl (Nat.le_of_ble_eq_true rfl) (by decide) h (fun r1 m2 h => ?_)
  show V 0 6 [(0, .ref (ad 0)), (1, .int p1)] [] m2
  refine r_aload_n C dX9_isValid_6 rfl 0 rfl ?_
  refine r_getr C (ci := 9) (k9 := 0) dX9_isValid_7 rfl F_i9 (by decide) F_k10 (by omega) la_0 rfl ?_
  refine r_iload_n C dX9_isValid_10 rfl 1 rfl ?_
  refine r_callV C (c_X1_hasRightChecksum nw hnw p1) (As := [.int p1]) (nn := 1) (stk := [.int p1, .ref (ad 1)]) (ci := 1) dX9_isValid_11 gX9_isValid_X1_hasRightChecksum ⟨rfl, by decide, by decide, by decide +kernel⟩ (by omega) la_1 rfl rfl rfl (by decide) rfl rfl (Nat.le_of_ble_eq_true rfl) (by decide) h (fun r3 m4 h => ?_)
  show V 0 14 [(0, .ref (ad 0)), (1, .int p1)] [.int r3] m4
  obtain ⟨hg, h⟩ := s_gd_of h
  exact r_zret C dX9_isValid_14 rfl (s_z hg) h
noncomputable def f_X6_isBetter (p1 : Int32) (p2 : Int32) (m : sM) : Option (sR Int32) :=
  s_bd (f_X9_isIn (m.2 104 3) p1 m) fun r1 m2 => s_jn (fun (s0_26 : Int32) => s_gd (s0_26 = 0 ∨ s0_26 = 1) (some (.inl s0_26, m2))) fun k26 => s_jn (k26 1) fun k21 => if r1 = 0 then (k21) else (s_ix p1 64 fun j3 => if p2 ≤ (m2.1 106 j3) then (k26 0) else (k21))
set_option maxRecDepth 20000 in
set_option maxHeartbeats 4000000 in
theorem c_X6_isBetter (nw : Nat) (hnw : 109 ≤ nw) (p1 : Int32) (p2 : Int32) : s_Con s_i 0 nw yX6_isBetter wsX6_isBetter 14 185 0 (f_X6_isBetter p1 p2) (fun ad => [.ref (ad 104), .int p1, .int p2]) := by
  refine s_con_of cX6_isBetter 3 (some .boolean) RX6 (by decide) rfl rfl (fun _ => Nat.le_of_ble_eq_true rfl) (fun ad m res V C h => ?_)
  unfold f_X6_isBetter at h
  have F_i6 : ∀ w ∈ wsX60, w ∈ wsX6_isBetter := by decide +kernel
  have F_k21 : Cond.fieldLink RX6 21 "ShadowFile$Salvage" "keys" "J" ∈ wsX6_isBetter := by decide +kernel
  have F_tyX9_isIn : Cond.static yX9_isIn ∈ wsX6_isBetter := by decide +kernel
  have F_nyX9_isIn : Cond.initialized RX9 ∈ wsX6_isBetter := by decide +kernel
  have F_k15 : Cond.fieldLink RX6 15 "ShadowFile$Salvage" "numbers" "[I" ∈ wsX6_isBetter := by decide +kernel
  show V 0 0 [(0, .ref (ad 104)), (1, .int p1), (2, .int p2)] [] m
  refine r_aload_n C dX6_isBetter_0 rfl 0 rfl ?_
  refine r_getl C (ci := 6) (k9 := 3) dX6_isBetter_1 rfl F_i6 (by decide) F_k21 (by omega) la_104 rfl ?_
  refine r_iload_n C dX6_isBetter_4 rfl 1 rfl ?_
  refine r_callN C (c_X9_isIn nw hnw (m.2 104 3) p1) (host := RX9) (As := [.long (m.2 104 3), .int p1]) (nn := 2) (stk := [.int p1, .long (m.2 104 3)]) dX6_isBetter_5 gX6_isBetter_X9_isIn_n45 (by decide +kernel) F_tyX9_isIn F_nyX9_isIn ⟨by decide, by decide, by decide +kernel⟩ rfl rfl (by decide) rfl rfl (Nat.le_of_ble_eq_true rfl) (by decide) h (fun r1 m2 h => ?_)
  show V 0 8 [(0, .ref (ad 104)), (1, .int p1), (2, .int p2)] [.int r1] m2
  refine s_join h (fun k26 => ∀ (s0_26 : Int32), k26 s0_26 = some res → V 0 26 [] [.int s0_26] m2) ?_ (fun k26 hk26 h => ?_)
  · intro s0_26 h
    obtain ⟨hg, h⟩ := s_gd_of h
    exact r_zret C dX6_isBetter_26 rfl (s_z hg) h
  refine s_join h (fun k21 => k21  = some res → V 0 21 [] [] m2) ?_ (fun k21 hk21 h => ?_)
  · intro  h
    refine r_iconst C (v := 1) dX6_isBetter_21 (by decide) ?_
    refine r_goto C (tgt := 26) dX6_isBetter_22 (by decide) ?_
    exact hk26 1 h
  refine r_if_eq C (tgt := 21) dX6_isBetter_8 (by decide) h (fun _ h => ?_) (fun _ h => ?_)
  · skip
    refine r_sub C [] (show _ = [] from rfl) ?_
    exact hk21 h
  · skip
    refine r_iload_n C dX6_isBetter_11 rfl 2 rfl ?_
    refine r_aload_n C dX6_isBetter_12 rfl 0 rfl ?_
    refine r_getr C (ci := 6) (k9 := 1) dX6_isBetter_13 rfl F_i6 (by decide) F_k15 (by omega) la_104 rfl ?_
    refine r_iload_n C dX6_isBetter_16 rfl 1 rfl ?_
    refine r_iald C dX6_isBetter_17 (by omega) la_106 h (fun j3 hj3 h => ?_)
    refine r_icmp_le C (tgt := 25) dX6_isBetter_18 (by decide) h (fun _ h => ?_) (fun _ h => ?_)
    · skip
      refine r_iconst C (v := 0) dX6_isBetter_25 (by decide) ?_
      refine r_sub C [] (show _ = [] from rfl) ?_
      exact hk26 0 h
    · skip
      refine r_sub C [] (show _ = [] from rfl) ?_
      exact hk21 h
noncomputable def f_X6_scanPage_L2 (a1_2 : Nat) (y2_2 : Int32) (e90_2 : sM → Option (sR Unit)) : Nat → Int32 → sM → Option (sR Unit)
  | 0, _, _ => none
  | n + 1, x3_2, m2_ =>
    if 8 ≤ x3_2 then (e90_2  m2_) else (s_ix 2 13 fun j1 => s_bd (f_X8_keyOf (m2_.1 a1_2 j1) x3_2 m2_) fun r2 m3 => s_ix 3 13 fun j4 => s_bd (f_X9_isIn (Int32.toInt64 (m3.1 a1_2 j4)) x3_2 m3) fun r5 m6 => s_jn (fun (m84_ : sM) => f_X6_scanPage_L2 a1_2 y2_2 e90_2 n (x3_2 + 1) m84_) fun k84 => if r5 = 0 then (k84  m6) else (s_ix 1 13 fun j7 => s_bd (f_X6_isBetter r2 (m6.1 a1_2 j7) m6) fun r8 m9 => if r8 = 0 then (k84  m9) else (s_bd (f_X9_setOf r2 m9) fun r10 m11 => s_md (s_uL m11 104 3 ((m9.2 104 3) ||| r10)) fun m12 => s_ix (4 + x3_2) 13 fun j13 => s_ix r2 64 fun j14 => s_md (s_up m12 105 j14 (m12.1 a1_2 j13)) fun m15 => s_ix 1 13 fun j16 => s_ix r2 64 fun j17 => s_md (s_up m15 106 j17 (m15.1 a1_2 j16)) fun m18 => s_ix r2 64 fun j19 => s_md (s_up m18 107 j19 y2_2) fun m20 => k84  m20)))
noncomputable def f_X6_scanPage (a1 : Nat) (p2 : Int32) (m : sM) : Option (sR Unit) :=
  s_jn (fun (m90_ : sM) => some (.inl (), m90_)) fun e90_2 => f_X6_scanPage_L2 a1 p2 e90_2 5000 0 m
set_option maxRecDepth 20000 in
set_option maxHeartbeats 4000000 in
theorem c_X6_scanPage (nw : Nat) (hnw : 109 ≤ nw) (a1 : Nat) (p2 : Int32) (ha1 : isRow a1) : s_Con s_u 0 nw yX6_scanPage wsX6_scanPage 16 230 0 (f_X6_scanPage a1 p2) (fun ad => [.ref (ad 104), .ref (ad a1), .int p2]) := by
  refine s_con_of cX6_scanPage 5 none RX6 (by decide) rfl rfl (fun _ => Nat.le_of_ble_eq_true rfl) (fun ad m res V C h => ?_)
  unfold f_X6_scanPage at h
  have F_tyX9_isIn : Cond.static yX9_isIn ∈ wsX6_scanPage := by decide +kernel
  have F_nyX9_isIn : Cond.initialized RX9 ∈ wsX6_scanPage := by decide +kernel
  have F_i6 : ∀ w ∈ wsX60, w ∈ wsX6_scanPage := by decide +kernel
  have F_k21 : Cond.fieldLink RX6 21 "ShadowFile$Salvage" "keys" "J" ∈ wsX6_scanPage := by decide +kernel
  have F_tyX9_setOf : Cond.static yX9_setOf ∈ wsX6_scanPage := by decide +kernel
  have F_nyX9_setOf : Cond.initialized RX9 ∈ wsX6_scanPage := by decide +kernel
  have F_k9 : Cond.fieldLink RX6 9 "ShadowFile$Salvage" "values" "[I" ∈ wsX6_scanPage := by decide +kernel
  have F_k15 : Cond.fieldLink RX6 15 "ShadowFile$Salvage" "numbers" "[I" ∈ wsX6_scanPage := by decide +kernel
  have F_k18 : Cond.fieldLink RX6 18 "ShadowFile$Salvage" "blocks" "[I" ∈ wsX6_scanPage := by decide +kernel
  show V 0 0 [(0, .ref (ad 104)), (1, .ref (ad a1)), (2, .int p2)] [] m
  refine r_iconst C (v := 0) dX6_scanPage_0 (by decide) ?_
  refine r_istore_n C dX6_scanPage_1 rfl (by decide) (show _ = [(3, .int 0), (0, .ref (ad 104)), (1, .ref (ad a1)), (2, .int p2)] from rfl) ?_
  refine s_join h (fun e90_2 => ∀ (m90_ : sM), e90_2 m90_ = some res → V 0 90 [] [] m90_) ?_ (fun e90_2 he90_2 h => ?_)
  · intro m90_ h
    exact r_vret C dX6_scanPage_90 rfl h
  have L2 : ∀ (n : Nat) (x3_2 : Int32) (m2_ : sM), f_X6_scanPage_L2 a1 p2 e90_2 n x3_2 m2_ = some res → V 0 2 [(0, .ref (ad 104)), (1, .ref (ad a1)), (2, .int p2), (3, .int x3_2)] [] m2_ := by
    intro n
    induction n with
    | zero => intro x3_2 m2_ h; rw [f_X6_scanPage_L2] at h; cases h
    | succ n ih =>
      intro x3_2 m2_ h
      rw [f_X6_scanPage_L2] at h
      refine r_iload_n C dX6_scanPage_2 rfl 3 rfl ?_
      refine r_bipush C (v := 8) dX6_scanPage_3 (by decide) ?_
      refine r_icmp_ge C (tgt := 90) dX6_scanPage_5 (by decide) h (fun _ h => ?_) (fun _ h => ?_)
      · skip
        refine r_sub C [] (show _ = [] from rfl) ?_
        exact he90_2 m2_ h
      · skip
        refine r_aload_n C dX6_scanPage_8 rfl 1 rfl ?_
        refine r_iconst C (v := 2) dX6_scanPage_9 (by decide) ?_
        refine r_iald C dX6_scanPage_10 (by have := isRow_b ha1; omega) (isRow_0 ha1) h (fun j1 hj1 h => ?_)
        refine r_iload_n C dX6_scanPage_11 rfl 3 rfl ?_
        refine r_callS C (c_X8_keyOf nw hnw (m2_.1 a1 j1) x3_2) (As := [.int (m2_.1 a1 j1), .int x3_2]) (nn := 2) (stk := [.int x3_2, .int (m2_.1 a1 j1)]) dX6_scanPage_12 gX6_scanPage_X8_keyOf ⟨by decide, by decide, by decide +kernel⟩ rfl rfl (by decide) rfl rfl (Nat.le_of_ble_eq_true rfl) (by decide) h (fun r2 m3 h => ?_)
        show V 0 15 [(0, .ref (ad 104)), (1, .ref (ad a1)), (2, .int p2), (3, .int x3_2)] [.int r2] m3
        refine r_istore C dX6_scanPage_15 (by decide) (show _ = [(4, .int r2), (0, .ref (ad 104)), (1, .ref (ad a1)), (2, .int p2), (3, .int x3_2)] from rfl) ?_
        refine r_aload_n C dX6_scanPage_17 rfl 2 rfl ?_
        refine r_iconst C (v := 3) dX6_scanPage_18 (by decide) ?_
        refine r_iald C dX6_scanPage_19 (by have := isRow_b ha1; omega) (isRow_0 ha1) h (fun j4 hj4 h => ?_)
        refine r_i2l C dX6_scanPage_20 ?_
        refine r_iload_n C dX6_scanPage_21 rfl 4 rfl ?_
        refine r_callN C (c_X9_isIn nw hnw (Int32.toInt64 (m3.1 a1 j4)) x3_2) (host := RX9) (As := [.long (Int32.toInt64 (m3.1 a1 j4)), .int x3_2]) (nn := 2) (stk := [.int x3_2, .long (Int32.toInt64 (m3.1 a1 j4))]) dX6_scanPage_22 gX6_scanPage_X9_isIn_n45 (by decide +kernel) F_tyX9_isIn F_nyX9_isIn ⟨by decide, by decide, by decide +kernel⟩ rfl rfl (by decide) rfl rfl (Nat.le_of_ble_eq_true rfl) (by decide) h (fun r5 m6 h => ?_)
        show V 0 25 [(4, .int r2), (0, .ref (ad 104)), (1, .ref (ad a1)), (2, .int p2), (3, .int x3_2)] [.int r5] m6
        refine s_join h (fun k84 => ∀ (m84_ : sM), k84 m84_ = some res → V 0 84 [(0, .ref (ad 104)), (1, .ref (ad a1)), (2, .int p2), (3, .int x3_2)] [] m84_) ?_ (fun k84 hk84 h => ?_)
        · intro m84_ h
          refine r_iinc C (v := x3_2 + 1) dX6_scanPage_84 3 rfl rfl (by decide) (show _ = [(3, .int (x3_2 + 1)), (0, .ref (ad 104)), (1, .ref (ad a1)), (2, .int p2)] from rfl) ?_
          refine r_goto C (tgt := 2) dX6_scanPage_87 (by decide) ?_
          refine r_sub C [1, 2, 3, 0] (show _ = [(0, .ref (ad 104)), (1, .ref (ad a1)), (2, .int p2), (3, .int (x3_2 + 1))] from rfl) ?_
          exact ih (x3_2 + 1) m84_ h
        refine r_if_eq C (tgt := 84) dX6_scanPage_25 (by decide) h (fun _ h => ?_) (fun _ h => ?_)
        · skip
          refine r_sub C [1, 2, 3, 4] (show _ = [(0, .ref (ad 104)), (1, .ref (ad a1)), (2, .int p2), (3, .int x3_2)] from rfl) ?_
          exact hk84 m6 h
        · skip
          refine r_aload_n C dX6_scanPage_28 rfl 1 rfl ?_
          refine r_iload C dX6_scanPage_29 0 rfl ?_
          refine r_aload_n C dX6_scanPage_31 rfl 2 rfl ?_
          refine r_iconst C (v := 1) dX6_scanPage_32 (by decide) ?_
          refine r_iald C dX6_scanPage_33 (by have := isRow_b ha1; omega) (isRow_0 ha1) h (fun j7 hj7 h => ?_)
          refine r_callV C (c_X6_isBetter nw hnw r2 (m6.1 a1 j7)) (As := [.int r2, .int (m6.1 a1 j7)]) (nn := 2) (stk := [.int (m6.1 a1 j7), .int r2, .ref (ad 104)]) (ci := 6) dX6_scanPage_34 gX6_scanPage_X6_isBetter ⟨rfl, by decide, by decide, by decide +kernel⟩ (by omega) la_104 rfl rfl rfl (by decide) rfl rfl (Nat.le_of_ble_eq_true rfl) (by decide) h (fun r8 m9 h => ?_)
          show V 0 37 [(4, .int r2), (0, .ref (ad 104)), (1, .ref (ad a1)), (2, .int p2), (3, .int x3_2)] [.int r8] m9
          refine r_if_eq C (tgt := 84) dX6_scanPage_37 (by decide) h (fun _ h => ?_) (fun _ h => ?_)
          · skip
            refine r_sub C [1, 2, 3, 4] (show _ = [(0, .ref (ad 104)), (1, .ref (ad a1)), (2, .int p2), (3, .int x3_2)] from rfl) ?_
            exact hk84 m9 h
          · skip
            refine r_aload_n C dX6_scanPage_40 rfl 1 rfl ?_
            refine r_dup C dX6_scanPage_41 rfl ?_
            refine r_getl C (ci := 6) (k9 := 3) dX6_scanPage_42 rfl F_i6 (by decide) F_k21 (by omega) la_104 rfl ?_
            refine r_iload C dX6_scanPage_45 0 rfl ?_
            refine r_callN C (c_X9_setOf nw hnw r2) (host := RX9) (As := [.int r2]) (nn := 1) (stk := [.int r2, .long (m9.2 104 3), .ref (ad 104)]) dX6_scanPage_47 gX6_scanPage_X9_setOf_n52 (by decide +kernel) F_tyX9_setOf F_nyX9_setOf ⟨by decide, by decide, by decide +kernel⟩ rfl rfl (by decide) rfl rfl (Nat.le_of_ble_eq_true rfl) (by decide) h (fun r10 m11 h => ?_)
            show V 0 50 [(4, .int r2), (0, .ref (ad 104)), (1, .ref (ad a1)), (2, .int p2), (3, .int x3_2)] [.long r10, .long (m9.2 104 3), .ref (ad 104)] m11
            refine r_lor C dX6_scanPage_50 ?_
            refine r_putl C (ci := 6) (k9 := 3) dX6_scanPage_51 rfl F_i6 (by decide) F_k21 (by omega) la_104 rfl tyX6 tyX6_ok nmX6 rfl (tyX6_ok 3 (by decide)) rfl rfl h (fun m12 _ h => ?_)
            refine r_aload_n C dX6_scanPage_54 rfl 1 rfl ?_
            refine r_getr C (ci := 6) (k9 := 0) dX6_scanPage_55 rfl F_i6 (by decide) F_k9 (by omega) la_104 rfl ?_
            refine r_iload C dX6_scanPage_58 0 rfl ?_
            refine r_aload_n C dX6_scanPage_60 rfl 2 rfl ?_
            refine r_iconst C (v := 4) dX6_scanPage_61 (by decide) ?_
            refine r_iload_n C dX6_scanPage_62 rfl 4 rfl ?_
            refine r_iadd C dX6_scanPage_63 ?_
            refine r_iald C dX6_scanPage_64 (by have := isRow_b ha1; omega) (isRow_0 ha1) h (fun j13 hj13 h => ?_)
            refine r_iast C dX6_scanPage_65 (by omega) la_105 h (fun j14 m15 hj14 _ h => ?_)
            refine r_aload_n C dX6_scanPage_66 rfl 1 rfl ?_
            refine r_getr C (ci := 6) (k9 := 1) dX6_scanPage_67 rfl F_i6 (by decide) F_k15 (by omega) la_104 rfl ?_
            refine r_iload C dX6_scanPage_70 0 rfl ?_
            refine r_aload_n C dX6_scanPage_72 rfl 2 rfl ?_
            refine r_iconst C (v := 1) dX6_scanPage_73 (by decide) ?_
            refine r_iald C dX6_scanPage_74 (by have := isRow_b ha1; omega) (isRow_0 ha1) h (fun j16 hj16 h => ?_)
            refine r_iast C dX6_scanPage_75 (by omega) la_106 h (fun j17 m18 hj17 _ h => ?_)
            refine r_aload_n C dX6_scanPage_76 rfl 1 rfl ?_
            refine r_getr C (ci := 6) (k9 := 2) dX6_scanPage_77 rfl F_i6 (by decide) F_k18 (by omega) la_104 rfl ?_
            refine r_iload C dX6_scanPage_80 0 rfl ?_
            refine r_iload_n C dX6_scanPage_82 rfl 3 rfl ?_
            refine r_iast C dX6_scanPage_83 (by omega) la_107 h (fun j19 m20 hj19 _ h => ?_)
            refine r_sub C [1, 2, 3, 4] (show _ = [(0, .ref (ad 104)), (1, .ref (ad a1)), (2, .int p2), (3, .int x3_2)] from rfl) ?_
            exact hk84 m20 h
  refine r_sub C [1, 2, 3, 0] (show _ = [(0, .ref (ad 104)), (1, .ref (ad a1)), (2, .int p2), (3, .int 0)] from rfl) ?_
  exact L2 5000 0 m h
noncomputable def f_X6_scan_L7 (e58_7 : sM → Option (sR Unit)) : Nat → Int32 → sM → Option (sR Unit)
  | 0, _, _ => none
  | n + 1, x2_7, m7_ =>
    if 32 ≤ x2_7 then (e58_7  m7_) else (s_ix x2_7 32 fun j2 => s_ix 2 13 fun j3 => s_jn (fun (m52_ : sM) => f_X6_scan_L7 e58_7 n (x2_7 + 1) m52_) fun k52 => if (m7_.1 (4 + 1 * j2) j3) < 0 then (k52  m7_) else (if 8 ≤ (m7_.1 (4 + 1 * j2) j3) then (k52  m7_) else (s_bd (f_X1_isUsablePage x2_7 (m7_.1 (4 + 1 * j2) j3) m7_) fun r4 m5 => if r4 = 0 then (k52  m5) else (s_ix x2_7 32 fun j6 => s_bd (f_X6_scanPage (4 + 1 * j6) x2_7 m5) fun r7 m8 => k52  m8))))
noncomputable def f_X6_scan (m : sM) : Option (sR Unit) :=
  s_md (s_uL m 104 3 0) fun m1 => s_jn (fun (m58_ : sM) => some (.inl (), m58_)) fun e58_7 => f_X6_scan_L7 e58_7 5000 2 m1
set_option maxRecDepth 20000 in
set_option maxHeartbeats 4000000 in
theorem c_X6_scan (nw : Nat) (hnw : 109 ≤ nw) : s_Con s_u 0 nw yX6_scan wsX6_scan 20 320 0 (f_X6_scan) (fun ad => [.ref (ad 104), .ref (ad 1)]) := by
  refine s_con_of cX6_scan 4 none RX6 (by decide) rfl rfl (fun _ => Nat.le_of_ble_eq_true rfl) (fun ad m res V C h => ?_)
  unfold f_X6_scan at h
  have F_i6 : ∀ w ∈ wsX60, w ∈ wsX6_scan := by decide +kernel
  have F_k21 : Cond.fieldLink RX6 21 "ShadowFile$Salvage" "keys" "J" ∈ wsX6_scan := by decide +kernel
  have F_i1 : ∀ w ∈ wsX10, w ∈ wsX6_scan := by decide +kernel
  have F_k25 : Cond.fieldLink RX6 25 "ShadowFile$Disk" "cells" "[[I" ∈ wsX6_scan := by decide +kernel
  show V 0 0 [(0, .ref (ad 104)), (1, .ref (ad 1))] [] m
  refine r_aload_n C dX6_scan_0 rfl 0 rfl ?_
  refine r_lconst C (v := 0) dX6_scan_1 (by decide) ?_
  refine r_putl C (ci := 6) (k9 := 3) dX6_scan_2 rfl F_i6 (by decide) F_k21 (by omega) la_104 rfl tyX6 tyX6_ok nmX6 rfl (tyX6_ok 3 (by decide)) rfl rfl h (fun m1 _ h => ?_)
  refine r_iconst C (v := 2) dX6_scan_5 (by decide) ?_
  refine r_istore_n C dX6_scan_6 rfl (by decide) (show _ = [(2, .int 2), (0, .ref (ad 104)), (1, .ref (ad 1))] from rfl) ?_
  refine s_join h (fun e58_7 => ∀ (m58_ : sM), e58_7 m58_ = some res → V 0 58 [] [] m58_) ?_ (fun e58_7 he58_7 h => ?_)
  · intro m58_ h
    exact r_vret C dX6_scan_58 rfl h
  have L7 : ∀ (n : Nat) (x2_7 : Int32) (m7_ : sM), f_X6_scan_L7 e58_7 n x2_7 m7_ = some res → V 0 7 [(0, .ref (ad 104)), (1, .ref (ad 1)), (2, .int x2_7)] [] m7_ := by
    intro n
    induction n with
    | zero => intro x2_7 m7_ h; rw [f_X6_scan_L7] at h; cases h
    | succ n ih =>
      intro x2_7 m7_ h
      rw [f_X6_scan_L7] at h
      refine r_iload_n C dX6_scan_7 rfl 2 rfl ?_
      refine r_bipush C (v := 32) dX6_scan_8 (by decide) ?_
      refine r_icmp_ge C (tgt := 58) dX6_scan_10 (by decide) h (fun _ h => ?_) (fun _ h => ?_)
      · skip
        refine r_sub C [] (show _ = [] from rfl) ?_
        exact he58_7 m7_ h
      · skip
        refine r_aload_n C dX6_scan_13 rfl 1 rfl ?_
        refine r_getr C (ci := 1) (k9 := 0) dX6_scan_14 rfl F_i1 (by decide) F_k25 (by omega) la_1 rfl ?_
        refine r_iload_n C dX6_scan_17 rfl 2 rfl ?_
        refine r_aald C (b0 := 4) (d0 := 1) dX6_scan_18 (by omega) la_2 (fun _ => rfl) rfl h (fun j2 hj2 h => ?_)
        refine r_iconst C (v := 2) dX6_scan_19 (by decide) ?_
        refine r_iald C dX6_scan_20 (by have := isRow_b (isRow_d hj2); omega) (isRow_0 (isRow_d hj2)) h (fun j3 hj3 h => ?_)
        refine r_istore_n C dX6_scan_21 rfl (by decide) (show _ = [(3, .int (m7_.1 (4 + 1 * j2) j3)), (0, .ref (ad 104)), (1, .ref (ad 1)), (2, .int x2_7)] from rfl) ?_
        refine r_iload_n C dX6_scan_22 rfl 0 rfl ?_
        refine s_join h (fun k52 => ∀ (m52_ : sM), k52 m52_ = some res → V 0 52 [(0, .ref (ad 104)), (1, .ref (ad 1)), (2, .int x2_7)] [] m52_) ?_ (fun k52 hk52 h => ?_)
        · intro m52_ h
          refine r_iinc C (v := x2_7 + 1) dX6_scan_52 2 rfl rfl (by decide) (show _ = [(2, .int (x2_7 + 1)), (0, .ref (ad 104)), (1, .ref (ad 1))] from rfl) ?_
          refine r_goto C (tgt := 7) dX6_scan_55 (by decide) ?_
          refine r_sub C [1, 2, 0] (show _ = [(0, .ref (ad 104)), (1, .ref (ad 1)), (2, .int (x2_7 + 1))] from rfl) ?_
          exact ih (x2_7 + 1) m52_ h
        refine r_if_lt C (tgt := 52) dX6_scan_23 (by decide) h (fun _ h => ?_) (fun _ h => ?_)
        · skip
          refine r_sub C [1, 2, 3] (show _ = [(0, .ref (ad 104)), (1, .ref (ad 1)), (2, .int x2_7)] from rfl) ?_
          exact hk52 m7_ h
        · skip
          refine r_iload_n C dX6_scan_26 rfl 0 rfl ?_
          refine r_bipush C (v := 8) dX6_scan_27 (by decide) ?_
          refine r_icmp_ge C (tgt := 52) dX6_scan_29 (by decide) h (fun _ h => ?_) (fun _ h => ?_)
          · skip
            refine r_sub C [1, 2, 3] (show _ = [(0, .ref (ad 104)), (1, .ref (ad 1)), (2, .int x2_7)] from rfl) ?_
            exact hk52 m7_ h
          · skip
            refine r_aload_n C dX6_scan_32 rfl 2 rfl ?_
            refine r_iload_n C dX6_scan_33 rfl 3 rfl ?_
            refine r_iload_n C dX6_scan_34 rfl 0 rfl ?_
            refine r_callV C (c_X1_isUsablePage nw hnw x2_7 (m7_.1 (4 + 1 * j2) j3)) (As := [.int x2_7, .int (m7_.1 (4 + 1 * j2) j3)]) (nn := 2) (stk := [.int (m7_.1 (4 + 1 * j2) j3), .int x2_7, .ref (ad 1)]) (ci := 1) dX6_scan_35 gX6_scan_X1_isUsablePage ⟨rfl, by decide, by decide, by decide +kernel⟩ (by omega) la_1 rfl rfl rfl (by decide) rfl rfl (Nat.le_of_ble_eq_true rfl) (by decide) h (fun r4 m5 h => ?_)
            show V 0 38 [(3, .int (m7_.1 (4 + 1 * j2) j3)), (0, .ref (ad 104)), (1, .ref (ad 1)), (2, .int x2_7)] [.int r4] m5
            refine r_if_eq C (tgt := 52) dX6_scan_38 (by decide) h (fun _ h => ?_) (fun _ h => ?_)
            · skip
              refine r_sub C [1, 2, 3] (show _ = [(0, .ref (ad 104)), (1, .ref (ad 1)), (2, .int x2_7)] from rfl) ?_
              exact hk52 m5 h
            · skip
              refine r_aload_n C dX6_scan_41 rfl 1 rfl ?_
              refine r_aload_n C dX6_scan_42 rfl 2 rfl ?_
              refine r_getr C (ci := 1) (k9 := 0) dX6_scan_43 rfl F_i1 (by decide) F_k25 (by omega) la_1 rfl ?_
              refine r_iload_n C dX6_scan_46 rfl 3 rfl ?_
              refine r_aald C (b0 := 4) (d0 := 1) dX6_scan_47 (by omega) la_2 (fun _ => rfl) rfl h (fun j6 hj6 h => ?_)
              refine r_iload_n C dX6_scan_48 rfl 3 rfl ?_
              refine r_callV C (c_X6_scanPage nw hnw (4 + 1 * j6) x2_7 (isRow_d hj6)) (As := [.ref (ad (4 + 1 * j6)), .int x2_7]) (nn := 2) (stk := [.int x2_7, .ref (ad (4 + 1 * j6)), .ref (ad 104)]) (ci := 6) dX6_scan_49 gX6_scan_X6_scanPage ⟨rfl, by decide, by decide, by decide +kernel⟩ (by omega) la_104 rfl rfl rfl (by decide) rfl rfl (Nat.le_of_ble_eq_true rfl) (by decide) h (fun r7 m8 h => ?_)
              show V 0 52 [(3, .int (m7_.1 (4 + 1 * j2) j3)), (0, .ref (ad 104)), (1, .ref (ad 1)), (2, .int x2_7)] [] m8
              refine r_sub C [1, 2, 3] (show _ = [(0, .ref (ad 104)), (1, .ref (ad 1)), (2, .int x2_7)] from rfl) ?_
              exact hk52 m8 h
  refine r_sub C [1, 2, 0] (show _ = [(0, .ref (ad 104)), (1, .ref (ad 1)), (2, .int 2)] from rfl) ?_
  exact L7 5000 2 m1 h
noncomputable def f_X9_salvage (m : sM) : Option (sR Int32) :=
  s_bd (f_X6_scan m) fun r1 m2 => s_bd (f_J13_bitCount_95d88 (m2.2 104 3) m2) fun r3 m4 => s_ix 6 8 fun j5 => s_ix 6 8 fun j6 => s_md (s_up m4 108 j6 ((m4.1 108 j5) + r3)) fun m7 => some (.inl r3, m7)
set_option maxRecDepth 20000 in
set_option maxHeartbeats 4000000 in
theorem c_X9_salvage (nw : Nat) (hnw : 109 ≤ nw) : s_Con s_i 0 nw yX9_salvage wsX9_salvage 22 365 0 (f_X9_salvage) (fun ad => [.ref (ad 0)]) := by
  refine s_con_of cX9_salvage 2 (some .int) RX9 (by decide) rfl rfl (fun _ => Nat.le_of_ble_eq_true rfl) (fun ad m res V C h => ?_)
  unfold f_X9_salvage at h
  have F_i9 : ∀ w ∈ wsX90, w ∈ wsX9_salvage := by decide +kernel
  have F_k86 : Cond.fieldLink RX9 86 "ShadowFile" "found" "LShadowFile$Salvage;" ∈ wsX9_salvage := by decide +kernel
  have F_k10 : Cond.fieldLink RX9 10 "ShadowFile" "disk" "LShadowFile$Disk;" ∈ wsX9_salvage := by decide +kernel
  have F_i6 : ∀ w ∈ wsX60, w ∈ wsX9_salvage := by decide +kernel
  have F_k344 : Cond.fieldLink RX9 344 "ShadowFile$Salvage" "keys" "J" ∈ wsX9_salvage := by decide +kernel
  have F_k90 : Cond.fieldLink RX9 90 "ShadowFile" "counts" "[I" ∈ wsX9_salvage := by decide +kernel
  show V 0 0 [(0, .ref (ad 0))] [] m
  refine r_aload_n C dX9_salvage_0 rfl 0 rfl ?_
  refine r_getr C (ci := 9) (k9 := 13) dX9_salvage_1 rfl F_i9 (by decide) F_k86 (by omega) la_0 rfl ?_
  refine r_aload_n C dX9_salvage_4 rfl 0 rfl ?_
  refine r_getr C (ci := 9) (k9 := 0) dX9_salvage_5 rfl F_i9 (by decide) F_k10 (by omega) la_0 rfl ?_
  refine r_callV C (c_X6_scan nw hnw) (As := [.ref (ad 1)]) (nn := 1) (stk := [.ref (ad 1), .ref (ad 104)]) (ci := 6) dX9_salvage_8 gX9_salvage_X6_scan ⟨rfl, by decide, by decide, by decide +kernel⟩ (by omega) la_104 rfl rfl rfl (by decide) rfl rfl (Nat.le_of_ble_eq_true rfl) (by decide) h (fun r1 m2 h => ?_)
  show V 0 11 [(0, .ref (ad 0))] [] m2
  refine r_aload_n C dX9_salvage_11 rfl 0 rfl ?_
  refine r_getr C (ci := 9) (k9 := 13) dX9_salvage_12 rfl F_i9 (by decide) F_k86 (by omega) la_0 rfl ?_
  refine r_getl C (ci := 6) (k9 := 3) dX9_salvage_15 rfl F_i6 (by decide) F_k344 (by omega) la_104 rfl ?_
  refine r_callS C (c_J13_bitCount_95d88 nw hnw (m2.2 104 3)) (As := [.long (m2.2 104 3)]) (nn := 1) (stk := [.long (m2.2 104 3)]) dX9_salvage_18 gX9_salvage_J13_bitCount_95d88 ⟨by decide, by decide, by decide +kernel⟩ rfl rfl (by decide) rfl rfl (Nat.le_of_ble_eq_true rfl) (by decide) h (fun r3 m4 h => ?_)
  show V 0 21 [(0, .ref (ad 0))] [.int r3] m4
  refine r_istore_n C dX9_salvage_21 rfl (by decide) (show _ = [(1, .int r3), (0, .ref (ad 0))] from rfl) ?_
  refine r_aload_n C dX9_salvage_22 rfl 1 rfl ?_
  refine r_getr C (ci := 9) (k9 := 14) dX9_salvage_23 rfl F_i9 (by decide) F_k90 (by omega) la_0 rfl ?_
  refine r_bipush C (v := 6) dX9_salvage_26 (by decide) ?_
  refine r_dup2 C dX9_salvage_28 rfl rfl ?_
  refine r_iald C dX9_salvage_29 (by omega) la_108 h (fun j5 hj5 h => ?_)
  refine r_iload_n C dX9_salvage_30 rfl 0 rfl ?_
  refine r_iadd C dX9_salvage_31 ?_
  refine r_iast C dX9_salvage_32 (by omega) la_108 h (fun j6 m7 hj6 _ h => ?_)
  refine r_iload_n C dX9_salvage_33 rfl 0 rfl ?_
  exact r_iret C dX9_salvage_34 rfl h
noncomputable def f_X9_salvaged (p1 : Int32) (p2 : Int32) (m : sM) : Option (sR Int32) :=
  s_bd (f_J13_bitCount_95d88 (m.2 104 3) m) fun r1 m2 => s_bd (f_X9_requireIndex p1 r1 m2) fun r3 m4 => s_bd (f_X9_requireWhat p2 4 m4) fun r5 m6 => s_bd (f_X9_memberAt (m6.2 104 3) p1 m6) fun r7 m8 => if p2 = 0 then (some (.inl r7, m8)) else if p2 = 1 then (s_ix r7 64 fun j9 => some (.inl (m8.1 105 j9), m8)) else if p2 = 2 then (s_ix r7 64 fun j10 => some (.inl (m8.1 106 j10), m8)) else (s_ix r7 64 fun j11 => some (.inl (m8.1 107 j11), m8))
set_option maxRecDepth 20000 in
set_option maxHeartbeats 4000000 in
theorem c_X9_salvaged (nw : Nat) (hnw : 109 ≤ nw) (p1 : Int32) (p2 : Int32) : s_Con s_i 0 nw yX9_salvaged wsX9_salvaged 16 230 2 (f_X9_salvaged p1 p2) (fun ad => [.ref (ad 0), .int p1, .int p2]) := by
  refine s_con_of cX9_salvaged 4 (some .int) RX9 (by decide) rfl rfl (fun _ => Nat.le_of_ble_eq_true rfl) (fun ad m res V C h => ?_)
  unfold f_X9_salvaged at h
  have F_i9 : ∀ w ∈ wsX90, w ∈ wsX9_salvaged := by decide +kernel
  have F_k86 : Cond.fieldLink RX9 86 "ShadowFile" "found" "LShadowFile$Salvage;" ∈ wsX9_salvaged := by decide +kernel
  have F_i6 : ∀ w ∈ wsX60, w ∈ wsX9_salvaged := by decide +kernel
  have F_k344 : Cond.fieldLink RX9 344 "ShadowFile$Salvage" "keys" "J" ∈ wsX9_salvaged := by decide +kernel
  have F_k345 : Cond.fieldLink RX9 345 "ShadowFile$Salvage" "values" "[I" ∈ wsX9_salvaged := by decide +kernel
  have F_k346 : Cond.fieldLink RX9 346 "ShadowFile$Salvage" "numbers" "[I" ∈ wsX9_salvaged := by decide +kernel
  have F_k349 : Cond.fieldLink RX9 349 "ShadowFile$Salvage" "blocks" "[I" ∈ wsX9_salvaged := by decide +kernel
  show V 2 0 [(0, .ref (ad 0)), (1, .int p1), (2, .int p2)] [] m
  refine r_iload_n C dX9_salvaged_0 rfl 1 rfl ?_
  refine r_aload_n C dX9_salvaged_1 rfl 0 rfl ?_
  refine r_getr C (ci := 9) (k9 := 13) dX9_salvaged_2 rfl F_i9 (by decide) F_k86 (by omega) la_0 rfl ?_
  refine r_getl C (ci := 6) (k9 := 3) dX9_salvaged_5 rfl F_i6 (by decide) F_k344 (by omega) la_104 rfl ?_
  refine r_callS C (c_J13_bitCount_95d88 nw hnw (m.2 104 3)) (As := [.long (m.2 104 3)]) (nn := 1) (stk := [.long (m.2 104 3), .int p1]) dX9_salvaged_8 gX9_salvaged_J13_bitCount_95d88 ⟨by decide, by decide, by decide +kernel⟩ rfl rfl (by decide) rfl rfl (Nat.le_of_ble_eq_true rfl) (by decide) h (fun r1 m2 h => ?_)
  show V 2 11 [(0, .ref (ad 0)), (1, .int p1), (2, .int p2)] [.int r1, .int p1] m2
  refine r_callS C (c_X9_requireIndex nw hnw p1 r1) (As := [.int p1, .int r1]) (nn := 2) (stk := [.int r1, .int p1]) dX9_salvaged_11 gX9_salvaged_X9_requireIndex ⟨by decide, by decide, by decide +kernel⟩ rfl rfl (by decide) rfl rfl (Nat.le_of_ble_eq_true rfl) (by decide) h (fun r3 m4 h => ?_)
  show V 1 14 [(0, .ref (ad 0)), (1, .int p1), (2, .int p2)] [] m4
  refine r_iload_n C dX9_salvaged_14 rfl 2 rfl ?_
  refine r_iconst C (v := 4) dX9_salvaged_15 (by decide) ?_
  refine r_callS C (c_X9_requireWhat nw hnw p2 4) (As := [.int p2, .int 4]) (nn := 2) (stk := [.int 4, .int p2]) dX9_salvaged_16 gX9_salvaged_X9_requireWhat ⟨by decide, by decide, by decide +kernel⟩ rfl rfl (by decide) rfl rfl (Nat.le_of_ble_eq_true rfl) (by decide) h (fun r5 m6 h => ?_)
  show V 0 19 [(0, .ref (ad 0)), (1, .int p1), (2, .int p2)] [] m6
  refine r_aload_n C dX9_salvaged_19 rfl 0 rfl ?_
  refine r_getr C (ci := 9) (k9 := 13) dX9_salvaged_20 rfl F_i9 (by decide) F_k86 (by omega) la_0 rfl ?_
  refine r_getl C (ci := 6) (k9 := 3) dX9_salvaged_23 rfl F_i6 (by decide) F_k344 (by omega) la_104 rfl ?_
  refine r_iload_n C dX9_salvaged_26 rfl 1 rfl ?_
  refine r_callS C (c_X9_memberAt nw hnw (m6.2 104 3) p1) (As := [.long (m6.2 104 3), .int p1]) (nn := 2) (stk := [.int p1, .long (m6.2 104 3)]) dX9_salvaged_27 gX9_salvaged_X9_memberAt ⟨by decide, by decide, by decide +kernel⟩ rfl rfl (by decide) rfl rfl (Nat.le_of_ble_eq_true rfl) (by decide) h (fun r7 m8 h => ?_)
  show V 0 30 [(0, .ref (ad 0)), (1, .int p1), (2, .int p2)] [.int r7] m8
  refine r_istore_n C dX9_salvaged_30 rfl (by decide) (show _ = [(3, .int r7), (0, .ref (ad 0)), (1, .int p1), (2, .int p2)] from rfl) ?_
  refine r_iload_n C dX9_salvaged_31 rfl 3 rfl ?_
  by_cases q0 : p2 = 0
  · have h := s_pos q0 h
    refine r_tabIn C (off := 28) (tgt := 60) dX9_salvaged_32 (by rw [q0]; decide) (by rw [q0]; decide) (by rw [q0]; rfl) (by decide) ?_
    refine r_iload_n C dX9_salvaged_60 rfl 0 rfl ?_
    exact r_iret C dX9_salvaged_61 rfl h
  have h := s_neg q0 h
  by_cases q1 : p2 = 1
  · have h := s_pos q1 h
    refine r_tabIn C (off := 30) (tgt := 62) dX9_salvaged_32 (by rw [q1]; decide) (by rw [q1]; decide) (by rw [q1]; rfl) (by decide) ?_
    refine r_aload_n C dX9_salvaged_62 rfl 1 rfl ?_
    refine r_getr C (ci := 9) (k9 := 13) dX9_salvaged_63 rfl F_i9 (by decide) F_k86 (by omega) la_0 rfl ?_
    refine r_getr C (ci := 6) (k9 := 0) dX9_salvaged_66 rfl F_i6 (by decide) F_k345 (by omega) la_104 rfl ?_
    refine r_iload_n C dX9_salvaged_69 rfl 0 rfl ?_
    refine r_iald C dX9_salvaged_70 (by omega) la_105 h (fun j9 hj9 h => ?_)
    exact r_iret C dX9_salvaged_71 rfl h
  have h := s_neg q1 h
  by_cases q2 : p2 = 2
  · have h := s_pos q2 h
    refine r_tabIn C (off := 40) (tgt := 72) dX9_salvaged_32 (by rw [q2]; decide) (by rw [q2]; decide) (by rw [q2]; rfl) (by decide) ?_
    refine r_aload_n C dX9_salvaged_72 rfl 1 rfl ?_
    refine r_getr C (ci := 9) (k9 := 13) dX9_salvaged_73 rfl F_i9 (by decide) F_k86 (by omega) la_0 rfl ?_
    refine r_getr C (ci := 6) (k9 := 1) dX9_salvaged_76 rfl F_i6 (by decide) F_k346 (by omega) la_104 rfl ?_
    refine r_iload_n C dX9_salvaged_79 rfl 0 rfl ?_
    refine r_iald C dX9_salvaged_80 (by omega) la_106 h (fun j10 hj10 h => ?_)
    exact r_iret C dX9_salvaged_81 rfl h
  have h := s_neg q2 h
  refine r_tabOut C (tgt := 82) dX9_salvaged_32 (by have z0 := lv_neT q0 (a := 0) rfl; have z1 := lv_neT q1 (a := 1) rfl; have z2 := lv_neT q2 (a := 2) rfl; omega) (by decide) ?_
  refine r_aload_n C dX9_salvaged_82 rfl 1 rfl ?_
  refine r_getr C (ci := 9) (k9 := 13) dX9_salvaged_83 rfl F_i9 (by decide) F_k86 (by omega) la_0 rfl ?_
  refine r_getr C (ci := 6) (k9 := 2) dX9_salvaged_86 rfl F_i6 (by decide) F_k349 (by omega) la_104 rfl ?_
  refine r_iload_n C dX9_salvaged_89 rfl 0 rfl ?_
  refine r_iald C dX9_salvaged_90 (by omega) la_107 h (fun j11 hj11 h => ?_)
  exact r_iret C dX9_salvaged_91 rfl h
noncomputable def f_X9_adopt_L11 (y1_11 : Int32) (e59_11 : sM → Option (sR Int32)) : Nat → Int32 → sM → Option (sR Int32)
  | 0, _, _ => none
  | n + 1, x2_11, m11_ =>
    if 64 ≤ x2_11 then (e59_11  m11_) else (s_bd (f_X9_isIn (m11_.2 104 3) x2_11 m11_) fun r7 m8 => s_jn (fun (m53_ : sM) => f_X9_adopt_L11 y1_11 e59_11 n (x2_11 + 1) m53_) fun k53 => if r7 = 0 then (k53  m8) else (s_ix y1_11 3 fun j9 => s_ix x2_11 64 fun j10 => s_bd (f_X0_renew ((54 + 10 * j9) + 1) x2_11 (m8.1 105 j10) m8) fun r11 m12 => k53  m12))
noncomputable def f_X9_adopt (p1 : Int32) (m : sM) : Option (sR Int32) :=
  s_bd (f_X9_requireSlot p1 m) fun r1 m2 => s_bd (f_X9_requireActive p1 m2) fun r3 m4 => s_jn (fun (m59_ : sM) => s_bd (f_J13_bitCount_95d88 (m59_.2 104 3) m59_) fun r5 m6 => some (.inl r5, m6)) fun e59_11 => f_X9_adopt_L11 p1 e59_11 5000 0 m4
set_option maxRecDepth 20000 in
set_option maxHeartbeats 4000000 in
theorem c_X9_adopt (nw : Nat) (hnw : 109 ≤ nw) (p1 : Int32) : s_Con s_i 0 nw yX9_adopt wsX9_adopt 16 230 2 (f_X9_adopt p1) (fun ad => [.ref (ad 0), .int p1]) := by
  refine s_con_of cX9_adopt 3 (some .int) RX9 (by decide) rfl rfl (fun _ => Nat.le_of_ble_eq_true rfl) (fun ad m res V C h => ?_)
  unfold f_X9_adopt at h
  have F_i9 : ∀ w ∈ wsX90, w ∈ wsX9_adopt := by decide +kernel
  have F_k86 : Cond.fieldLink RX9 86 "ShadowFile" "found" "LShadowFile$Salvage;" ∈ wsX9_adopt := by decide +kernel
  have F_i6 : ∀ w ∈ wsX60, w ∈ wsX9_adopt := by decide +kernel
  have F_k344 : Cond.fieldLink RX9 344 "ShadowFile$Salvage" "keys" "J" ∈ wsX9_adopt := by decide +kernel
  have F_k42 : Cond.fieldLink RX9 42 "ShadowFile" "slots" "[LShadowFile$Slot;" ∈ wsX9_adopt := by decide +kernel
  have F_i7 : ∀ w ∈ wsX70, w ∈ wsX9_adopt := by decide +kernel
  have F_k142 : Cond.fieldLink RX9 142 "ShadowFile$Slot" "changes" "LShadowFile$Changes;" ∈ wsX9_adopt := by decide +kernel
  have F_k345 : Cond.fieldLink RX9 345 "ShadowFile$Salvage" "values" "[I" ∈ wsX9_adopt := by decide +kernel
  show V 2 0 [(0, .ref (ad 0)), (1, .int p1)] [] m
  refine r_iload_n C dX9_adopt_0 rfl 1 rfl ?_
  refine r_callS C (c_X9_requireSlot nw hnw p1) (As := [.int p1]) (nn := 1) (stk := [.int p1]) dX9_adopt_1 gX9_adopt_X9_requireSlot ⟨by decide, by decide, by decide +kernel⟩ rfl rfl (by decide) rfl rfl (Nat.le_of_ble_eq_true rfl) (by decide) h (fun r1 m2 h => ?_)
  show V 1 4 [(0, .ref (ad 0)), (1, .int p1)] [] m2
  refine r_aload_n C dX9_adopt_4 rfl 0 rfl ?_
  refine r_iload_n C dX9_adopt_5 rfl 1 rfl ?_
  refine r_callV C (c_X9_requireActive nw hnw p1) (As := [.int p1]) (nn := 1) (stk := [.int p1, .ref (ad 0)]) (ci := 9) dX9_adopt_6 gX9_adopt_X9_requireActive ⟨rfl, by decide, by decide, by decide +kernel⟩ (by omega) la_0 rfl rfl rfl (by decide) rfl rfl (Nat.le_of_ble_eq_true rfl) (by decide) h (fun r3 m4 h => ?_)
  show V 0 9 [(0, .ref (ad 0)), (1, .int p1)] [] m4
  refine r_iconst C (v := 0) dX9_adopt_9 (by decide) ?_
  refine r_istore_n C dX9_adopt_10 rfl (by decide) (show _ = [(2, .int 0), (0, .ref (ad 0)), (1, .int p1)] from rfl) ?_
  refine s_join h (fun e59_11 => ∀ (m59_ : sM), e59_11 m59_ = some res → V 0 59 [(0, .ref (ad 0))] [] m59_) ?_ (fun e59_11 he59_11 h => ?_)
  · intro m59_ h
    refine r_aload_n C dX9_adopt_59 rfl 0 rfl ?_
    refine r_getr C (ci := 9) (k9 := 13) dX9_adopt_60 rfl F_i9 (by decide) F_k86 (by omega) la_0 rfl ?_
    refine r_getl C (ci := 6) (k9 := 3) dX9_adopt_63 rfl F_i6 (by decide) F_k344 (by omega) la_104 rfl ?_
    refine r_callS C (c_J13_bitCount_95d88 nw hnw (m59_.2 104 3)) (As := [.long (m59_.2 104 3)]) (nn := 1) (stk := [.long (m59_.2 104 3)]) dX9_adopt_66 gX9_adopt_J13_bitCount_95d88 ⟨by decide, by decide, by decide +kernel⟩ rfl rfl (by decide) rfl rfl (Nat.le_of_ble_eq_true rfl) (by decide) h (fun r5 m6 h => ?_)
    show V 0 69 [(0, .ref (ad 0))] [.int r5] m6
    exact r_iret C dX9_adopt_69 rfl h
  have L11 : ∀ (n : Nat) (x2_11 : Int32) (m11_ : sM), f_X9_adopt_L11 p1 e59_11 n x2_11 m11_ = some res → V 0 11 [(0, .ref (ad 0)), (1, .int p1), (2, .int x2_11)] [] m11_ := by
    intro n
    induction n with
    | zero => intro x2_11 m11_ h; rw [f_X9_adopt_L11] at h; cases h
    | succ n ih =>
      intro x2_11 m11_ h
      rw [f_X9_adopt_L11] at h
      refine r_iload_n C dX9_adopt_11 rfl 2 rfl ?_
      refine r_bipush C (v := 64) dX9_adopt_12 (by decide) ?_
      refine r_icmp_ge C (tgt := 59) dX9_adopt_14 (by decide) h (fun _ h => ?_) (fun _ h => ?_)
      · skip
        refine r_sub C [0] (show _ = [(0, .ref (ad 0))] from rfl) ?_
        exact he59_11 m11_ h
      · skip
        refine r_aload_n C dX9_adopt_17 rfl 0 rfl ?_
        refine r_getr C (ci := 9) (k9 := 13) dX9_adopt_18 rfl F_i9 (by decide) F_k86 (by omega) la_0 rfl ?_
        refine r_getl C (ci := 6) (k9 := 3) dX9_adopt_21 rfl F_i6 (by decide) F_k344 (by omega) la_104 rfl ?_
        refine r_iload_n C dX9_adopt_24 rfl 2 rfl ?_
        refine r_callS C (c_X9_isIn nw hnw (m11_.2 104 3) x2_11) (As := [.long (m11_.2 104 3), .int x2_11]) (nn := 2) (stk := [.int x2_11, .long (m11_.2 104 3)]) dX9_adopt_25 gX9_adopt_X9_isIn ⟨by decide, by decide, by decide +kernel⟩ rfl rfl (by decide) rfl rfl (Nat.le_of_ble_eq_true rfl) (by decide) h (fun r7 m8 h => ?_)
        show V 0 28 [(0, .ref (ad 0)), (1, .int p1), (2, .int x2_11)] [.int r7] m8
        refine s_join h (fun k53 => ∀ (m53_ : sM), k53 m53_ = some res → V 0 53 [(0, .ref (ad 0)), (1, .int p1), (2, .int x2_11)] [] m53_) ?_ (fun k53 hk53 h => ?_)
        · intro m53_ h
          refine r_iinc C (v := x2_11 + 1) dX9_adopt_53 2 rfl rfl (by decide) (show _ = [(2, .int (x2_11 + 1)), (0, .ref (ad 0)), (1, .int p1)] from rfl) ?_
          refine r_goto C (tgt := 11) dX9_adopt_56 (by decide) ?_
          refine r_sub C [1, 2, 0] (show _ = [(0, .ref (ad 0)), (1, .int p1), (2, .int (x2_11 + 1))] from rfl) ?_
          exact ih (x2_11 + 1) m53_ h
        refine r_if_eq C (tgt := 53) dX9_adopt_28 (by decide) h (fun _ h => ?_) (fun _ h => ?_)
        · skip
          exact hk53 m8 h
        · skip
          refine r_aload_n C dX9_adopt_31 rfl 0 rfl ?_
          refine r_getr C (ci := 9) (k9 := 5) dX9_adopt_32 rfl F_i9 (by decide) F_k42 (by omega) la_0 rfl ?_
          refine r_iload_n C dX9_adopt_35 rfl 1 rfl ?_
          refine r_aald C (b0 := 54) (d0 := 10) dX9_adopt_36 (by omega) la_53 (fun _ => rfl) rfl h (fun j9 hj9 h => ?_)
          refine r_getr C (ci := 7) (k9 := 0) dX9_adopt_37 rfl F_i7 (by decide) F_k142 (by have := isSlt_b (isSlt_s hj9); omega) (isSlt_0 (isSlt_s hj9)) rfl ?_
          refine r_iload_n C dX9_adopt_40 rfl 2 rfl ?_
          refine r_aload_n C dX9_adopt_41 rfl 0 rfl ?_
          refine r_getr C (ci := 9) (k9 := 13) dX9_adopt_42 rfl F_i9 (by decide) F_k86 (by omega) la_0 rfl ?_
          refine r_getr C (ci := 6) (k9 := 0) dX9_adopt_45 rfl F_i6 (by decide) F_k345 (by omega) la_104 rfl ?_
          refine r_iload_n C dX9_adopt_48 rfl 2 rfl ?_
          refine r_iald C dX9_adopt_49 (by omega) la_105 h (fun j10 hj10 h => ?_)
          refine r_callV C (c_X0_renew nw hnw ((54 + 10 * j9) + 1) x2_11 (m8.1 105 j10) (isSlt_c (isSlt_s hj9))) (As := [.int x2_11, .int (m8.1 105 j10)]) (nn := 2) (stk := [.int (m8.1 105 j10), .int x2_11, .ref (ad ((54 + 10 * j9) + 1))]) (ci := 0) dX9_adopt_50 gX9_adopt_X0_renew ⟨rfl, by decide, by decide, by decide +kernel⟩ (by have := isChg_b (isSlt_c (isSlt_s hj9)); omega) (isChg_0 (isSlt_c (isSlt_s hj9))) rfl rfl rfl (by decide) rfl rfl (Nat.le_of_ble_eq_true rfl) (by decide) h (fun r11 m12 h => ?_)
          show V 0 53 [(0, .ref (ad 0)), (1, .int p1), (2, .int x2_11)] [] m12
          exact hk53 m12 h
  refine r_sub C [1, 2, 0] (show _ = [(0, .ref (ad 0)), (1, .int p1), (2, .int 0)] from rfl) ?_
  exact L11 5000 0 m4 h
