/-! CONSTRUCTORS: the leaves. Written by wip/whole/ctors.py. -/
set_option maxRecDepth 100000 in
set_option maxHeartbeats 1000000 in
theorem n_X0_init : n_Con yX0_init wsX0_init 1 12 1 64 (.inr (0, [.null, .long 0, .long 0])) (fun dA h0 w => ∃ (q7 : Nat), w = (h0, .inr (0, [.ref q7, .long 0, .long 0])) :: [(q7, .inl (dA 0, (64, .inl (fun _ => 0))))]) := by
  refine n_con_of cX0_init 1 RX0 (by decide) rfl rfl (by decide) rfl (fun dA h0 V C => ?_)
  have F_i : ∀ w ∈ wsX00, w ∈ wsX0_init := by decide +kernel
  refine n_aload C dX0_init_0 rfl 0 rfl ?_
  refine n_obj C (by decide +kernel) (by decide +kernel) (by decide +kernel) dX0_init_1 (by decide) (by decide) ?_
  refine n_aload C dX0_init_4 rfl 0 rfl ?_
  refine n_bipush C (v := 64) dX0_init_5 (by decide) ?_
  refine n_newa C 0 (a0 := (64, .inl (fun _ => 0))) (N' := 64) dX0_init_7 (by decide +kernel) rfl (fun _ => rfl) (fun _ => rfl) (by decide) (by decide) (by decide) (by decide) (by decide) (fun q7 => ?_)
  refine n_putF C (a := h0) (ci := 0) (C' := RX0) (ref := RX0) (T := TX0) (N := 3) (kf := 0) (tyf := tyX0) (ty := .array .int) (v := .ref q7) (fs' := [.ref q7, .long 0, .long 0]) dX0_init_9 F_i tyX0_ok nmX0 rfl (by decide) (by decide +kernel) rfl rfl rfl rfl rfl rfl rfl (Nat.le_of_ble_eq_true rfl) rfl ?_
  refine n_aload C dX0_init_12 rfl 0 rfl ?_
  refine n_lconst C (v := 0) dX0_init_13 (by decide) ?_
  refine n_put C (a := h0) (ci := 0) (C' := RX0) (ref := RX0) (T := TX0) (N := 3) (kf := 1) (tyf := tyX0) (ty := .long) (v := .long 0) (fs' := [.ref q7, .long 0, .long 0]) dX0_init_14 F_i tyX0_ok nmX0 rfl (by decide) (by decide +kernel) rfl rfl rfl rfl rfl (Nat.le_of_ble_eq_true rfl) rfl ?_
  refine n_aload C dX0_init_17 rfl 0 rfl ?_
  refine n_lconst C (v := 0) dX0_init_18 (by decide) ?_
  refine n_put C (a := h0) (ci := 0) (C' := RX0) (ref := RX0) (T := TX0) (N := 3) (kf := 2) (tyf := tyX0) (ty := .long) (v := .long 0) (fs' := [.ref q7, .long 0, .long 0]) dX0_init_19 F_i tyX0_ok nmX0 rfl (by decide) (by decide +kernel) rfl rfl rfl rfl rfl (Nat.le_of_ble_eq_true rfl) rfl ?_
  exact n_ret C dX0_init_22 (by decide) (by decide) ⟨q7, rfl⟩
set_option maxRecDepth 100000 in
set_option maxHeartbeats 1000000 in
theorem n_X1_init : n_Con yX1_init wsX1_init 1 12 34 461 (.inr (1, [.null, .null])) (fun dA h0 w => ∃ (q9 : Nat) (r9 : Nat → Nat) (q19 : Nat), w = (h0, .inr (1, [.ref q9, .ref q19])) :: [(q9, .inl (dA 6, (32, .inr (.inr (.inr (.inr (fun i => some (r9 i)))))))), (r9 0, .inl (dA 0, (13, .inl (fun _ => 0)))), (r9 1, .inl (dA 0, (13, .inl (fun _ => 0)))), (r9 2, .inl (dA 0, (13, .inl (fun _ => 0)))), (r9 3, .inl (dA 0, (13, .inl (fun _ => 0)))), (r9 4, .inl (dA 0, (13, .inl (fun _ => 0)))), (r9 5, .inl (dA 0, (13, .inl (fun _ => 0)))), (r9 6, .inl (dA 0, (13, .inl (fun _ => 0)))), (r9 7, .inl (dA 0, (13, .inl (fun _ => 0)))), (r9 8, .inl (dA 0, (13, .inl (fun _ => 0)))), (r9 9, .inl (dA 0, (13, .inl (fun _ => 0)))), (r9 10, .inl (dA 0, (13, .inl (fun _ => 0)))), (r9 11, .inl (dA 0, (13, .inl (fun _ => 0)))), (r9 12, .inl (dA 0, (13, .inl (fun _ => 0)))), (r9 13, .inl (dA 0, (13, .inl (fun _ => 0)))), (r9 14, .inl (dA 0, (13, .inl (fun _ => 0)))), (r9 15, .inl (dA 0, (13, .inl (fun _ => 0)))), (r9 16, .inl (dA 0, (13, .inl (fun _ => 0)))), (r9 17, .inl (dA 0, (13, .inl (fun _ => 0)))), (r9 18, .inl (dA 0, (13, .inl (fun _ => 0)))), (r9 19, .inl (dA 0, (13, .inl (fun _ => 0)))), (r9 20, .inl (dA 0, (13, .inl (fun _ => 0)))), (r9 21, .inl (dA 0, (13, .inl (fun _ => 0)))), (r9 22, .inl (dA 0, (13, .inl (fun _ => 0)))), (r9 23, .inl (dA 0, (13, .inl (fun _ => 0)))), (r9 24, .inl (dA 0, (13, .inl (fun _ => 0)))), (r9 25, .inl (dA 0, (13, .inl (fun _ => 0)))), (r9 26, .inl (dA 0, (13, .inl (fun _ => 0)))), (r9 27, .inl (dA 0, (13, .inl (fun _ => 0)))), (r9 28, .inl (dA 0, (13, .inl (fun _ => 0)))), (r9 29, .inl (dA 0, (13, .inl (fun _ => 0)))), (r9 30, .inl (dA 0, (13, .inl (fun _ => 0)))), (r9 31, .inl (dA 0, (13, .inl (fun _ => 0)))), (q19, .inl (dA 0, (13, .inl (fun _ => 0))))]) := by
  refine n_con_of cX1_init 1 RX1 (by decide) rfl rfl (by decide) rfl (fun dA h0 V C => ?_)
  have F_i : ∀ w ∈ wsX10, w ∈ wsX1_init := by decide +kernel
  refine n_aload C dX1_init_0 rfl 0 rfl ?_
  refine n_obj C (by decide +kernel) (by decide +kernel) (by decide +kernel) dX1_init_1 (by decide) (by decide) ?_
  refine n_aload C dX1_init_4 rfl 0 rfl ?_
  refine n_bipush C (v := 32) dX1_init_5 (by decide) ?_
  refine n_bipush C (v := 13) dX1_init_7 (by decide) ?_
  refine n_mna C dX1_init_9 (by decide +kernel) (by decide +kernel) (by decide) (by decide) (N' := 32) (K' := 13) (z := (13, .inl (fun _ => 0))) (by decide) (by decide) (by decide) (by decide) (by decide) (fun c => arrV_new c 13 (.int 0)) (by decide) (by decide) (fun q9 r9 => ?_)
  refine n_putF C (a := h0) (ci := 1) (C' := RX1) (ref := RX1) (T := TX1) (N := 2) (kf := 0) (tyf := tyX1) (ty := .array (.array .int)) (v := .ref q9) (fs' := [.ref q9, .null]) dX1_init_13 F_i tyX1_ok nmX1 rfl (by decide) (by decide +kernel) rfl rfl rfl rfl rfl rfl rfl (Nat.le_of_ble_eq_true rfl) rfl ?_
  refine n_aload C dX1_init_16 rfl 0 rfl ?_
  refine n_bipush C (v := 13) dX1_init_17 (by decide) ?_
  refine n_newa C 0 (a0 := (13, .inl (fun _ => 0))) (N' := 13) dX1_init_19 (by decide +kernel) rfl (fun _ => rfl) (fun _ => rfl) (by decide) (by decide) (by decide) (by decide) (by decide) (fun q19 => ?_)
  refine n_putF C (a := h0) (ci := 1) (C' := RX1) (ref := RX1) (T := TX1) (N := 2) (kf := 1) (tyf := tyX1) (ty := .array .int) (v := .ref q19) (fs' := [.ref q9, .ref q19]) dX1_init_21 F_i tyX1_ok nmX1 rfl (by decide) (by decide +kernel) rfl rfl rfl rfl rfl rfl rfl (Nat.le_of_ble_eq_true rfl) rfl ?_
  exact n_ret C dX1_init_24 (by decide) (by decide) ⟨q9, r9, q19, rfl⟩
set_option maxRecDepth 100000 in
set_option maxHeartbeats 1000000 in
theorem n_X2_init : n_Con yX2_init wsX2_init 1 12 5 300 (.inr (2, [.null, .int 0, .null, .null, .null, .null, .int 0])) (fun dA h0 w => ∃ (q7 : Nat) (q20 : Nat) (q28 : Nat) (q36 : Nat) (q44 : Nat), w = (h0, .inr (2, [.ref q7, .int 0, .ref q20, .ref q28, .ref q36, .ref q44, .int 0])) :: [(q7, .inl (dA 2, (60, .inl (fun _ => 0)))), (q20, .inl (dA 0, (60, .inl (fun _ => 0)))), (q28, .inl (dA 0, (60, .inl (fun _ => 0)))), (q36, .inl (dA 0, (60, .inl (fun _ => 0)))), (q44, .inl (dA 1, (60, .inl (fun _ => 0))))]) := by
  refine n_con_of cX2_init 1 RX2 (by decide) rfl rfl (by decide) rfl (fun dA h0 V C => ?_)
  have F_i : ∀ w ∈ wsX20, w ∈ wsX2_init := by decide +kernel
  refine n_aload C dX2_init_0 rfl 0 rfl ?_
  refine n_obj C (by decide +kernel) (by decide +kernel) (by decide +kernel) dX2_init_1 (by decide) (by decide) ?_
  refine n_aload C dX2_init_4 rfl 0 rfl ?_
  refine n_bipush C (v := 60) dX2_init_5 (by decide) ?_
  refine n_newa C 2 (a0 := (60, .inl (fun _ => 0))) (N' := 60) dX2_init_7 (by decide +kernel) rfl (fun _ => rfl) (fun _ => rfl) (by decide) (by decide) (by decide) (by decide) (by decide) (fun q7 => ?_)
  refine n_putF C (a := h0) (ci := 2) (C' := RX2) (ref := RX2) (T := TX2) (N := 7) (kf := 0) (tyf := tyX2) (ty := .array .char) (v := .ref q7) (fs' := [.ref q7, .int 0, .null, .null, .null, .null, .int 0]) dX2_init_9 F_i tyX2_ok nmX2 rfl (by decide) (by decide +kernel) rfl rfl rfl rfl rfl rfl rfl (Nat.le_of_ble_eq_true rfl) rfl ?_
  refine n_aload C dX2_init_12 rfl 0 rfl ?_
  refine n_iconst C (v := 0) dX2_init_13 (by decide) ?_
  refine n_put C (a := h0) (ci := 2) (C' := RX2) (ref := RX2) (T := TX2) (N := 7) (kf := 1) (tyf := tyX2) (ty := .int) (v := .int 0) (fs' := [.ref q7, .int 0, .null, .null, .null, .null, .int 0]) dX2_init_14 F_i tyX2_ok nmX2 rfl (by decide) (by decide +kernel) rfl rfl rfl rfl rfl (Nat.le_of_ble_eq_true rfl) rfl ?_
  refine n_aload C dX2_init_17 rfl 0 rfl ?_
  refine n_bipush C (v := 60) dX2_init_18 (by decide) ?_
  refine n_newa C 0 (a0 := (60, .inl (fun _ => 0))) (N' := 60) dX2_init_20 (by decide +kernel) rfl (fun _ => rfl) (fun _ => rfl) (by decide) (by decide) (by decide) (by decide) (by decide) (fun q20 => ?_)
  refine n_putF C (a := h0) (ci := 2) (C' := RX2) (ref := RX2) (T := TX2) (N := 7) (kf := 2) (tyf := tyX2) (ty := .array .int) (v := .ref q20) (fs' := [.ref q7, .int 0, .ref q20, .null, .null, .null, .int 0]) dX2_init_22 F_i tyX2_ok nmX2 rfl (by decide) (by decide +kernel) rfl rfl rfl rfl rfl rfl rfl (Nat.le_of_ble_eq_true rfl) rfl ?_
  refine n_aload C dX2_init_25 rfl 0 rfl ?_
  refine n_bipush C (v := 60) dX2_init_26 (by decide) ?_
  refine n_newa C 0 (a0 := (60, .inl (fun _ => 0))) (N' := 60) dX2_init_28 (by decide +kernel) rfl (fun _ => rfl) (fun _ => rfl) (by decide) (by decide) (by decide) (by decide) (by decide) (fun q28 => ?_)
  refine n_putF C (a := h0) (ci := 2) (C' := RX2) (ref := RX2) (T := TX2) (N := 7) (kf := 3) (tyf := tyX2) (ty := .array .int) (v := .ref q28) (fs' := [.ref q7, .int 0, .ref q20, .ref q28, .null, .null, .int 0]) dX2_init_30 F_i tyX2_ok nmX2 rfl (by decide) (by decide +kernel) rfl rfl rfl rfl rfl rfl rfl (Nat.le_of_ble_eq_true rfl) rfl ?_
  refine n_aload C dX2_init_33 rfl 0 rfl ?_
  refine n_bipush C (v := 60) dX2_init_34 (by decide) ?_
  refine n_newa C 0 (a0 := (60, .inl (fun _ => 0))) (N' := 60) dX2_init_36 (by decide +kernel) rfl (fun _ => rfl) (fun _ => rfl) (by decide) (by decide) (by decide) (by decide) (by decide) (fun q36 => ?_)
  refine n_putF C (a := h0) (ci := 2) (C' := RX2) (ref := RX2) (T := TX2) (N := 7) (kf := 4) (tyf := tyX2) (ty := .array .int) (v := .ref q36) (fs' := [.ref q7, .int 0, .ref q20, .ref q28, .ref q36, .null, .int 0]) dX2_init_38 F_i tyX2_ok nmX2 rfl (by decide) (by decide +kernel) rfl rfl rfl rfl rfl rfl rfl (Nat.le_of_ble_eq_true rfl) rfl ?_
  refine n_aload C dX2_init_41 rfl 0 rfl ?_
  refine n_bipush C (v := 60) dX2_init_42 (by decide) ?_
  refine n_newa C 1 (a0 := (60, .inl (fun _ => 0))) (N' := 60) dX2_init_44 (by decide +kernel) rfl (fun _ => rfl) (fun _ => rfl) (by decide) (by decide) (by decide) (by decide) (by decide) (fun q44 => ?_)
  refine n_putF C (a := h0) (ci := 2) (C' := RX2) (ref := RX2) (T := TX2) (N := 7) (kf := 5) (tyf := tyX2) (ty := .array .boolean) (v := .ref q44) (fs' := [.ref q7, .int 0, .ref q20, .ref q28, .ref q36, .ref q44, .int 0]) dX2_init_46 F_i tyX2_ok nmX2 rfl (by decide) (by decide +kernel) rfl rfl rfl rfl rfl rfl rfl (Nat.le_of_ble_eq_true rfl) rfl ?_
  refine n_aload C dX2_init_49 rfl 0 rfl ?_
  refine n_iconst C (v := 0) dX2_init_50 (by decide) ?_
  refine n_put C (a := h0) (ci := 2) (C' := RX2) (ref := RX2) (T := TX2) (N := 7) (kf := 6) (tyf := tyX2) (ty := .int) (v := .int 0) (fs' := [.ref q7, .int 0, .ref q20, .ref q28, .ref q36, .ref q44, .int 0]) dX2_init_51 F_i tyX2_ok nmX2 rfl (by decide) (by decide +kernel) rfl rfl rfl rfl rfl (Nat.le_of_ble_eq_true rfl) rfl ?_
  exact n_ret C dX2_init_54 (by decide) (by decide) ⟨q7, q20, q28, q36, q44, rfl⟩
set_option maxRecDepth 100000 in
set_option maxHeartbeats 1000000 in
theorem n_X3_init : n_Con yX3_init wsX3_init 1 12 9 40 (.inr (3, [.null, .int 0])) (fun dA h0 w => ∃ (q8 : Nat) (r8 : Nat → Nat), w = (h0, .inr (3, [.ref q8, .int 0])) :: [(q8, .inl (dA 6, (8, .inr (.inr (.inr (.inr (fun i => some (r8 i)))))))), (r8 0, .inl (dA 0, (4, .inl (fun _ => 0)))), (r8 1, .inl (dA 0, (4, .inl (fun _ => 0)))), (r8 2, .inl (dA 0, (4, .inl (fun _ => 0)))), (r8 3, .inl (dA 0, (4, .inl (fun _ => 0)))), (r8 4, .inl (dA 0, (4, .inl (fun _ => 0)))), (r8 5, .inl (dA 0, (4, .inl (fun _ => 0)))), (r8 6, .inl (dA 0, (4, .inl (fun _ => 0)))), (r8 7, .inl (dA 0, (4, .inl (fun _ => 0))))]) := by
  refine n_con_of cX3_init 1 RX3 (by decide) rfl rfl (by decide) rfl (fun dA h0 V C => ?_)
  have F_i : ∀ w ∈ wsX30, w ∈ wsX3_init := by decide +kernel
  refine n_aload C dX3_init_0 rfl 0 rfl ?_
  refine n_obj C (by decide +kernel) (by decide +kernel) (by decide +kernel) dX3_init_1 (by decide) (by decide) ?_
  refine n_aload C dX3_init_4 rfl 0 rfl ?_
  refine n_bipush C (v := 8) dX3_init_5 (by decide) ?_
  refine n_iconst C (v := 4) dX3_init_7 (by decide) ?_
  refine n_mna C dX3_init_8 (by decide +kernel) (by decide +kernel) (by decide) (by decide) (N' := 8) (K' := 4) (z := (4, .inl (fun _ => 0))) (by decide) (by decide) (by decide) (by decide) (by decide) (fun c => arrV_new c 4 (.int 0)) (by decide) (by decide) (fun q8 r8 => ?_)
  refine n_putF C (a := h0) (ci := 3) (C' := RX3) (ref := RX3) (T := TX3) (N := 2) (kf := 0) (tyf := tyX3) (ty := .array (.array .int)) (v := .ref q8) (fs' := [.ref q8, .int 0]) dX3_init_12 F_i tyX3_ok nmX3 rfl (by decide) (by decide +kernel) rfl rfl rfl rfl rfl rfl rfl (Nat.le_of_ble_eq_true rfl) rfl ?_
  refine n_aload C dX3_init_15 rfl 0 rfl ?_
  refine n_iconst C (v := 0) dX3_init_16 (by decide) ?_
  refine n_put C (a := h0) (ci := 3) (C' := RX3) (ref := RX3) (T := TX3) (N := 2) (kf := 1) (tyf := tyX3) (ty := .int) (v := .int 0) (fs' := [.ref q8, .int 0]) dX3_init_17 F_i tyX3_ok nmX3 rfl (by decide) (by decide +kernel) rfl rfl rfl rfl rfl (Nat.le_of_ble_eq_true rfl) rfl ?_
  exact n_ret C dX3_init_20 (by decide) (by decide) ⟨q8, r8, rfl⟩
set_option maxRecDepth 100000 in
set_option maxHeartbeats 1000000 in
theorem n_X4_init : n_Con yX4_init wsX4_init 1 12 2 970 (.inr (4, [.null, .null, .int 0])) (fun dA h0 w => ∃ (q8 : Nat) (q16 : Nat), w = (h0, .inr (4, [.ref q8, .ref q16, .int 0])) :: [(q8, .inl (dA 2, (960, .inl (fun _ => 0)))), (q16, .inl (dA 2, (10, .inl (fun _ => 0))))]) := by
  refine n_con_of cX4_init 1 RX4 (by decide) rfl rfl (by decide) rfl (fun dA h0 V C => ?_)
  have F_i : ∀ w ∈ wsX40, w ∈ wsX4_init := by decide +kernel
  refine n_aload C dX4_init_0 rfl 0 rfl ?_
  refine n_obj C (by decide +kernel) (by decide +kernel) (by decide +kernel) dX4_init_1 (by decide) (by decide) ?_
  refine n_aload C dX4_init_4 rfl 0 rfl ?_
  refine n_sipush C (v := 960) dX4_init_5 (by decide) ?_
  refine n_newa C 2 (a0 := (960, .inl (fun _ => 0))) (N' := 960) dX4_init_8 (by decide +kernel) rfl (fun _ => rfl) (fun _ => rfl) (by decide) (by decide) (by decide) (by decide) (by decide) (fun q8 => ?_)
  refine n_putF C (a := h0) (ci := 4) (C' := RX4) (ref := RX4) (T := TX4) (N := 3) (kf := 0) (tyf := tyX4) (ty := .array .char) (v := .ref q8) (fs' := [.ref q8, .null, .int 0]) dX4_init_10 F_i tyX4_ok nmX4 rfl (by decide) (by decide +kernel) rfl rfl rfl rfl rfl rfl rfl (Nat.le_of_ble_eq_true rfl) rfl ?_
  refine n_aload C dX4_init_13 rfl 0 rfl ?_
  refine n_bipush C (v := 10) dX4_init_14 (by decide) ?_
  refine n_newa C 2 (a0 := (10, .inl (fun _ => 0))) (N' := 10) dX4_init_16 (by decide +kernel) rfl (fun _ => rfl) (fun _ => rfl) (by decide) (by decide) (by decide) (by decide) (by decide) (fun q16 => ?_)
  refine n_putF C (a := h0) (ci := 4) (C' := RX4) (ref := RX4) (T := TX4) (N := 3) (kf := 1) (tyf := tyX4) (ty := .array .char) (v := .ref q16) (fs' := [.ref q8, .ref q16, .int 0]) dX4_init_18 F_i tyX4_ok nmX4 rfl (by decide) (by decide +kernel) rfl rfl rfl rfl rfl rfl rfl (Nat.le_of_ble_eq_true rfl) rfl ?_
  refine n_aload C dX4_init_21 rfl 0 rfl ?_
  refine n_iconst C (v := 0) dX4_init_22 (by decide) ?_
  refine n_put C (a := h0) (ci := 4) (C' := RX4) (ref := RX4) (T := TX4) (N := 3) (kf := 2) (tyf := tyX4) (ty := .int) (v := .int 0) (fs' := [.ref q8, .ref q16, .int 0]) dX4_init_23 F_i tyX4_ok nmX4 rfl (by decide) (by decide +kernel) rfl rfl rfl rfl rfl (Nat.le_of_ble_eq_true rfl) rfl ?_
  exact n_ret C dX4_init_26 (by decide) (by decide) ⟨q8, q16, rfl⟩
set_option maxRecDepth 100000 in
set_option maxHeartbeats 1000000 in
theorem n_X5_init : n_Con yX5_init wsX5_init 1 12 0 0 (.inr (5, [.int 0, .int 0, .int 0])) (fun dA h0 w => w = (h0, .inr (5, [.int (-1), .int 0, .int 0])) :: []) := by
  refine n_con_of cX5_init 1 RX5 (by decide) rfl rfl (by decide) rfl (fun dA h0 V C => ?_)
  have F_i : ∀ w ∈ wsX50, w ∈ wsX5_init := by decide +kernel
  refine n_aload C dX5_init_0 rfl 0 rfl ?_
  refine n_obj C (by decide +kernel) (by decide +kernel) (by decide +kernel) dX5_init_1 (by decide) (by decide) ?_
  refine n_aload C dX5_init_4 rfl 0 rfl ?_
  refine n_iconst C (v := -1) dX5_init_5 (by decide) ?_
  refine n_put C (a := h0) (ci := 5) (C' := RX5) (ref := RX5) (T := TX5) (N := 3) (kf := 0) (tyf := tyX5) (ty := .int) (v := .int (-1)) (fs' := [.int (-1), .int 0, .int 0]) dX5_init_6 F_i tyX5_ok nmX5 rfl (by decide) (by decide +kernel) rfl rfl rfl rfl rfl (Nat.le_of_ble_eq_true rfl) rfl ?_
  refine n_aload C dX5_init_9 rfl 0 rfl ?_
  refine n_iconst C (v := 0) dX5_init_10 (by decide) ?_
  refine n_put C (a := h0) (ci := 5) (C' := RX5) (ref := RX5) (T := TX5) (N := 3) (kf := 1) (tyf := tyX5) (ty := .int) (v := .int 0) (fs' := [.int (-1), .int 0, .int 0]) dX5_init_11 F_i tyX5_ok nmX5 rfl (by decide) (by decide +kernel) rfl rfl rfl rfl rfl (Nat.le_of_ble_eq_true rfl) rfl ?_
  refine n_aload C dX5_init_14 rfl 0 rfl ?_
  refine n_iconst C (v := 0) dX5_init_15 (by decide) ?_
  refine n_put C (a := h0) (ci := 5) (C' := RX5) (ref := RX5) (T := TX5) (N := 3) (kf := 2) (tyf := tyX5) (ty := .int) (v := .int 0) (fs' := [.int (-1), .int 0, .int 0]) dX5_init_16 F_i tyX5_ok nmX5 rfl (by decide) (by decide +kernel) rfl rfl rfl rfl rfl (Nat.le_of_ble_eq_true rfl) rfl ?_
  exact n_ret C dX5_init_19 (by decide) (by decide) rfl
set_option maxRecDepth 100000 in
set_option maxHeartbeats 1000000 in
theorem n_X6_init : n_Con yX6_init wsX6_init 1 12 3 192 (.inr (6, [.null, .null, .null, .long 0])) (fun dA h0 w => ∃ (q7 : Nat) (q15 : Nat) (q23 : Nat), w = (h0, .inr (6, [.ref q7, .ref q15, .ref q23, .long 0])) :: [(q7, .inl (dA 0, (64, .inl (fun _ => 0)))), (q15, .inl (dA 0, (64, .inl (fun _ => 0)))), (q23, .inl (dA 0, (64, .inl (fun _ => 0))))]) := by
  refine n_con_of cX6_init 1 RX6 (by decide) rfl rfl (by decide) rfl (fun dA h0 V C => ?_)
  have F_i : ∀ w ∈ wsX60, w ∈ wsX6_init := by decide +kernel
  refine n_aload C dX6_init_0 rfl 0 rfl ?_
  refine n_obj C (by decide +kernel) (by decide +kernel) (by decide +kernel) dX6_init_1 (by decide) (by decide) ?_
  refine n_aload C dX6_init_4 rfl 0 rfl ?_
  refine n_bipush C (v := 64) dX6_init_5 (by decide) ?_
  refine n_newa C 0 (a0 := (64, .inl (fun _ => 0))) (N' := 64) dX6_init_7 (by decide +kernel) rfl (fun _ => rfl) (fun _ => rfl) (by decide) (by decide) (by decide) (by decide) (by decide) (fun q7 => ?_)
  refine n_putF C (a := h0) (ci := 6) (C' := RX6) (ref := RX6) (T := TX6) (N := 4) (kf := 0) (tyf := tyX6) (ty := .array .int) (v := .ref q7) (fs' := [.ref q7, .null, .null, .long 0]) dX6_init_9 F_i tyX6_ok nmX6 rfl (by decide) (by decide +kernel) rfl rfl rfl rfl rfl rfl rfl (Nat.le_of_ble_eq_true rfl) rfl ?_
  refine n_aload C dX6_init_12 rfl 0 rfl ?_
  refine n_bipush C (v := 64) dX6_init_13 (by decide) ?_
  refine n_newa C 0 (a0 := (64, .inl (fun _ => 0))) (N' := 64) dX6_init_15 (by decide +kernel) rfl (fun _ => rfl) (fun _ => rfl) (by decide) (by decide) (by decide) (by decide) (by decide) (fun q15 => ?_)
  refine n_putF C (a := h0) (ci := 6) (C' := RX6) (ref := RX6) (T := TX6) (N := 4) (kf := 1) (tyf := tyX6) (ty := .array .int) (v := .ref q15) (fs' := [.ref q7, .ref q15, .null, .long 0]) dX6_init_17 F_i tyX6_ok nmX6 rfl (by decide) (by decide +kernel) rfl rfl rfl rfl rfl rfl rfl (Nat.le_of_ble_eq_true rfl) rfl ?_
  refine n_aload C dX6_init_20 rfl 0 rfl ?_
  refine n_bipush C (v := 64) dX6_init_21 (by decide) ?_
  refine n_newa C 0 (a0 := (64, .inl (fun _ => 0))) (N' := 64) dX6_init_23 (by decide +kernel) rfl (fun _ => rfl) (fun _ => rfl) (by decide) (by decide) (by decide) (by decide) (by decide) (fun q23 => ?_)
  refine n_putF C (a := h0) (ci := 6) (C' := RX6) (ref := RX6) (T := TX6) (N := 4) (kf := 2) (tyf := tyX6) (ty := .array .int) (v := .ref q23) (fs' := [.ref q7, .ref q15, .ref q23, .long 0]) dX6_init_25 F_i tyX6_ok nmX6 rfl (by decide) (by decide +kernel) rfl rfl rfl rfl rfl rfl rfl (Nat.le_of_ble_eq_true rfl) rfl ?_
  refine n_aload C dX6_init_28 rfl 0 rfl ?_
  refine n_lconst C (v := 0) dX6_init_29 (by decide) ?_
  refine n_put C (a := h0) (ci := 6) (C' := RX6) (ref := RX6) (T := TX6) (N := 4) (kf := 3) (tyf := tyX6) (ty := .long) (v := .long 0) (fs' := [.ref q7, .ref q15, .ref q23, .long 0]) dX6_init_30 F_i tyX6_ok nmX6 rfl (by decide) (by decide +kernel) rfl rfl rfl rfl rfl (Nat.le_of_ble_eq_true rfl) rfl ?_
  exact n_ret C dX6_init_33 (by decide) (by decide) ⟨q7, q15, q23, rfl⟩
set_option maxRecDepth 100000 in
set_option maxHeartbeats 1000000 in
theorem n_X8_init : n_Con yX8_init wsX8_init 1 12 2 72 (.inr (8, [.null, .null, .long 0, .int 0, .int 0, .int 0])) (fun dA h0 w => ∃ (q7 : Nat) (q15 : Nat), w = (h0, .inr (8, [.ref q7, .ref q15, .long 0, .int 0, .int 0, .int 2])) :: [(q7, .inl (dA 0, (8, .inl (fun _ => 0)))), (q15, .inl (dA 0, (64, .inl (fun _ => 0))))]) := by
  refine n_con_of cX8_init 1 RX8 (by decide) rfl rfl (by decide) rfl (fun dA h0 V C => ?_)
  have F_i : ∀ w ∈ wsX80, w ∈ wsX8_init := by decide +kernel
  refine n_aload C dX8_init_0 rfl 0 rfl ?_
  refine n_obj C (by decide +kernel) (by decide +kernel) (by decide +kernel) dX8_init_1 (by decide) (by decide) ?_
  refine n_aload C dX8_init_4 rfl 0 rfl ?_
  refine n_bipush C (v := 8) dX8_init_5 (by decide) ?_
  refine n_newa C 0 (a0 := (8, .inl (fun _ => 0))) (N' := 8) dX8_init_7 (by decide +kernel) rfl (fun _ => rfl) (fun _ => rfl) (by decide) (by decide) (by decide) (by decide) (by decide) (fun q7 => ?_)
  refine n_putF C (a := h0) (ci := 8) (C' := RX8) (ref := RX8) (T := TX8) (N := 6) (kf := 0) (tyf := tyX8) (ty := .array .int) (v := .ref q7) (fs' := [.ref q7, .null, .long 0, .int 0, .int 0, .int 0]) dX8_init_9 F_i tyX8_ok nmX8 rfl (by decide) (by decide +kernel) rfl rfl rfl rfl rfl rfl rfl (Nat.le_of_ble_eq_true rfl) rfl ?_
  refine n_aload C dX8_init_12 rfl 0 rfl ?_
  refine n_bipush C (v := 64) dX8_init_13 (by decide) ?_
  refine n_newa C 0 (a0 := (64, .inl (fun _ => 0))) (N' := 64) dX8_init_15 (by decide +kernel) rfl (fun _ => rfl) (fun _ => rfl) (by decide) (by decide) (by decide) (by decide) (by decide) (fun q15 => ?_)
  refine n_putF C (a := h0) (ci := 8) (C' := RX8) (ref := RX8) (T := TX8) (N := 6) (kf := 1) (tyf := tyX8) (ty := .array .int) (v := .ref q15) (fs' := [.ref q7, .ref q15, .long 0, .int 0, .int 0, .int 0]) dX8_init_17 F_i tyX8_ok nmX8 rfl (by decide) (by decide +kernel) rfl rfl rfl rfl rfl rfl rfl (Nat.le_of_ble_eq_true rfl) rfl ?_
  refine n_aload C dX8_init_20 rfl 0 rfl ?_
  refine n_lconst C (v := 0) dX8_init_21 (by decide) ?_
  refine n_put C (a := h0) (ci := 8) (C' := RX8) (ref := RX8) (T := TX8) (N := 6) (kf := 2) (tyf := tyX8) (ty := .long) (v := .long 0) (fs' := [.ref q7, .ref q15, .long 0, .int 0, .int 0, .int 0]) dX8_init_22 F_i tyX8_ok nmX8 rfl (by decide) (by decide +kernel) rfl rfl rfl rfl rfl (Nat.le_of_ble_eq_true rfl) rfl ?_
  refine n_aload C dX8_init_25 rfl 0 rfl ?_
  refine n_iconst C (v := 0) dX8_init_26 (by decide) ?_
  refine n_put C (a := h0) (ci := 8) (C' := RX8) (ref := RX8) (T := TX8) (N := 6) (kf := 3) (tyf := tyX8) (ty := .int) (v := .int 0) (fs' := [.ref q7, .ref q15, .long 0, .int 0, .int 0, .int 0]) dX8_init_27 F_i tyX8_ok nmX8 rfl (by decide) (by decide +kernel) rfl rfl rfl rfl rfl (Nat.le_of_ble_eq_true rfl) rfl ?_
  refine n_aload C dX8_init_30 rfl 0 rfl ?_
  refine n_iconst C (v := 0) dX8_init_31 (by decide) ?_
  refine n_put C (a := h0) (ci := 8) (C' := RX8) (ref := RX8) (T := TX8) (N := 6) (kf := 4) (tyf := tyX8) (ty := .int) (v := .int 0) (fs' := [.ref q7, .ref q15, .long 0, .int 0, .int 0, .int 0]) dX8_init_32 F_i tyX8_ok nmX8 rfl (by decide) (by decide +kernel) rfl rfl rfl rfl rfl (Nat.le_of_ble_eq_true rfl) rfl ?_
  refine n_aload C dX8_init_35 rfl 0 rfl ?_
  refine n_iconst C (v := 2) dX8_init_36 (by decide) ?_
  refine n_put C (a := h0) (ci := 8) (C' := RX8) (ref := RX8) (T := TX8) (N := 6) (kf := 5) (tyf := tyX8) (ty := .int) (v := .int 2) (fs' := [.ref q7, .ref q15, .long 0, .int 0, .int 0, .int 2]) dX8_init_37 F_i tyX8_ok nmX8 rfl (by decide) (by decide +kernel) rfl rfl rfl rfl rfl (Nat.le_of_ble_eq_true rfl) rfl ?_
  exact n_ret C dX8_init_40 (by decide) (by decide) ⟨q7, q15, rfl⟩
