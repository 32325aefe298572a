/-! CONSTRUCTORS: a slot. Written by wip/whole/ctors2.py. -/
def p_Chg (dA : Nat → ClassId) (h0 : Nat) (w : va_W) : Prop := ∃ (q7 : Nat), w = (h0, .inr (0, [.ref q7, .long 0, .long 0])) :: [(q7, .inl (dA 0, (64, .inl (fun _ => 0))))]
def p_Dsk (dA : Nat → ClassId) (h0 : Nat) (w : va_W) : Prop := ∃ (q9 : Nat) (r9 : Nat → Nat) (q19 : Nat), w = (h0, .inr (1, [.ref q9, .ref q19])) :: [(q9, .inl (dA 6, (32, .inr (.inr (.inr (.inr (fun i => some (r9 i)))))))), (r9 0, .inl (dA 0, (13, .inl (fun _ => 0)))), (r9 1, .inl (dA 0, (13, .inl (fun _ => 0)))), (r9 2, .inl (dA 0, (13, .inl (fun _ => 0)))), (r9 3, .inl (dA 0, (13, .inl (fun _ => 0)))), (r9 4, .inl (dA 0, (13, .inl (fun _ => 0)))), (r9 5, .inl (dA 0, (13, .inl (fun _ => 0)))), (r9 6, .inl (dA 0, (13, .inl (fun _ => 0)))), (r9 7, .inl (dA 0, (13, .inl (fun _ => 0)))), (r9 8, .inl (dA 0, (13, .inl (fun _ => 0)))), (r9 9, .inl (dA 0, (13, .inl (fun _ => 0)))), (r9 10, .inl (dA 0, (13, .inl (fun _ => 0)))), (r9 11, .inl (dA 0, (13, .inl (fun _ => 0)))), (r9 12, .inl (dA 0, (13, .inl (fun _ => 0)))), (r9 13, .inl (dA 0, (13, .inl (fun _ => 0)))), (r9 14, .inl (dA 0, (13, .inl (fun _ => 0)))), (r9 15, .inl (dA 0, (13, .inl (fun _ => 0)))), (r9 16, .inl (dA 0, (13, .inl (fun _ => 0)))), (r9 17, .inl (dA 0, (13, .inl (fun _ => 0)))), (r9 18, .inl (dA 0, (13, .inl (fun _ => 0)))), (r9 19, .inl (dA 0, (13, .inl (fun _ => 0)))), (r9 20, .inl (dA 0, (13, .inl (fun _ => 0)))), (r9 21, .inl (dA 0, (13, .inl (fun _ => 0)))), (r9 22, .inl (dA 0, (13, .inl (fun _ => 0)))), (r9 23, .inl (dA 0, (13, .inl (fun _ => 0)))), (r9 24, .inl (dA 0, (13, .inl (fun _ => 0)))), (r9 25, .inl (dA 0, (13, .inl (fun _ => 0)))), (r9 26, .inl (dA 0, (13, .inl (fun _ => 0)))), (r9 27, .inl (dA 0, (13, .inl (fun _ => 0)))), (r9 28, .inl (dA 0, (13, .inl (fun _ => 0)))), (r9 29, .inl (dA 0, (13, .inl (fun _ => 0)))), (r9 30, .inl (dA 0, (13, .inl (fun _ => 0)))), (r9 31, .inl (dA 0, (13, .inl (fun _ => 0)))), (q19, .inl (dA 0, (13, .inl (fun _ => 0))))]
def p_Inp (dA : Nat → ClassId) (h0 : Nat) (w : va_W) : Prop := ∃ (q7 : Nat) (q20 : Nat) (q28 : Nat) (q36 : Nat) (q44 : Nat), w = (h0, .inr (2, [.ref q7, .int 0, .ref q20, .ref q28, .ref q36, .ref q44, .int 0])) :: [(q7, .inl (dA 2, (60, .inl (fun _ => 0)))), (q20, .inl (dA 0, (60, .inl (fun _ => 0)))), (q28, .inl (dA 0, (60, .inl (fun _ => 0)))), (q36, .inl (dA 0, (60, .inl (fun _ => 0)))), (q44, .inl (dA 1, (60, .inl (fun _ => 0))))]
def p_Log (dA : Nat → ClassId) (h0 : Nat) (w : va_W) : Prop := ∃ (q8 : Nat) (r8 : Nat → Nat), w = (h0, .inr (3, [.ref q8, .int 0])) :: [(q8, .inl (dA 6, (8, .inr (.inr (.inr (.inr (fun i => some (r8 i)))))))), (r8 0, .inl (dA 0, (4, .inl (fun _ => 0)))), (r8 1, .inl (dA 0, (4, .inl (fun _ => 0)))), (r8 2, .inl (dA 0, (4, .inl (fun _ => 0)))), (r8 3, .inl (dA 0, (4, .inl (fun _ => 0)))), (r8 4, .inl (dA 0, (4, .inl (fun _ => 0)))), (r8 5, .inl (dA 0, (4, .inl (fun _ => 0)))), (r8 6, .inl (dA 0, (4, .inl (fun _ => 0)))), (r8 7, .inl (dA 0, (4, .inl (fun _ => 0))))]
def p_Out (dA : Nat → ClassId) (h0 : Nat) (w : va_W) : Prop := ∃ (q8 : Nat) (q16 : Nat), w = (h0, .inr (4, [.ref q8, .ref q16, .int 0])) :: [(q8, .inl (dA 2, (960, .inl (fun _ => 0)))), (q16, .inl (dA 2, (10, .inl (fun _ => 0))))]
def p_Pow (dA : Nat → ClassId) (h0 : Nat) (w : va_W) : Prop := w = (h0, .inr (5, [.int (-1), .int 0, .int 0])) :: []
def p_Slv (dA : Nat → ClassId) (h0 : Nat) (w : va_W) : Prop := ∃ (q7 : Nat) (q15 : Nat) (q23 : Nat), w = (h0, .inr (6, [.ref q7, .ref q15, .ref q23, .long 0])) :: [(q7, .inl (dA 0, (64, .inl (fun _ => 0)))), (q15, .inl (dA 0, (64, .inl (fun _ => 0)))), (q23, .inl (dA 0, (64, .inl (fun _ => 0))))]
def p_Ver (dA : Nat → ClassId) (h0 : Nat) (w : va_W) : Prop := ∃ (q7 : Nat) (q15 : Nat), w = (h0, .inr (8, [.ref q7, .ref q15, .long 0, .int 0, .int 0, .int 2])) :: [(q7, .inl (dA 0, (8, .inl (fun _ => 0)))), (q15, .inl (dA 0, (64, .inl (fun _ => 0))))]
def p_Slt (dA : Nat → ClassId) (h0 : Nat) (w : va_W) : Prop := ∃ (u v a b c : Nat) (s t y z : va_W), w = (h0, .inr (7, [.ref u, .ref v, .int 0, .int 0])) :: (v, .inl (dA 4, 3, .inr (.inr (.inr (.inr (va_up (va_up (va_up (fun _ => none) 0 (some a)) 1 (some b)) 2 (some c))))))) :: (((s ++ t) ++ y) ++ z) ∧ p_Chg dA u s ∧ p_Chg dA a t ∧ p_Chg dA b y ∧ p_Chg dA c z
set_option maxRecDepth 100000 in
set_option maxHeartbeats 1000000 in
theorem n_pm {α : Type} (x y v : α) (M r : List α) : ((x :: y :: M) ++ (v :: r)).Perm (x :: y :: v :: (M ++ r)) := (List.perm_middle.cons y).cons x
set_option maxRecDepth 100000 in
set_option maxHeartbeats 1000000 in
theorem n_pb {α : Type} (x y v : α) (M r : List α) : (x :: y :: v :: (M ++ r)).Perm (x :: y :: (M ++ (v :: r))) := (List.perm_middle.symm.cons y).cons x
set_option maxRecDepth 100000 in
set_option maxHeartbeats 1000000 in
theorem n_pe {α : Type} (x s : α) (M : List α) : (x :: (M ++ [s])).Perm (x :: s :: M) := (List.perm_append_singleton s M).cons x
set_option maxRecDepth 100000 in
set_option maxHeartbeats 1000000 in
theorem n_ps {α : Type} (x s p : α) (M : List α) : (x :: s :: p :: M).Perm (x :: p :: s :: M) := (List.Perm.swap p s M).cons x
set_option maxRecDepth 100000 in
set_option maxHeartbeats 1000000 in
theorem n_X7_init : n_Con yX7_init wsX7_init 2 32 9 271 (.inr (7, [.null, .null, .int 0, .int 0])) p_Slt := by
  refine n_con_of cX7_init 2 RX7 (by decide) rfl rfl (by decide) rfl (fun dA h0 V C => ?_)
  have F_i7 : ∀ w ∈ wsX70, w ∈ wsX7_init := by decide +kernel
  have F_i0 : ∀ w ∈ wsX00, w ∈ wsX7_init := by decide +kernel
  refine n_aload C dX7_init_0 rfl 0 rfl ?_
  refine n_obj C (by decide +kernel) (by decide +kernel) (by decide +kernel) dX7_init_1 (by decide) (by decide) ?_
  refine n_aload C dX7_init_4 rfl 0 rfl ?_
  refine n_new C (ci := 0) (C' := RX0) (T := TX0) (N := 3) (fs := [.null, .long 0, .long 0]) (tyf := tyX0) dX7_init_5 F_i0 tyX0_ok (by decide +kernel) (by decide +kernel) (by decide +kernel) rfl (fun j hj => by rcases (show j = 0 ∨ j = 1 ∨ j = 2 by omega) with rfl | rfl | rfl <;> rfl) (by decide) (by decide) (fun q0 => ?_)
  refine n_dup C dX7_init_8 ?_
  refine n_callN C (host := RX9) n_X0_init dX7_init_9 gX7_init_X0_init_n11 (by decide +kernel) (by decide +kernel) (by decide +kernel) rfl rfl ⟨(by decide), (by decide), (by decide +kernel)⟩ ⟨(Nat.le_of_ble_eq_true rfl), (Nat.le_of_ble_eq_true rfl)⟩ (Nat.le_of_ble_eq_true rfl) (by decide) (by decide) (fun w0 h0p => ?_)
  show V _ _ _ _ (.ref q0 :: .ref h0 :: []) ((h0, .inr (7, [.null, .null, .int 0, .int 0])) :: w0)
  refine n_putF C (a := h0) (ci := 7) (C' := RX7) (ref := RX7) (T := TX7) (N := 4) (kf := 0) (tyf := tyX7) (ty := .object "ShadowFile$Changes") (v := .ref q0) (fs' := [.ref q0, .null, .int 0, .int 0]) dX7_init_12 F_i7 tyX7_ok nmX7 rfl (by decide) (by decide +kernel) rfl rfl rfl rfl rfl rfl rfl (Nat.le_of_ble_eq_true rfl) rfl ?_
  refine n_aload C dX7_init_15 rfl 0 rfl ?_
  refine n_iconst C (v := 3) dX7_init_16 (by decide) ?_
  refine n_newq C 4 (C' := RX0) (N' := 3) dX7_init_17 (by decide +kernel) (fun _ U => U.1) (fun _ => rfl) (by decide) (by decide) (by decide) (by decide) (by decide) (fun qr => ?_)
  refine n_putF C (a := h0) (ci := 7) (C' := RX7) (ref := RX7) (T := TX7) (N := 4) (kf := 1) (tyf := tyX7) (ty := .array (.object "ShadowFile$Changes")) (v := .ref qr) (fs' := [.ref q0, .ref qr, .int 0, .int 0]) dX7_init_20 F_i7 tyX7_ok nmX7 rfl (by decide) (by decide +kernel) rfl rfl rfl rfl rfl rfl rfl (Nat.le_of_ble_eq_true rfl) rfl ?_
  refine n_perm C ((h0, .inr (7, [.ref q0, .ref qr, .int 0, .int 0])) :: (qr, .inl (dA 4, 3, .inr (.inr (.inr (.inr (fun _ => none)))))) :: w0) (n_pe _ _ _) ?_
  refine n_aload C dX7_init_23 rfl 0 rfl ?_
  refine n_iconst C (v := 0) dX7_init_24 (by decide) ?_
  refine n_put C (a := h0) (ci := 7) (C' := RX7) (ref := RX7) (T := TX7) (N := 4) (kf := 2) (tyf := tyX7) (ty := .int) (v := .int 0) (fs' := [.ref q0, .ref qr, .int 0, .int 0]) dX7_init_25 F_i7 tyX7_ok nmX7 rfl (by decide) (by decide +kernel) rfl rfl rfl rfl rfl (Nat.le_of_ble_eq_true rfl) rfl ?_
  refine n_aload C dX7_init_28 rfl 0 rfl ?_
  refine n_iconst C (v := 0) dX7_init_29 (by decide) ?_
  refine n_put C (a := h0) (ci := 7) (C' := RX7) (ref := RX7) (T := TX7) (N := 4) (kf := 3) (tyf := tyX7) (ty := .int) (v := .int 0) (fs' := [.ref q0, .ref qr, .int 0, .int 0]) dX7_init_30 F_i7 tyX7_ok nmX7 rfl (by decide) (by decide +kernel) rfl rfl rfl rfl rfl (Nat.le_of_ble_eq_true rfl) rfl ?_
  refine n_iconst C (v := 0) dX7_init_33 (by decide) ?_
  refine n_istore C (lv' := [(1, .int 0), (0, .ref h0)]) dX7_init_34 rfl (by decide) rfl ?_
  refine n_iload C dX7_init_35 rfl 0 rfl ?_
  refine n_iconst C (v := 3) dX7_init_36 (by decide) ?_
  refine n_geF C (tgt := 59) dX7_init_37 (by decide) (by decide) ?_
  refine n_aload C dX7_init_40 rfl 1 rfl ?_
  refine n_get C (ci := 7) (C' := RX7) (ref := RX7) (T := TX7) (N := 4) (kf := 1) (fs := [.ref q0, .ref qr, .int 0, .int 0]) (v := .ref qr) dX7_init_41 F_i7 rfl (by decide) (by decide +kernel) rfl rfl ?_
  refine n_iload C dX7_init_44 rfl 0 rfl ?_
  refine n_new C (ci := 0) (C' := RX0) (T := TX0) (N := 3) (fs := [.null, .long 0, .long 0]) (tyf := tyX0) dX7_init_45 F_i0 tyX0_ok (by decide +kernel) (by decide +kernel) (by decide +kernel) rfl (fun j hj => by rcases (show j = 0 ∨ j = 1 ∨ j = 2 by omega) with rfl | rfl | rfl <;> rfl) (by decide) (by decide) (fun qa => ?_)
  refine n_dup C dX7_init_48 ?_
  refine n_callN C (host := RX9) n_X0_init dX7_init_49 gX7_init_X0_init_n11 (by decide +kernel) (by decide +kernel) (by decide +kernel) rfl rfl ⟨(by decide), (by decide), (by decide +kernel)⟩ ⟨(Nat.le_of_ble_eq_true rfl), (Nat.le_of_ble_eq_true rfl)⟩ (Nat.le_of_ble_eq_true rfl) (by decide) (by decide) (fun wa ha => ?_)
  obtain ⟨ua, ea⟩ := id ha
  refine n_perm C ((h0, .inr (7, [.ref q0, .ref qr, .int 0, .int 0])) :: (qr, .inl (dA 4, 3, .inr (.inr (.inr (.inr (fun _ => none)))))) :: (qa, .inr (0, [.ref ua, .long 0, .long 0])) :: (w0 ++ [(ua, .inl (dA 0, (64, .inl (fun _ => 0))))])) (by rw [ea]; exact n_pm _ _ _ _ _) ?_
  refine n_ast C 4 (ci := 0) (r := (RX0, TX0, 3)) (j := 0) dX7_init_52 (fun _ => rfl) rfl (by unfold vp_in; decide) (by decide) ?_
  refine n_perm C ((h0, .inr (7, [.ref q0, .ref qr, .int 0, .int 0])) :: (qr, .inl (dA 4, 3, .inr (.inr (.inr (.inr (va_up (fun _ => none) 0 (some qa))))))) :: (w0 ++ wa)) (by rw [ea]; exact n_pb _ _ _ _ _) ?_
  refine n_iinc C (v := 1) (lv' := [(1, .int 1), (0, .ref h0)]) dX7_init_53 0 rfl (by decide) (by decide) rfl ?_
  refine n_goto C (tgt := 35) dX7_init_56 (by decide) ?_
  refine n_iload C dX7_init_35 rfl 0 rfl ?_
  refine n_iconst C (v := 3) dX7_init_36 (by decide) ?_
  refine n_geF C (tgt := 59) dX7_init_37 (by decide) (by decide) ?_
  refine n_aload C dX7_init_40 rfl 1 rfl ?_
  refine n_get C (ci := 7) (C' := RX7) (ref := RX7) (T := TX7) (N := 4) (kf := 1) (fs := [.ref q0, .ref qr, .int 0, .int 0]) (v := .ref qr) dX7_init_41 F_i7 rfl (by decide) (by decide +kernel) rfl rfl ?_
  refine n_iload C dX7_init_44 rfl 0 rfl ?_
  refine n_new C (ci := 0) (C' := RX0) (T := TX0) (N := 3) (fs := [.null, .long 0, .long 0]) (tyf := tyX0) dX7_init_45 F_i0 tyX0_ok (by decide +kernel) (by decide +kernel) (by decide +kernel) rfl (fun j hj => by rcases (show j = 0 ∨ j = 1 ∨ j = 2 by omega) with rfl | rfl | rfl <;> rfl) (by decide) (by decide) (fun qb => ?_)
  refine n_dup C dX7_init_48 ?_
  refine n_callN C (host := RX9) n_X0_init dX7_init_49 gX7_init_X0_init_n11 (by decide +kernel) (by decide +kernel) (by decide +kernel) rfl rfl ⟨(by decide), (by decide), (by decide +kernel)⟩ ⟨(Nat.le_of_ble_eq_true rfl), (Nat.le_of_ble_eq_true rfl)⟩ (Nat.le_of_ble_eq_true rfl) (by decide) (by decide) (fun wb hb => ?_)
  obtain ⟨ub, eb⟩ := id hb
  refine n_perm C ((h0, .inr (7, [.ref q0, .ref qr, .int 0, .int 0])) :: (qr, .inl (dA 4, 3, .inr (.inr (.inr (.inr (va_up (fun _ => none) 0 (some qa))))))) :: (qb, .inr (0, [.ref ub, .long 0, .long 0])) :: ((w0 ++ wa) ++ [(ub, .inl (dA 0, (64, .inl (fun _ => 0))))])) (by rw [eb]; exact n_pm _ _ _ _ _) ?_
  refine n_ast C 4 (ci := 0) (r := (RX0, TX0, 3)) (j := 1) dX7_init_52 (fun _ => rfl) rfl (by unfold vp_in; decide) (by decide) ?_
  refine n_perm C ((h0, .inr (7, [.ref q0, .ref qr, .int 0, .int 0])) :: (qr, .inl (dA 4, 3, .inr (.inr (.inr (.inr (va_up (va_up (fun _ => none) 0 (some qa)) 1 (some qb))))))) :: ((w0 ++ wa) ++ wb)) (by rw [eb]; exact n_pb _ _ _ _ _) ?_
  refine n_iinc C (v := 2) (lv' := [(1, .int 2), (0, .ref h0)]) dX7_init_53 0 rfl (by decide) (by decide) rfl ?_
  refine n_goto C (tgt := 35) dX7_init_56 (by decide) ?_
  refine n_iload C dX7_init_35 rfl 0 rfl ?_
  refine n_iconst C (v := 3) dX7_init_36 (by decide) ?_
  refine n_geF C (tgt := 59) dX7_init_37 (by decide) (by decide) ?_
  refine n_aload C dX7_init_40 rfl 1 rfl ?_
  refine n_get C (ci := 7) (C' := RX7) (ref := RX7) (T := TX7) (N := 4) (kf := 1) (fs := [.ref q0, .ref qr, .int 0, .int 0]) (v := .ref qr) dX7_init_41 F_i7 rfl (by decide) (by decide +kernel) rfl rfl ?_
  refine n_iload C dX7_init_44 rfl 0 rfl ?_
  refine n_new C (ci := 0) (C' := RX0) (T := TX0) (N := 3) (fs := [.null, .long 0, .long 0]) (tyf := tyX0) dX7_init_45 F_i0 tyX0_ok (by decide +kernel) (by decide +kernel) (by decide +kernel) rfl (fun j hj => by rcases (show j = 0 ∨ j = 1 ∨ j = 2 by omega) with rfl | rfl | rfl <;> rfl) (by decide) (by decide) (fun qc => ?_)
  refine n_dup C dX7_init_48 ?_
  refine n_callN C (host := RX9) n_X0_init dX7_init_49 gX7_init_X0_init_n11 (by decide +kernel) (by decide +kernel) (by decide +kernel) rfl rfl ⟨(by decide), (by decide), (by decide +kernel)⟩ ⟨(Nat.le_of_ble_eq_true rfl), (Nat.le_of_ble_eq_true rfl)⟩ (Nat.le_of_ble_eq_true rfl) (by decide) (by decide) (fun wc hc => ?_)
  obtain ⟨uc, ec⟩ := id hc
  refine n_perm C ((h0, .inr (7, [.ref q0, .ref qr, .int 0, .int 0])) :: (qr, .inl (dA 4, 3, .inr (.inr (.inr (.inr (va_up (va_up (fun _ => none) 0 (some qa)) 1 (some qb))))))) :: (qc, .inr (0, [.ref uc, .long 0, .long 0])) :: (((w0 ++ wa) ++ wb) ++ [(uc, .inl (dA 0, (64, .inl (fun _ => 0))))])) (by rw [ec]; exact n_pm _ _ _ _ _) ?_
  refine n_ast C 4 (ci := 0) (r := (RX0, TX0, 3)) (j := 2) dX7_init_52 (fun _ => rfl) rfl (by unfold vp_in; decide) (by decide) ?_
  refine n_perm C ((h0, .inr (7, [.ref q0, .ref qr, .int 0, .int 0])) :: (qr, .inl (dA 4, 3, .inr (.inr (.inr (.inr (va_up (va_up (va_up (fun _ => none) 0 (some qa)) 1 (some qb)) 2 (some qc))))))) :: (((w0 ++ wa) ++ wb) ++ wc)) (by rw [ec]; exact n_pb _ _ _ _ _) ?_
  refine n_iinc C (v := 3) (lv' := [(1, .int 3), (0, .ref h0)]) dX7_init_53 0 rfl (by decide) (by decide) rfl ?_
  refine n_goto C (tgt := 35) dX7_init_56 (by decide) ?_
  refine n_iload C dX7_init_35 rfl 0 rfl ?_
  refine n_iconst C (v := 3) dX7_init_36 (by decide) ?_
  refine n_geT C (tgt := 59) dX7_init_37 (by decide) (by decide) ?_
  exact n_ret C dX7_init_59 (by decide) (by decide) ⟨q0, qr, qa, qb, qc, w0, wa, wb, wc, rfl, h0p, ha, hb, hc⟩
