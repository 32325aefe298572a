noncomputable def f_X8_isWrong_L72 (a : Nat) (y2_72 : Int32) (a3_72 : Nat) (m : sM) (e121_72 : Option (sR Int32)) (e90_72 : Int32 → Option (sR Int32)) : Nat → Int32 → Option (sR Int32)
  | 0, _ => none
  | n + 1, x4_72 =>
    if 8 ≤ x4_72 then (e121_72) else (s_ix x4_72 8 fun j14 => if y2_72 = (m.1 (a + 1) j14) then (e90_72 x4_72) else (f_X8_isWrong_L72 a y2_72 a3_72 m e121_72 e90_72 n (x4_72 + 1)))
noncomputable def f_X8_isWrong (a : Nat) (p2 : Int32) (m : sM) : Option (sR Int32) :=
  s_ix p2 32 fun j1 => if p2 = (m.1 a 4) then (s_bd (f_X1_isValidForm p2 1 m) fun r2 m3 => s_jn (fun (s0_37 : Int32) (m37_ : sM) => s_gd (s0_37 = 0 ∨ s0_37 = 1) (some (.inl s0_37, m37_))) fun k37 => s_jn (fun (m32_ : sM) => k37 1 m32_) fun k32 => if r2 = 0 then (k32  m3) else (s_bd (f_X8_isOurRoot a (4 + 1 * j1) m3) fun r4 m5 => if r4 = 0 then (k32  m5) else (k37 0 m5))) else (if p2 = (m.1 a 5) then (s_bd (f_X1_isValidForm p2 2 m) fun r6 m7 => s_jn (fun (s0_68 : Int32) (m68_ : sM) => s_gd (s0_68 = 0 ∨ s0_68 = 1) (some (.inl s0_68, m68_))) fun k68 => s_jn (fun (m63_ : sM) => k68 1 m63_) fun k63 => if r6 = 0 then (k63  m7) else (s_bd (f_X8_isOurTable a (4 + 1 * j1) m7) fun r8 m9 => if r8 = 0 then (k63  m9) else (k68 0 m9))) else (s_jn (some (.inl 0, m)) fun e121_72 => s_jn (fun (x4_90 : Int32) => s_bd (f_X1_isValidForm p2 3 m) fun r10 m11 => s_jn (fun (s0_114 : Int32) (m114_ : sM) => s_gd (s0_114 = 0 ∨ s0_114 = 1) (some (.inl s0_114, m114_))) fun k114 => s_jn (fun (m109_ : sM) => k114 1 m109_) fun k109 => if r10 = 0 then (k109  m11) else (s_bd (f_X8_isOurPage a (4 + 1 * j1) x4_90 m11) fun r12 m13 => if r12 = 0 then (k109  m13) else (k114 0 m13))) fun e90_72 => f_X8_isWrong_L72 a p2 (4 + 1 * j1) m e121_72 e90_72 5000 0))
set_option maxRecDepth 20000 in
set_option maxHeartbeats 4000000 in
theorem c_X8_isWrong (nw : Nat) (hnw : 109 ≤ nw) (a : Nat) (p2 : Int32) (ha : isVer a) : s_Con s_i 0 nw yX8_isWrong wsX8_isWrong 18 275 0 (f_X8_isWrong a p2) (fun ad => [.ref (ad a), .ref (ad 1), .int p2]) := by
  refine s_con_of cX8_isWrong 5 (some .boolean) RX8 (by decide) rfl rfl (fun _ => Nat.le_of_ble_eq_true rfl) (fun ad m res V C h => ?_)
  unfold f_X8_isWrong at h
  have F_i1 : ∀ w ∈ wsX10, w ∈ wsX8_isWrong := by decide +kernel
  have F_k63 : Cond.fieldLink RX8 63 "ShadowFile$Disk" "cells" "[[I" ∈ wsX8_isWrong := by decide +kernel
  have F_i8 : ∀ w ∈ wsX80, w ∈ wsX8_isWrong := by decide +kernel
  have F_k26 : Cond.fieldLink RX8 26 "ShadowFile$Version" "root" "I" ∈ wsX8_isWrong := by decide +kernel
  have F_k29 : Cond.fieldLink RX8 29 "ShadowFile$Version" "table" "I" ∈ wsX8_isWrong := by decide +kernel
  have F_k9 : Cond.fieldLink RX8 9 "ShadowFile$Version" "blocks" "[I" ∈ wsX8_isWrong := by decide +kernel
  show V 0 0 [(0, .ref (ad a)), (1, .ref (ad 1)), (2, .int p2)] [] m
  refine r_aload_n C dX8_isWrong_0 rfl 1 rfl ?_
  refine r_getr C (ci := 1) (k9 := 0) dX8_isWrong_1 rfl F_i1 (by decide) F_k63 (by omega) la_1 rfl ?_
  refine r_iload_n C dX8_isWrong_4 rfl 2 rfl ?_
  refine r_aald C (b0 := 4) (d0 := 1) dX8_isWrong_5 (by omega) la_2 (fun _ => rfl) rfl h (fun j1 hj1 h => ?_)
  refine r_astore_n C dX8_isWrong_6 rfl (by decide) (show _ = [(3, .ref (ad (4 + 1 * j1))), (0, .ref (ad a)), (1, .ref (ad 1)), (2, .int p2)] from rfl) ?_
  refine r_iload_n C dX8_isWrong_7 rfl 3 rfl ?_
  refine r_aload_n C dX8_isWrong_8 rfl 1 rfl ?_
  refine r_geti C (ci := 8) (k9 := 4) dX8_isWrong_9 rfl F_i8 (by decide) F_k26 (by have := isVer_b ha; omega) (isVer_0 ha) rfl ?_
  refine r_icmp_ne C (tgt := 38) dX8_isWrong_12 (by decide) h (fun _ h => ?_) (fun _ h => ?_)
  · skip
    refine r_aload_n C dX8_isWrong_15 rfl 2 rfl ?_
    refine r_iload_n C dX8_isWrong_16 rfl 3 rfl ?_
    refine r_iconst C (v := 1) dX8_isWrong_17 (by decide) ?_
    refine r_callV C (c_X1_isValidForm nw hnw p2 1) (As := [.int p2, .int 1]) (nn := 2) (stk := [.int 1, .int p2, .ref (ad 1)]) (ci := 1) dX8_isWrong_18 gX8_isWrong_X1_isValidForm ⟨rfl, by decide, by decide, by decide +kernel⟩ (by omega) la_1 rfl rfl rfl (by decide) rfl rfl (Nat.le_of_ble_eq_true rfl) (by decide) h (fun r2 m3 h => ?_)
    show V 0 21 [(3, .ref (ad (4 + 1 * j1))), (0, .ref (ad a)), (1, .ref (ad 1)), (2, .int p2)] [.int r2] m3
    refine s_join h (fun k37 => ∀ (s0_37 : Int32) (m37_ : sM), k37 s0_37 m37_ = some res → V 0 37 [] [.int s0_37] m37_) ?_ (fun k37 hk37 h => ?_)
    · intro s0_37 m37_ h
      obtain ⟨hg, h⟩ := s_gd_of h
      exact r_zret C dX8_isWrong_37 rfl (s_z hg) h
    refine s_join h (fun k32 => ∀ (m32_ : sM), k32 m32_ = some res → V 0 32 [] [] m32_) ?_ (fun k32 hk32 h => ?_)
    · intro m32_ h
      refine r_iconst C (v := 1) dX8_isWrong_32 (by decide) ?_
      refine r_goto C (tgt := 37) dX8_isWrong_33 (by decide) ?_
      exact hk37 1 m32_ h
    refine r_if_eq C (tgt := 32) dX8_isWrong_21 (by decide) h (fun _ h => ?_) (fun _ h => ?_)
    · skip
      refine r_sub C [] (show _ = [] from rfl) ?_
      exact hk32 m3 h
    · skip
      refine r_aload_n C dX8_isWrong_24 rfl 1 rfl ?_
      refine r_aload_n C dX8_isWrong_25 rfl 0 rfl ?_
      refine r_callV C (c_X8_isOurRoot nw hnw a (4 + 1 * j1) ha (isRow_d hj1)) (As := [.ref (ad (4 + 1 * j1))]) (nn := 1) (stk := [.ref (ad (4 + 1 * j1)), .ref (ad a)]) (ci := 8) dX8_isWrong_26 gX8_isWrong_X8_isOurRoot ⟨rfl, by decide, by decide, by decide +kernel⟩ (by have := isVer_b ha; omega) (isVer_0 ha) rfl rfl rfl (by decide) rfl rfl (Nat.le_of_ble_eq_true rfl) (by decide) h (fun r4 m5 h => ?_)
      show V 0 29 [(3, .ref (ad (4 + 1 * j1))), (0, .ref (ad a)), (1, .ref (ad 1)), (2, .int p2)] [.int r4] m5
      refine r_if_ne C (tgt := 36) dX8_isWrong_29 (by decide) h (fun _ h => ?_) (fun _ h => ?_)
      · skip
        refine r_sub C [] (show _ = [] from rfl) ?_
        exact hk32 m5 h
      · skip
        refine r_iconst C (v := 0) dX8_isWrong_36 (by decide) ?_
        refine r_sub C [] (show _ = [] from rfl) ?_
        exact hk37 0 m5 h
  · skip
    refine r_iload_n C dX8_isWrong_38 rfl 3 rfl ?_
    refine r_aload_n C dX8_isWrong_39 rfl 1 rfl ?_
    refine r_geti C (ci := 8) (k9 := 5) dX8_isWrong_40 rfl F_i8 (by decide) F_k29 (by have := isVer_b ha; omega) (isVer_0 ha) rfl ?_
    refine r_icmp_ne C (tgt := 69) dX8_isWrong_43 (by decide) h (fun _ h => ?_) (fun _ h => ?_)
    · skip
      refine r_aload_n C dX8_isWrong_46 rfl 2 rfl ?_
      refine r_iload_n C dX8_isWrong_47 rfl 3 rfl ?_
      refine r_iconst C (v := 2) dX8_isWrong_48 (by decide) ?_
      refine r_callV C (c_X1_isValidForm nw hnw p2 2) (As := [.int p2, .int 2]) (nn := 2) (stk := [.int 2, .int p2, .ref (ad 1)]) (ci := 1) dX8_isWrong_49 gX8_isWrong_X1_isValidForm ⟨rfl, by decide, by decide, by decide +kernel⟩ (by omega) la_1 rfl rfl rfl (by decide) rfl rfl (Nat.le_of_ble_eq_true rfl) (by decide) h (fun r6 m7 h => ?_)
      show V 0 52 [(3, .ref (ad (4 + 1 * j1))), (0, .ref (ad a)), (1, .ref (ad 1)), (2, .int p2)] [.int r6] m7
      refine s_join h (fun k68 => ∀ (s0_68 : Int32) (m68_ : sM), k68 s0_68 m68_ = some res → V 0 68 [] [.int s0_68] m68_) ?_ (fun k68 hk68 h => ?_)
      · intro s0_68 m68_ h
        obtain ⟨hg, h⟩ := s_gd_of h
        exact r_zret C dX8_isWrong_68 rfl (s_z hg) h
      refine s_join h (fun k63 => ∀ (m63_ : sM), k63 m63_ = some res → V 0 63 [] [] m63_) ?_ (fun k63 hk63 h => ?_)
      · intro m63_ h
        refine r_iconst C (v := 1) dX8_isWrong_63 (by decide) ?_
        refine r_goto C (tgt := 68) dX8_isWrong_64 (by decide) ?_
        exact hk68 1 m63_ h
      refine r_if_eq C (tgt := 63) dX8_isWrong_52 (by decide) h (fun _ h => ?_) (fun _ h => ?_)
      · skip
        refine r_sub C [] (show _ = [] from rfl) ?_
        exact hk63 m7 h
      · skip
        refine r_aload_n C dX8_isWrong_55 rfl 1 rfl ?_
        refine r_aload_n C dX8_isWrong_56 rfl 0 rfl ?_
        refine r_callV C (c_X8_isOurTable nw hnw a (4 + 1 * j1) ha (isRow_d hj1)) (As := [.ref (ad (4 + 1 * j1))]) (nn := 1) (stk := [.ref (ad (4 + 1 * j1)), .ref (ad a)]) (ci := 8) dX8_isWrong_57 gX8_isWrong_X8_isOurTable ⟨rfl, by decide, by decide, by decide +kernel⟩ (by have := isVer_b ha; omega) (isVer_0 ha) rfl rfl rfl (by decide) rfl rfl (Nat.le_of_ble_eq_true rfl) (by decide) h (fun r8 m9 h => ?_)
        show V 0 60 [(3, .ref (ad (4 + 1 * j1))), (0, .ref (ad a)), (1, .ref (ad 1)), (2, .int p2)] [.int r8] m9
        refine r_if_ne C (tgt := 67) dX8_isWrong_60 (by decide) h (fun _ h => ?_) (fun _ h => ?_)
        · skip
          refine r_sub C [] (show _ = [] from rfl) ?_
          exact hk63 m9 h
        · skip
          refine r_iconst C (v := 0) dX8_isWrong_67 (by decide) ?_
          refine r_sub C [] (show _ = [] from rfl) ?_
          exact hk68 0 m9 h
    · skip
      refine r_iconst C (v := 0) dX8_isWrong_69 (by decide) ?_
      refine r_istore C dX8_isWrong_70 (by decide) (show _ = [(4, .int 0), (3, .ref (ad (4 + 1 * j1))), (0, .ref (ad a)), (1, .ref (ad 1)), (2, .int p2)] from rfl) ?_
      refine s_join h (fun e121_72 => e121_72  = some res → V 0 121 [] [] m) ?_ (fun e121_72 he121_72 h => ?_)
      · intro  h
        refine r_iconst C (v := 0) dX8_isWrong_121 (by decide) ?_
        exact r_zret C dX8_isWrong_122 rfl (by decide) h
      refine s_join h (fun e90_72 => ∀ (x4_90 : Int32), e90_72 x4_90 = some res → V 0 90 [(0, .ref (ad a)), (1, .ref (ad 1)), (2, .int p2), (3, .ref (ad (4 + 1 * j1))), (4, .int x4_90)] [] m) ?_ (fun e90_72 he90_72 h => ?_)
      · intro x4_90 h
        refine r_aload_n C dX8_isWrong_90 rfl 1 rfl ?_
        refine r_iload_n C dX8_isWrong_91 rfl 2 rfl ?_
        refine r_iconst C (v := 3) dX8_isWrong_92 (by decide) ?_
        refine r_callV C (c_X1_isValidForm nw hnw p2 3) (As := [.int p2, .int 3]) (nn := 2) (stk := [.int 3, .int p2, .ref (ad 1)]) (ci := 1) dX8_isWrong_93 gX8_isWrong_X1_isValidForm ⟨rfl, by decide, by decide, by decide +kernel⟩ (by omega) la_1 rfl rfl rfl (by decide) rfl rfl (Nat.le_of_ble_eq_true rfl) (by decide) h (fun r10 m11 h => ?_)
        show V 0 96 [(0, .ref (ad a)), (1, .ref (ad 1)), (2, .int p2), (3, .ref (ad (4 + 1 * j1))), (4, .int x4_90)] [.int r10] m11
        refine s_join h (fun k114 => ∀ (s0_114 : Int32) (m114_ : sM), k114 s0_114 m114_ = some res → V 0 114 [] [.int s0_114] m114_) ?_ (fun k114 hk114 h => ?_)
        · intro s0_114 m114_ h
          obtain ⟨hg, h⟩ := s_gd_of h
          exact r_zret C dX8_isWrong_114 rfl (s_z hg) h
        refine s_join h (fun k109 => ∀ (m109_ : sM), k109 m109_ = some res → V 0 109 [] [] m109_) ?_ (fun k109 hk109 h => ?_)
        · intro m109_ h
          refine r_iconst C (v := 1) dX8_isWrong_109 (by decide) ?_
          refine r_goto C (tgt := 114) dX8_isWrong_110 (by decide) ?_
          exact hk114 1 m109_ h
        refine r_if_eq C (tgt := 109) dX8_isWrong_96 (by decide) h (fun _ h => ?_) (fun _ h => ?_)
        · skip
          refine r_sub C [] (show _ = [] from rfl) ?_
          exact hk109 m11 h
        · skip
          refine r_aload_n C dX8_isWrong_99 rfl 0 rfl ?_
          refine r_aload_n C dX8_isWrong_100 rfl 3 rfl ?_
          refine r_iload C dX8_isWrong_101 4 rfl ?_
          refine r_callV C (c_X8_isOurPage nw hnw a (4 + 1 * j1) x4_90 ha (isRow_d hj1)) (As := [.ref (ad (4 + 1 * j1)), .int x4_90]) (nn := 2) (stk := [.int x4_90, .ref (ad (4 + 1 * j1)), .ref (ad a)]) (ci := 8) dX8_isWrong_103 gX8_isWrong_X8_isOurPage ⟨rfl, by decide, by decide, by decide +kernel⟩ (by have := isVer_b ha; omega) (isVer_0 ha) rfl rfl rfl (by decide) rfl rfl (Nat.le_of_ble_eq_true rfl) (by decide) h (fun r12 m13 h => ?_)
          show V 0 106 [(0, .ref (ad a)), (1, .ref (ad 1)), (2, .int p2), (3, .ref (ad (4 + 1 * j1))), (4, .int x4_90)] [.int r12] m13
          refine r_if_ne C (tgt := 113) dX8_isWrong_106 (by decide) h (fun _ h => ?_) (fun _ h => ?_)
          · skip
            refine r_sub C [] (show _ = [] from rfl) ?_
            exact hk109 m13 h
          · skip
            refine r_iconst C (v := 0) dX8_isWrong_113 (by decide) ?_
            refine r_sub C [] (show _ = [] from rfl) ?_
            exact hk114 0 m13 h
      have L72 : ∀ (n : Nat) (x4_72 : Int32), f_X8_isWrong_L72 a p2 (4 + 1 * j1) m e121_72 e90_72 n x4_72 = some res → V 0 72 [(0, .ref (ad a)), (1, .ref (ad 1)), (2, .int p2), (3, .ref (ad (4 + 1 * j1))), (4, .int x4_72)] [] m := by
        intro n
        induction n with
        | zero => intro x4_72 h; rw [f_X8_isWrong_L72] at h; cases h
        | succ n ih =>
          intro x4_72 h
          rw [f_X8_isWrong_L72] at h
          refine r_iload C dX8_isWrong_72 4 rfl ?_
          refine r_bipush C (v := 8) dX8_isWrong_74 (by decide) ?_
          refine r_icmp_ge C (tgt := 121) dX8_isWrong_76 (by decide) h (fun _ h => ?_) (fun _ h => ?_)
          · skip
            refine r_sub C [] (show _ = [] from rfl) ?_
            exact he121_72 h
          · skip
            refine r_iload_n C dX8_isWrong_79 rfl 2 rfl ?_
            refine r_aload_n C dX8_isWrong_80 rfl 0 rfl ?_
            refine r_getr C (ci := 8) (k9 := 0) dX8_isWrong_81 rfl F_i8 (by decide) F_k9 (by have := isVer_b ha; omega) (isVer_0 ha) rfl ?_
            refine r_iload C dX8_isWrong_84 4 rfl ?_
            refine r_iald C dX8_isWrong_86 (by have := isVer_b ha; omega) (isVer_1 ha) h (fun j14 hj14 h => ?_)
            refine r_icmp_ne C (tgt := 115) dX8_isWrong_87 (by decide) h (fun _ h => ?_) (fun _ h => ?_)
            · skip
              exact he90_72 x4_72 h
            · skip
              refine r_iinc C (v := x4_72 + 1) dX8_isWrong_115 4 rfl rfl (by decide) (show _ = [(4, .int (x4_72 + 1)), (0, .ref (ad a)), (1, .ref (ad 1)), (2, .int p2), (3, .ref (ad (4 + 1 * j1)))] from rfl) ?_
              refine r_goto C (tgt := 72) dX8_isWrong_118 (by decide) ?_
              refine r_sub C [1, 2, 3, 4, 0] (show _ = [(0, .ref (ad a)), (1, .ref (ad 1)), (2, .int p2), (3, .ref (ad (4 + 1 * j1))), (4, .int (x4_72 + 1))] from rfl) ?_
              exact ih (x4_72 + 1) h
      refine r_sub C [2, 3, 4, 1, 0] (show _ = [(0, .ref (ad a)), (1, .ref (ad 1)), (2, .int p2), (3, .ref (ad (4 + 1 * j1))), (4, .int 0)] from rfl) ?_
      exact L72 5000 0 h
noncomputable def f_X9_wrongBlock_L6 (e35_6 : sM → Option (sR Int32)) (e27_6 : Int32 → sM → Option (sR Int32)) : Nat → Int32 → sM → Option (sR Int32)
  | 0, _, _ => none
  | n + 1, x1_6, m6_ =>
    if 32 ≤ x1_6 then (e35_6  m6_) else (s_bd (f_X8_isWrong 36 x1_6 m6_) fun r3 m4 => if r3 = 0 then (f_X9_wrongBlock_L6 e35_6 e27_6 n (x1_6 + 1) m4) else (e27_6 x1_6 m4))
noncomputable def f_X9_wrongBlock (m : sM) : Option (sR Int32) :=
  s_bd (f_X9_requireOpen m) fun r1 m2 => s_jn (fun (m35_ : sM) => some (.inl (-1), m35_)) fun e35_6 => s_jn (fun (x1_27 : Int32) (m27_ : sM) => some (.inl x1_27, m27_)) fun e27_6 => f_X9_wrongBlock_L6 e35_6 e27_6 5000 0 m2
set_option maxRecDepth 20000 in
set_option maxHeartbeats 4000000 in
theorem c_X9_wrongBlock (nw : Nat) (hnw : 109 ≤ nw) : s_Con s_i 0 nw yX9_wrongBlock wsX9_wrongBlock 20 320 1 (f_X9_wrongBlock) (fun ad => [.ref (ad 0)]) := by
  refine s_con_of cX9_wrongBlock 2 (some .int) RX9 (by decide) rfl rfl (fun _ => Nat.le_of_ble_eq_true rfl) (fun ad m res V C h => ?_)
  unfold f_X9_wrongBlock at h
  have F_i9 : ∀ w ∈ wsX90, w ∈ wsX9_wrongBlock := by decide +kernel
  have F_k19 : Cond.fieldLink RX9 19 "ShadowFile" "present" "LShadowFile$Version;" ∈ wsX9_wrongBlock := by decide +kernel
  have F_k10 : Cond.fieldLink RX9 10 "ShadowFile" "disk" "LShadowFile$Disk;" ∈ wsX9_wrongBlock := by decide +kernel
  show V 1 0 [(0, .ref (ad 0))] [] m
  refine r_aload_n C dX9_wrongBlock_0 rfl 0 rfl ?_
  refine r_callV C (c_X9_requireOpen nw hnw) (As := []) (nn := 0) (stk := [.ref (ad 0)]) (ci := 9) dX9_wrongBlock_1 gX9_wrongBlock_X9_requireOpen ⟨rfl, by decide, by decide, by decide +kernel⟩ (by omega) la_0 rfl rfl rfl (by decide) rfl rfl (Nat.le_of_ble_eq_true rfl) (by decide) h (fun r1 m2 h => ?_)
  show V 0 4 [(0, .ref (ad 0))] [] m2
  refine r_iconst C (v := 0) dX9_wrongBlock_4 (by decide) ?_
  refine r_istore_n C dX9_wrongBlock_5 rfl (by decide) (show _ = [(1, .int 0), (0, .ref (ad 0))] from rfl) ?_
  refine s_join h (fun e35_6 => ∀ (m35_ : sM), e35_6 m35_ = some res → V 0 35 [] [] m35_) ?_ (fun e35_6 he35_6 h => ?_)
  · intro m35_ h
    refine r_iconst C (v := -1) dX9_wrongBlock_35 (by decide) ?_
    exact r_iret C dX9_wrongBlock_36 rfl h
  refine s_join h (fun e27_6 => ∀ (x1_27 : Int32) (m27_ : sM), e27_6 x1_27 m27_ = some res → V 0 27 [(1, .int x1_27)] [] m27_) ?_ (fun e27_6 he27_6 h => ?_)
  · intro x1_27 m27_ h
    refine r_iload_n C dX9_wrongBlock_27 rfl 0 rfl ?_
    exact r_iret C dX9_wrongBlock_28 rfl h
  have L6 : ∀ (n : Nat) (x1_6 : Int32) (m6_ : sM), f_X9_wrongBlock_L6 e35_6 e27_6 n x1_6 m6_ = some res → V 0 6 [(0, .ref (ad 0)), (1, .int x1_6)] [] m6_ := by
    intro n
    induction n with
    | zero => intro x1_6 m6_ h; rw [f_X9_wrongBlock_L6] at h; cases h
    | succ n ih =>
      intro x1_6 m6_ h
      rw [f_X9_wrongBlock_L6] at h
      refine r_iload_n C dX9_wrongBlock_6 rfl 1 rfl ?_
      refine r_bipush C (v := 32) dX9_wrongBlock_7 (by decide) ?_
      refine r_icmp_ge C (tgt := 35) dX9_wrongBlock_9 (by decide) h (fun _ h => ?_) (fun _ h => ?_)
      · skip
        refine r_sub C [] (show _ = [] from rfl) ?_
        exact he35_6 m6_ h
      · skip
        refine r_aload_n C dX9_wrongBlock_12 rfl 0 rfl ?_
        refine r_getr C (ci := 9) (k9 := 1) dX9_wrongBlock_13 rfl F_i9 (by decide) F_k19 (by omega) la_0 rfl ?_
        refine r_aload_n C dX9_wrongBlock_16 rfl 0 rfl ?_
        refine r_getr C (ci := 9) (k9 := 0) dX9_wrongBlock_17 rfl F_i9 (by decide) F_k10 (by omega) la_0 rfl ?_
        refine r_iload_n C dX9_wrongBlock_20 rfl 1 rfl ?_
        refine r_callV C (c_X8_isWrong nw hnw 36 x1_6 (by unfold isVer; omega)) (As := [.ref (ad 1), .int x1_6]) (nn := 2) (stk := [.int x1_6, .ref (ad 1), .ref (ad 36)]) (ci := 8) dX9_wrongBlock_21 gX9_wrongBlock_X8_isWrong ⟨rfl, by decide, by decide, by decide +kernel⟩ (by omega) la_36 rfl rfl rfl (by decide) rfl rfl (Nat.le_of_ble_eq_true rfl) (by decide) h (fun r3 m4 h => ?_)
        show V 0 24 [(0, .ref (ad 0)), (1, .int x1_6)] [.int r3] m4
        refine r_if_eq C (tgt := 29) dX9_wrongBlock_24 (by decide) h (fun _ h => ?_) (fun _ h => ?_)
        · skip
          refine r_iinc C (v := x1_6 + 1) dX9_wrongBlock_29 1 rfl rfl (by decide) (show _ = [(1, .int (x1_6 + 1)), (0, .ref (ad 0))] from rfl) ?_
          refine r_goto C (tgt := 6) dX9_wrongBlock_32 (by decide) ?_
          refine r_sub C [1, 0] (show _ = [(0, .ref (ad 0)), (1, .int (x1_6 + 1))] from rfl) ?_
          exact ih (x1_6 + 1) m4 h
        · skip
          refine r_sub C [1] (show _ = [(1, .int x1_6)] from rfl) ?_
          exact he27_6 x1_6 m4 h
  refine r_sub C [1, 0] (show _ = [(0, .ref (ad 0)), (1, .int 0)] from rfl) ?_
  exact L6 5000 0 m2 h
noncomputable def f_X9_logSize (m : sM) : Option (sR Int32) :=
  some (.inl (m.1 94 1), m)
set_option maxRecDepth 20000 in
set_option maxHeartbeats 4000000 in
theorem c_X9_logSize (nw : Nat) (hnw : 109 ≤ nw) : s_Con s_i 0 nw yX9_logSize wsX9_logSize 12 140 0 (f_X9_logSize) (fun ad => [.ref (ad 0)]) := by
  refine s_con_of cX9_logSize 1 (some .int) RX9 (by decide) rfl rfl (fun _ => Nat.le_of_ble_eq_true rfl) (fun ad m res V C h => ?_)
  unfold f_X9_logSize at h
  have F_i9 : ∀ w ∈ wsX90, w ∈ wsX9_logSize := by decide +kernel
  have F_k79 : Cond.fieldLink RX9 79 "ShadowFile" "log" "LShadowFile$Log;" ∈ wsX9_logSize := by decide +kernel
  have F_i3 : ∀ w ∈ wsX30, w ∈ wsX9_logSize := by decide +kernel
  have F_k304 : Cond.fieldLink RX9 304 "ShadowFile$Log" "size" "I" ∈ wsX9_logSize := by decide +kernel
  show V 0 0 [(0, .ref (ad 0))] [] m
  refine r_aload_n C dX9_logSize_0 rfl 0 rfl ?_
  refine r_getr C (ci := 9) (k9 := 12) dX9_logSize_1 rfl F_i9 (by decide) F_k79 (by omega) la_0 rfl ?_
  refine r_geti C (ci := 3) (k9 := 1) dX9_logSize_4 rfl F_i3 (by decide) F_k304 (by omega) la_94 rfl ?_
  exact r_iret C dX9_logSize_7 rfl h
noncomputable def f_X9_requireWhat (p0 : Int32) (p1 : Int32) (m : sM) : Option (sR Unit) :=
  s_jn (some (.inr "java/lang/IllegalArgumentException", m)) fun k9 => if p0 < 0 then (k9) else (if p0 < p1 then (some (.inl (), m)) else (k9))
set_option maxRecDepth 20000 in
set_option maxHeartbeats 4000000 in
theorem c_X9_requireWhat (nw : Nat) (hnw : 109 ≤ nw) (p0 : Int32) (p1 : Int32) : s_Con s_u 0 nw yX9_requireWhat wsX9_requireWhat 12 140 1 (f_X9_requireWhat p0 p1) (fun ad => [.int p0, .int p1]) := by
  refine s_con_of cX9_requireWhat 2 none RX9 (by decide) rfl rfl (fun _ => Nat.le_of_ble_eq_true rfl) (fun ad m res V C h => ?_)
  unfold f_X9_requireWhat at h
  have F_q130 : Cond.classLink RX9 130 "java/lang/IllegalArgumentException" ∈ wsX9_requireWhat := by decide +kernel
  have F_u130 : Cond.initialized "java/lang/IllegalArgumentException" ∈ wsX9_requireWhat := by decide +kernel
  have F_z134 : ∀ w ∈ (vx_atS RX9 134 "java/lang/IllegalArgumentException" ["java/lang/RuntimeException", "java/lang/Exception"]).filter goodWord, w ∈ wsX9_requireWhat := by decide +kernel
  have F_y134 : ∀ w ∈ (vx_atS RX9 134 "java/lang/IllegalArgumentException" ["java/lang/RuntimeException", "java/lang/Exception"]).filter (fun w => !goodWord w), w ∈ Cond.castable "java/lang/IllegalArgumentException" "java/lang/IllegalArgumentException" :: s_dec.map Cond.declares := by decide +kernel
  have F_v134 : ∀ w ∈ Cond.classLink RX9 130 "java/lang/IllegalArgumentException" :: Cond.initialized "java/lang/IllegalArgumentException" :: vx_atS RX9 134 "java/lang/IllegalArgumentException" ["java/lang/RuntimeException", "java/lang/Exception"], vx_ot w = true := by decide +kernel
  show V 1 0 [(0, .int p0), (1, .int p1)] [] m
  refine r_iload_n C dX9_requireWhat_0 rfl 0 rfl ?_
  refine s_join h (fun k9 => k9  = some res → V 1 9 [] [] m) ?_ (fun k9 hk9 h => ?_)
  · intro  h
    exact r_throwW C (text := "what is out of range") (names := ["java/lang/RuntimeException", "java/lang/Exception"]) dX9_requireWhat_9 dX9_requireWhat_12 dX9_requireWhat_13 dX9_requireWhat_16 dX9_requireWhat_19 (by decide) (by decide) F_q130 F_u130 F_z134 F_y134 F_v134 (by decide +kernel) (by decide +kernel) (by decide) (Nat.le_of_ble_eq_true rfl) (by decide) h
  refine r_if_lt C (tgt := 9) dX9_requireWhat_1 (by decide) h (fun _ h => ?_) (fun _ h => ?_)
  · skip
    refine r_sub C [] (show _ = [] from rfl) ?_
    exact hk9 h
  · skip
    refine r_iload_n C dX9_requireWhat_4 rfl 0 rfl ?_
    refine r_iload_n C dX9_requireWhat_5 rfl 1 rfl ?_
    refine r_icmp_lt C (tgt := 20) dX9_requireWhat_6 (by decide) h (fun _ h => ?_) (fun _ h => ?_)
    · skip
      exact r_vret C dX9_requireWhat_20 rfl h
    · skip
      refine r_sub C [] (show _ = [] from rfl) ?_
      exact hk9 h
noncomputable def f_X9_logged (p1 : Int32) (p2 : Int32) (m : sM) : Option (sR Int32) :=
  s_bd (f_X9_requireIndex p1 (m.1 94 1) m) fun r1 m2 => s_bd (f_X9_requireWhat p2 4 m2) fun r3 m4 => s_ix p1 8 fun j5 => s_ix p2 4 fun j6 => some (.inl (m4.1 (96 + 1 * j5) j6), m4)
set_option maxRecDepth 20000 in
set_option maxHeartbeats 4000000 in
theorem c_X9_logged (nw : Nat) (hnw : 109 ≤ nw) (p1 : Int32) (p2 : Int32) : s_Con s_i 0 nw yX9_logged wsX9_logged 14 185 2 (f_X9_logged p1 p2) (fun ad => [.ref (ad 0), .int p1, .int p2]) := by
  refine s_con_of cX9_logged 3 (some .int) RX9 (by decide) rfl rfl (fun _ => Nat.le_of_ble_eq_true rfl) (fun ad m res V C h => ?_)
  unfold f_X9_logged at h
  have F_i9 : ∀ w ∈ wsX90, w ∈ wsX9_logged := by decide +kernel
  have F_k79 : Cond.fieldLink RX9 79 "ShadowFile" "log" "LShadowFile$Log;" ∈ wsX9_logged := by decide +kernel
  have F_i3 : ∀ w ∈ wsX30, w ∈ wsX9_logged := by decide +kernel
  have F_k304 : Cond.fieldLink RX9 304 "ShadowFile$Log" "size" "I" ∈ wsX9_logged := by decide +kernel
  have F_k310 : Cond.fieldLink RX9 310 "ShadowFile$Log" "rows" "[[I" ∈ wsX9_logged := by decide +kernel
  show V 2 0 [(0, .ref (ad 0)), (1, .int p1), (2, .int p2)] [] m
  refine r_iload_n C dX9_logged_0 rfl 1 rfl ?_
  refine r_aload_n C dX9_logged_1 rfl 0 rfl ?_
  refine r_getr C (ci := 9) (k9 := 12) dX9_logged_2 rfl F_i9 (by decide) F_k79 (by omega) la_0 rfl ?_
  refine r_geti C (ci := 3) (k9 := 1) dX9_logged_5 rfl F_i3 (by decide) F_k304 (by omega) la_94 rfl ?_
  refine r_callS C (c_X9_requireIndex nw hnw p1 (m.1 94 1)) (As := [.int p1, .int (m.1 94 1)]) (nn := 2) (stk := [.int (m.1 94 1), .int p1]) dX9_logged_8 gX9_logged_X9_requireIndex ⟨by decide, by decide, by decide +kernel⟩ rfl rfl (by decide) rfl rfl (Nat.le_of_ble_eq_true rfl) (by decide) h (fun r1 m2 h => ?_)
  show V 1 11 [(0, .ref (ad 0)), (1, .int p1), (2, .int p2)] [] m2
  refine r_iload_n C dX9_logged_11 rfl 2 rfl ?_
  refine r_iconst C (v := 4) dX9_logged_12 (by decide) ?_
  refine r_callS C (c_X9_requireWhat nw hnw p2 4) (As := [.int p2, .int 4]) (nn := 2) (stk := [.int 4, .int p2]) dX9_logged_13 gX9_logged_X9_requireWhat ⟨by decide, by decide, by decide +kernel⟩ rfl rfl (by decide) rfl rfl (Nat.le_of_ble_eq_true rfl) (by decide) h (fun r3 m4 h => ?_)
  show V 0 16 [(0, .ref (ad 0)), (1, .int p1), (2, .int p2)] [] m4
  refine r_aload_n C dX9_logged_16 rfl 0 rfl ?_
  refine r_getr C (ci := 9) (k9 := 12) dX9_logged_17 rfl F_i9 (by decide) F_k79 (by omega) la_0 rfl ?_
  refine r_getr C (ci := 3) (k9 := 0) dX9_logged_20 rfl F_i3 (by decide) F_k310 (by omega) la_94 rfl ?_
  refine r_iload_n C dX9_logged_23 rfl 1 rfl ?_
  refine r_aald C (b0 := 96) (d0 := 1) dX9_logged_24 (by omega) la_95 (fun _ => rfl) rfl h (fun j5 hj5 h => ?_)
  refine r_iload_n C dX9_logged_25 rfl 2 rfl ?_
  refine r_iald C dX9_logged_26 (by have := isLog_b (isLog_d hj5); omega) (isLog_0 (isLog_d hj5)) h (fun j6 hj6 h => ?_)
  exact r_iret C dX9_logged_27 rfl h
noncomputable def f_X9_statistic (p1 : Int32) (m : sM) : Option (sR Int32) :=
  s_bd (f_X9_requireWhat p1 8 m) fun r1 m2 => s_ix p1 8 fun j3 => some (.inl (m2.1 108 j3), m2)
set_option maxRecDepth 20000 in
set_option maxHeartbeats 4000000 in
theorem c_X9_statistic (nw : Nat) (hnw : 109 ≤ nw) (p1 : Int32) : s_Con s_i 0 nw yX9_statistic wsX9_statistic 14 185 1 (f_X9_statistic p1) (fun ad => [.ref (ad 0), .int p1]) := by
  refine s_con_of cX9_statistic 2 (some .int) RX9 (by decide) rfl rfl (fun _ => Nat.le_of_ble_eq_true rfl) (fun ad m res V C h => ?_)
  unfold f_X9_statistic at h
  have F_i9 : ∀ w ∈ wsX90, w ∈ wsX9_statistic := by decide +kernel
  have F_k90 : Cond.fieldLink RX9 90 "ShadowFile" "counts" "[I" ∈ wsX9_statistic := by decide +kernel
  show V 1 0 [(0, .ref (ad 0)), (1, .int p1)] [] m
  refine r_iload_n C dX9_statistic_0 rfl 1 rfl ?_
  refine r_bipush C (v := 8) dX9_statistic_1 (by decide) ?_
  refine r_callS C (c_X9_requireWhat nw hnw p1 8) (As := [.int p1, .int 8]) (nn := 2) (stk := [.int 8, .int p1]) dX9_statistic_3 gX9_statistic_X9_requireWhat ⟨by decide, by decide, by decide +kernel⟩ rfl rfl (by decide) rfl rfl (Nat.le_of_ble_eq_true rfl) (by decide) h (fun r1 m2 h => ?_)
  show V 0 6 [(0, .ref (ad 0)), (1, .int p1)] [] m2
  refine r_aload_n C dX9_statistic_6 rfl 0 rfl ?_
  refine r_getr C (ci := 9) (k9 := 14) dX9_statistic_7 rfl F_i9 (by decide) F_k90 (by omega) la_0 rfl ?_
  refine r_iload_n C dX9_statistic_10 rfl 1 rfl ?_
  refine r_iald C dX9_statistic_11 (by omega) la_108 h (fun j3 hj3 h => ?_)
  exact r_iret C dX9_statistic_12 rfl h
noncomputable def f_X9_pin_L6 (m2 : sM) (e48_6 : Option (sR Int32)) (e20_6 : Int32 → Option (sR Int32)) : Nat → Int32 → Option (sR Int32)
  | 0, _ => none
  | n + 1, x1_6 =>
    if 2 ≤ x1_6 then (e48_6) else (s_ix x1_6 2 fun j8 => if (m2.1 49 j8) = 0 then (e20_6 x1_6) else (f_X9_pin_L6 m2 e48_6 e20_6 n (x1_6 + 1)))
noncomputable def f_X9_pin (m : sM) : Option (sR Int32) :=
  s_bd (f_X9_requireOpen m) fun r1 m2 => s_jn (some (.inr "java/lang/IllegalStateException", m2)) fun e48_6 => s_jn (fun (x1_20 : Int32) => s_ix x1_20 2 fun j3 => s_bd (f_X8_copyFrom (42 + 3 * j3) 36 m2) fun r4 m5 => s_ix x1_20 2 fun j6 => s_md (s_up m5 49 j6 (vp_nar .boolean 1)) fun m7 => some (.inl x1_20, m7)) fun e20_6 => f_X9_pin_L6 m2 e48_6 e20_6 5000 0
set_option maxRecDepth 20000 in
set_option maxHeartbeats 4000000 in
theorem c_X9_pin (nw : Nat) (hnw : 109 ≤ nw) : s_Con s_i 0 nw yX9_pin wsX9_pin 14 185 2 (f_X9_pin) (fun ad => [.ref (ad 0)]) := by
  refine s_con_of cX9_pin 2 (some .int) RX9 (by decide) rfl rfl (fun _ => Nat.le_of_ble_eq_true rfl) (fun ad m res V C h => ?_)
  unfold f_X9_pin at h
  have F_q117 : Cond.classLink RX9 117 "java/lang/IllegalStateException" ∈ wsX9_pin := by decide +kernel
  have F_u117 : Cond.initialized "java/lang/IllegalStateException" ∈ wsX9_pin := by decide +kernel
  have F_z121 : ∀ w ∈ (vx_atS RX9 121 "java/lang/IllegalStateException" ["java/lang/RuntimeException", "java/lang/Exception"]).filter goodWord, w ∈ wsX9_pin := by decide +kernel
  have F_y121 : ∀ w ∈ (vx_atS RX9 121 "java/lang/IllegalStateException" ["java/lang/RuntimeException", "java/lang/Exception"]).filter (fun w => !goodWord w), w ∈ Cond.castable "java/lang/IllegalStateException" "java/lang/IllegalStateException" :: s_dec.map Cond.declares := by decide +kernel
  have F_v121 : ∀ w ∈ Cond.classLink RX9 117 "java/lang/IllegalStateException" :: Cond.initialized "java/lang/IllegalStateException" :: vx_atS RX9 121 "java/lang/IllegalStateException" ["java/lang/RuntimeException", "java/lang/Exception"], vx_ot w = true := by decide +kernel
  have F_i9 : ∀ w ∈ wsX90, w ∈ wsX9_pin := by decide +kernel
  have F_k54 : Cond.fieldLink RX9 54 "ShadowFile" "pinned" "[LShadowFile$Version;" ∈ wsX9_pin := by decide +kernel
  have F_k19 : Cond.fieldLink RX9 19 "ShadowFile" "present" "LShadowFile$Version;" ∈ wsX9_pin := by decide +kernel
  have F_k58 : Cond.fieldLink RX9 58 "ShadowFile" "pinUsed" "[Z" ∈ wsX9_pin := by decide +kernel
  show V 2 0 [(0, .ref (ad 0))] [] m
  refine r_aload_n C dX9_pin_0 rfl 0 rfl ?_
  refine r_callV C (c_X9_requireOpen nw hnw) (As := []) (nn := 0) (stk := [.ref (ad 0)]) (ci := 9) dX9_pin_1 gX9_pin_X9_requireOpen ⟨rfl, by decide, by decide, by decide +kernel⟩ (by omega) la_0 rfl rfl rfl (by decide) rfl rfl (Nat.le_of_ble_eq_true rfl) (by decide) h (fun r1 m2 h => ?_)
  show V 1 4 [(0, .ref (ad 0))] [] m2
  refine r_iconst C (v := 0) dX9_pin_4 (by decide) ?_
  refine r_istore_n C dX9_pin_5 rfl (by decide) (show _ = [(1, .int 0), (0, .ref (ad 0))] from rfl) ?_
  refine s_join h (fun e48_6 => e48_6  = some res → V 1 48 [] [] m2) ?_ (fun e48_6 he48_6 h => ?_)
  · intro  h
    exact r_throwW C (text := "no pin is unused") (names := ["java/lang/RuntimeException", "java/lang/Exception"]) dX9_pin_48 dX9_pin_51 dX9_pin_52 dX9_pin_55 dX9_pin_58 (by decide) (by decide) F_q117 F_u117 F_z121 F_y121 F_v121 (by decide +kernel) (by decide +kernel) (by decide) (Nat.le_of_ble_eq_true rfl) (by decide) h
  refine s_join h (fun e20_6 => ∀ (x1_20 : Int32), e20_6 x1_20 = some res → V 1 20 [(0, .ref (ad 0)), (1, .int x1_20)] [] m2) ?_ (fun e20_6 he20_6 h => ?_)
  · intro x1_20 h
    refine r_aload_n C dX9_pin_20 rfl 0 rfl ?_
    refine r_getr C (ci := 9) (k9 := 8) dX9_pin_21 rfl F_i9 (by decide) F_k54 (by omega) la_0 rfl ?_
    refine r_iload_n C dX9_pin_24 rfl 1 rfl ?_
    refine r_aald C (b0 := 42) (d0 := 3) dX9_pin_25 (by omega) la_48 (fun _ => rfl) rfl h (fun j3 hj3 h => ?_)
    refine r_aload_n C dX9_pin_26 rfl 0 rfl ?_
    refine r_getr C (ci := 9) (k9 := 1) dX9_pin_27 rfl F_i9 (by decide) F_k19 (by omega) la_0 rfl ?_
    refine r_callV C (c_X8_copyFrom nw hnw (42 + 3 * j3) 36 (isVer_p hj3) (by unfold isVer; omega)) (As := [.ref (ad 36)]) (nn := 1) (stk := [.ref (ad 36), .ref (ad (42 + 3 * j3))]) (ci := 8) dX9_pin_30 gX9_pin_X8_copyFrom ⟨rfl, by decide, by decide, by decide +kernel⟩ (by have := isVer_b (isVer_p hj3); omega) (isVer_0 (isVer_p hj3)) rfl rfl rfl (by decide) rfl rfl (Nat.le_of_ble_eq_true rfl) (by decide) h (fun r4 m5 h => ?_)
    show V 1 33 [(0, .ref (ad 0)), (1, .int x1_20)] [] m5
    refine r_aload_n C dX9_pin_33 rfl 0 rfl ?_
    refine r_getr C (ci := 9) (k9 := 9) dX9_pin_34 rfl F_i9 (by decide) F_k58 (by omega) la_0 rfl ?_
    refine r_iload_n C dX9_pin_37 rfl 1 rfl ?_
    refine r_iconst C (v := 1) dX9_pin_38 (by decide) ?_
    refine r_zast C dX9_pin_39 (by omega) la_49 h (fun j6 m7 hj6 _ h => ?_)
    refine r_iload_n C dX9_pin_40 rfl 1 rfl ?_
    exact r_iret C dX9_pin_41 rfl h
  have L6 : ∀ (n : Nat) (x1_6 : Int32), f_X9_pin_L6 m2 e48_6 e20_6 n x1_6 = some res → V 1 6 [(0, .ref (ad 0)), (1, .int x1_6)] [] m2 := by
    intro n
    induction n with
    | zero => intro x1_6 h; rw [f_X9_pin_L6] at h; cases h
    | succ n ih =>
      intro x1_6 h
      rw [f_X9_pin_L6] at h
      refine r_iload_n C dX9_pin_6 rfl 1 rfl ?_
      refine r_iconst C (v := 2) dX9_pin_7 (by decide) ?_
      refine r_icmp_ge C (tgt := 48) dX9_pin_8 (by decide) h (fun _ h => ?_) (fun _ h => ?_)
      · skip
        refine r_sub C [] (show _ = [] from rfl) ?_
        exact he48_6 h
      · skip
        refine r_aload_n C dX9_pin_11 rfl 0 rfl ?_
        refine r_getr C (ci := 9) (k9 := 9) dX9_pin_12 rfl F_i9 (by decide) F_k58 (by omega) la_0 rfl ?_
        refine r_iload_n C dX9_pin_15 rfl 1 rfl ?_
        refine r_zald C dX9_pin_16 (by omega) la_49 h (fun j8 hj8 h => ?_)
        refine r_if_ne C (tgt := 42) dX9_pin_17 (by decide) h (fun _ h => ?_) (fun _ h => ?_)
        · skip
          exact he20_6 x1_6 h
        · skip
          refine r_iinc C (v := x1_6 + 1) dX9_pin_42 1 rfl rfl (by decide) (show _ = [(1, .int (x1_6 + 1)), (0, .ref (ad 0))] from rfl) ?_
          refine r_goto C (tgt := 6) dX9_pin_45 (by decide) ?_
          refine r_sub C [1, 0] (show _ = [(0, .ref (ad 0)), (1, .int (x1_6 + 1))] from rfl) ?_
          exact ih (x1_6 + 1) h
  refine r_sub C [1, 0] (show _ = [(0, .ref (ad 0)), (1, .int 0)] from rfl) ?_
  exact L6 5000 0 h
noncomputable def f_X9_requirePinned (p1 : Int32) (m : sM) : Option (sR Unit) :=
  s_ix p1 2 fun j1 => if (m.1 49 j1) = 0 then (some (.inr "java/lang/IllegalStateException", m)) else (some (.inl (), m))
set_option maxRecDepth 20000 in
set_option maxHeartbeats 4000000 in
theorem c_X9_requirePinned (nw : Nat) (hnw : 109 ≤ nw) (p1 : Int32) : s_Con s_u 0 nw yX9_requirePinned wsX9_requirePinned 12 140 1 (f_X9_requirePinned p1) (fun ad => [.ref (ad 0), .int p1]) := by
  refine s_con_of cX9_requirePinned 2 none RX9 (by decide) rfl rfl (fun _ => Nat.le_of_ble_eq_true rfl) (fun ad m res V C h => ?_)
  unfold f_X9_requirePinned at h
  have F_i9 : ∀ w ∈ wsX90, w ∈ wsX9_requirePinned := by decide +kernel
  have F_k58 : Cond.fieldLink RX9 58 "ShadowFile" "pinUsed" "[Z" ∈ wsX9_requirePinned := by decide +kernel
  have F_q117 : Cond.classLink RX9 117 "java/lang/IllegalStateException" ∈ wsX9_requirePinned := by decide +kernel
  have F_u117 : Cond.initialized "java/lang/IllegalStateException" ∈ wsX9_requirePinned := by decide +kernel
  have F_z121 : ∀ w ∈ (vx_atS RX9 121 "java/lang/IllegalStateException" ["java/lang/RuntimeException", "java/lang/Exception"]).filter goodWord, w ∈ wsX9_requirePinned := by decide +kernel
  have F_y121 : ∀ w ∈ (vx_atS RX9 121 "java/lang/IllegalStateException" ["java/lang/RuntimeException", "java/lang/Exception"]).filter (fun w => !goodWord w), w ∈ Cond.castable "java/lang/IllegalStateException" "java/lang/IllegalStateException" :: s_dec.map Cond.declares := by decide +kernel
  have F_v121 : ∀ w ∈ Cond.classLink RX9 117 "java/lang/IllegalStateException" :: Cond.initialized "java/lang/IllegalStateException" :: vx_atS RX9 121 "java/lang/IllegalStateException" ["java/lang/RuntimeException", "java/lang/Exception"], vx_ot w = true := by decide +kernel
  show V 1 0 [(0, .ref (ad 0)), (1, .int p1)] [] m
  refine r_aload_n C dX9_requirePinned_0 rfl 0 rfl ?_
  refine r_getr C (ci := 9) (k9 := 9) dX9_requirePinned_1 rfl F_i9 (by decide) F_k58 (by omega) la_0 rfl ?_
  refine r_iload_n C dX9_requirePinned_4 rfl 1 rfl ?_
  refine r_zald C dX9_requirePinned_5 (by omega) la_49 h (fun j1 hj1 h => ?_)
  refine r_if_ne C (tgt := 20) dX9_requirePinned_6 (by decide) h (fun _ h => ?_) (fun _ h => ?_)
  · skip
    exact r_throwW C (text := "the pin is unused") (names := ["java/lang/RuntimeException", "java/lang/Exception"]) dX9_requirePinned_9 dX9_requirePinned_12 dX9_requirePinned_13 dX9_requirePinned_16 dX9_requirePinned_19 (by decide) (by decide) F_q117 F_u117 F_z121 F_y121 F_v121 (by decide +kernel) (by decide +kernel) (by decide) (Nat.le_of_ble_eq_true rfl) (by decide) h
  · skip
    exact r_vret C dX9_requirePinned_20 rfl h
noncomputable def f_X9_pinnedValue (p1 : Int32) (p2 : Int32) (m : sM) : Option (sR Int32) :=
  s_bd (f_X9_requireIndex p1 2 m) fun r1 m2 => s_bd (f_X9_requireKey p2 m2) fun r3 m4 => s_bd (f_X9_requirePinned p1 m4) fun r5 m6 => s_ix p1 2 fun j7 => s_bd (f_X9_recordOf (42 + 3 * j7) p2 m6) fun r8 m9 => some (.inl r8, m9)
set_option maxRecDepth 20000 in
set_option maxHeartbeats 4000000 in
theorem c_X9_pinnedValue (nw : Nat) (hnw : 109 ≤ nw) (p1 : Int32) (p2 : Int32) : s_Con s_i 0 nw yX9_pinnedValue wsX9_pinnedValue 16 230 4 (f_X9_pinnedValue p1 p2) (fun ad => [.ref (ad 0), .int p1, .int p2]) := by
  refine s_con_of cX9_pinnedValue 3 (some .int) RX9 (by decide) rfl rfl (fun _ => Nat.le_of_ble_eq_true rfl) (fun ad m res V C h => ?_)
  unfold f_X9_pinnedValue at h
  have F_i9 : ∀ w ∈ wsX90, w ∈ wsX9_pinnedValue := by decide +kernel
  have F_k54 : Cond.fieldLink RX9 54 "ShadowFile" "pinned" "[LShadowFile$Version;" ∈ wsX9_pinnedValue := by decide +kernel
  show V 4 0 [(0, .ref (ad 0)), (1, .int p1), (2, .int p2)] [] m
  refine r_iload_n C dX9_pinnedValue_0 rfl 1 rfl ?_
  refine r_iconst C (v := 2) dX9_pinnedValue_1 (by decide) ?_
  refine r_callS C (c_X9_requireIndex nw hnw p1 2) (As := [.int p1, .int 2]) (nn := 2) (stk := [.int 2, .int p1]) dX9_pinnedValue_2 gX9_pinnedValue_X9_requireIndex ⟨by decide, by decide, by decide +kernel⟩ rfl rfl (by decide) rfl rfl (Nat.le_of_ble_eq_true rfl) (by decide) h (fun r1 m2 h => ?_)
  show V 3 5 [(0, .ref (ad 0)), (1, .int p1), (2, .int p2)] [] m2
  refine r_iload_n C dX9_pinnedValue_5 rfl 2 rfl ?_
  refine r_callS C (c_X9_requireKey nw hnw p2) (As := [.int p2]) (nn := 1) (stk := [.int p2]) dX9_pinnedValue_6 gX9_pinnedValue_X9_requireKey ⟨by decide, by decide, by decide +kernel⟩ rfl rfl (by decide) rfl rfl (Nat.le_of_ble_eq_true rfl) (by decide) h (fun r3 m4 h => ?_)
  show V 2 9 [(0, .ref (ad 0)), (1, .int p1), (2, .int p2)] [] m4
  refine r_aload_n C dX9_pinnedValue_9 rfl 0 rfl ?_
  refine r_iload_n C dX9_pinnedValue_10 rfl 1 rfl ?_
  refine r_callV C (c_X9_requirePinned nw hnw p1) (As := [.int p1]) (nn := 1) (stk := [.int p1, .ref (ad 0)]) (ci := 9) dX9_pinnedValue_11 gX9_pinnedValue_X9_requirePinned ⟨rfl, by decide, by decide, by decide +kernel⟩ (by omega) la_0 rfl rfl rfl (by decide) rfl rfl (Nat.le_of_ble_eq_true rfl) (by decide) h (fun r5 m6 h => ?_)
  show V 1 14 [(0, .ref (ad 0)), (1, .int p1), (2, .int p2)] [] m6
  refine r_aload_n C dX9_pinnedValue_14 rfl 0 rfl ?_
  refine r_getr C (ci := 9) (k9 := 8) dX9_pinnedValue_15 rfl F_i9 (by decide) F_k54 (by omega) la_0 rfl ?_
  refine r_iload_n C dX9_pinnedValue_18 rfl 1 rfl ?_
  refine r_aald C (b0 := 42) (d0 := 3) dX9_pinnedValue_19 (by omega) la_48 (fun _ => rfl) rfl h (fun j7 hj7 h => ?_)
  refine r_iload_n C dX9_pinnedValue_20 rfl 2 rfl ?_
  refine r_callS C (c_X9_recordOf nw hnw (42 + 3 * j7) p2 (isVer_p hj7)) (As := [.ref (ad (42 + 3 * j7)), .int p2]) (nn := 2) (stk := [.int p2, .ref (ad (42 + 3 * j7))]) dX9_pinnedValue_21 gX9_pinnedValue_X9_recordOf ⟨by decide, by decide, by decide +kernel⟩ rfl rfl (by decide) rfl rfl (Nat.le_of_ble_eq_true rfl) (by decide) h (fun r8 m9 h => ?_)
  show V 0 24 [(0, .ref (ad 0)), (1, .int p1), (2, .int p2)] [.int r8] m9
  exact r_iret C dX9_pinnedValue_24 rfl h
noncomputable def f_X9_pinnedCommit (p1 : Int32) (m : sM) : Option (sR Int32) :=
  s_bd (f_X9_requireIndex p1 2 m) fun r1 m2 => s_bd (f_X9_requirePinned p1 m2) fun r3 m4 => s_ix p1 2 fun j5 => some (.inl (m4.1 (42 + 3 * j5) 3), m4)
set_option maxRecDepth 20000 in
set_option maxHeartbeats 4000000 in
theorem c_X9_pinnedCommit (nw : Nat) (hnw : 109 ≤ nw) (p1 : Int32) : s_Con s_i 0 nw yX9_pinnedCommit wsX9_pinnedCommit 14 185 2 (f_X9_pinnedCommit p1) (fun ad => [.ref (ad 0), .int p1]) := by
  refine s_con_of cX9_pinnedCommit 2 (some .int) RX9 (by decide) rfl rfl (fun _ => Nat.le_of_ble_eq_true rfl) (fun ad m res V C h => ?_)
  unfold f_X9_pinnedCommit at h
  have F_i9 : ∀ w ∈ wsX90, w ∈ wsX9_pinnedCommit := by decide +kernel
  have F_k54 : Cond.fieldLink RX9 54 "ShadowFile" "pinned" "[LShadowFile$Version;" ∈ wsX9_pinnedCommit := by decide +kernel
  have F_i8 : ∀ w ∈ wsX80, w ∈ wsX9_pinnedCommit := by decide +kernel
  have F_k101 : Cond.fieldLink RX9 101 "ShadowFile$Version" "number" "I" ∈ wsX9_pinnedCommit := by decide +kernel
  show V 2 0 [(0, .ref (ad 0)), (1, .int p1)] [] m
  refine r_iload_n C dX9_pinnedCommit_0 rfl 1 rfl ?_
  refine r_iconst C (v := 2) dX9_pinnedCommit_1 (by decide) ?_
  refine r_callS C (c_X9_requireIndex nw hnw p1 2) (As := [.int p1, .int 2]) (nn := 2) (stk := [.int 2, .int p1]) dX9_pinnedCommit_2 gX9_pinnedCommit_X9_requireIndex ⟨by decide, by decide, by decide +kernel⟩ rfl rfl (by decide) rfl rfl (Nat.le_of_ble_eq_true rfl) (by decide) h (fun r1 m2 h => ?_)
  show V 1 5 [(0, .ref (ad 0)), (1, .int p1)] [] m2
  refine r_aload_n C dX9_pinnedCommit_5 rfl 0 rfl ?_
  refine r_iload_n C dX9_pinnedCommit_6 rfl 1 rfl ?_
  refine r_callV C (c_X9_requirePinned nw hnw p1) (As := [.int p1]) (nn := 1) (stk := [.int p1, .ref (ad 0)]) (ci := 9) dX9_pinnedCommit_7 gX9_pinnedCommit_X9_requirePinned ⟨rfl, by decide, by decide, by decide +kernel⟩ (by omega) la_0 rfl rfl rfl (by decide) rfl rfl (Nat.le_of_ble_eq_true rfl) (by decide) h (fun r3 m4 h => ?_)
  show V 0 10 [(0, .ref (ad 0)), (1, .int p1)] [] m4
  refine r_aload_n C dX9_pinnedCommit_10 rfl 0 rfl ?_
  refine r_getr C (ci := 9) (k9 := 8) dX9_pinnedCommit_11 rfl F_i9 (by decide) F_k54 (by omega) la_0 rfl ?_
  refine r_iload_n C dX9_pinnedCommit_14 rfl 1 rfl ?_
  refine r_aald C (b0 := 42) (d0 := 3) dX9_pinnedCommit_15 (by omega) la_48 (fun _ => rfl) rfl h (fun j5 hj5 h => ?_)
  refine r_geti C (ci := 8) (k9 := 3) dX9_pinnedCommit_16 rfl F_i8 (by decide) F_k101 (by have := isVer_b (isVer_p hj5); omega) (isVer_0 (isVer_p hj5)) rfl ?_
  exact r_iret C dX9_pinnedCommit_19 rfl h
noncomputable def f_X9_unpin (p1 : Int32) (m : sM) : Option (sR Int32) :=
  s_bd (f_X9_requireIndex p1 2 m) fun r1 m2 => s_bd (f_X9_requirePinned p1 m2) fun r3 m4 => s_bd (f_X9_freeBlocks m4) fun r5 m6 => s_bd (f_J13_bitCount_95d88 r5 m6) fun r7 m8 => s_ix p1 2 fun j9 => s_md (s_up m8 49 j9 (vp_nar .boolean 0)) fun m10 => s_bd (f_X9_freeBlocks m10) fun r11 m12 => s_bd (f_J13_bitCount_95d88 r11 m12) fun r13 m14 => some (.inl (r13 - r7), m14)
set_option maxRecDepth 20000 in
set_option maxHeartbeats 4000000 in
theorem c_X9_unpin (nw : Nat) (hnw : 109 ≤ nw) (p1 : Int32) : s_Con s_i 0 nw yX9_unpin wsX9_unpin 18 275 2 (f_X9_unpin p1) (fun ad => [.ref (ad 0), .int p1]) := by
  refine s_con_of cX9_unpin 3 (some .int) RX9 (by decide) rfl rfl (fun _ => Nat.le_of_ble_eq_true rfl) (fun ad m res V C h => ?_)
  unfold f_X9_unpin at h
  have F_i9 : ∀ w ∈ wsX90, w ∈ wsX9_unpin := by decide +kernel
  have F_k58 : Cond.fieldLink RX9 58 "ShadowFile" "pinUsed" "[Z" ∈ wsX9_unpin := by decide +kernel
  show V 2 0 [(0, .ref (ad 0)), (1, .int p1)] [] m
  refine r_iload_n C dX9_unpin_0 rfl 1 rfl ?_
  refine r_iconst C (v := 2) dX9_unpin_1 (by decide) ?_
  refine r_callS C (c_X9_requireIndex nw hnw p1 2) (As := [.int p1, .int 2]) (nn := 2) (stk := [.int 2, .int p1]) dX9_unpin_2 gX9_unpin_X9_requireIndex ⟨by decide, by decide, by decide +kernel⟩ rfl rfl (by decide) rfl rfl (Nat.le_of_ble_eq_true rfl) (by decide) h (fun r1 m2 h => ?_)
  show V 1 5 [(0, .ref (ad 0)), (1, .int p1)] [] m2
  refine r_aload_n C dX9_unpin_5 rfl 0 rfl ?_
  refine r_iload_n C dX9_unpin_6 rfl 1 rfl ?_
  refine r_callV C (c_X9_requirePinned nw hnw p1) (As := [.int p1]) (nn := 1) (stk := [.int p1, .ref (ad 0)]) (ci := 9) dX9_unpin_7 gX9_unpin_X9_requirePinned ⟨rfl, by decide, by decide, by decide +kernel⟩ (by omega) la_0 rfl rfl rfl (by decide) rfl rfl (Nat.le_of_ble_eq_true rfl) (by decide) h (fun r3 m4 h => ?_)
  show V 0 10 [(0, .ref (ad 0)), (1, .int p1)] [] m4
  refine r_aload_n C dX9_unpin_10 rfl 0 rfl ?_
  refine r_callV C (c_X9_freeBlocks nw hnw) (As := []) (nn := 0) (stk := [.ref (ad 0)]) (ci := 9) dX9_unpin_11 gX9_unpin_X9_freeBlocks ⟨rfl, by decide, by decide, by decide +kernel⟩ (by omega) la_0 rfl rfl rfl (by decide) rfl rfl (Nat.le_of_ble_eq_true rfl) (by decide) h (fun r5 m6 h => ?_)
  show V 0 14 [(0, .ref (ad 0)), (1, .int p1)] [.long r5] m6
  refine r_callS C (c_J13_bitCount_95d88 nw hnw r5) (As := [.long r5]) (nn := 1) (stk := [.long r5]) dX9_unpin_14 gX9_unpin_J13_bitCount_95d88 ⟨by decide, by decide, by decide +kernel⟩ rfl rfl (by decide) rfl rfl (Nat.le_of_ble_eq_true rfl) (by decide) h (fun r7 m8 h => ?_)
  show V 0 17 [(0, .ref (ad 0)), (1, .int p1)] [.int r7] m8
  refine r_istore_n C dX9_unpin_17 rfl (by decide) (show _ = [(2, .int r7), (0, .ref (ad 0)), (1, .int p1)] from rfl) ?_
  refine r_aload_n C dX9_unpin_18 rfl 1 rfl ?_
  refine r_getr C (ci := 9) (k9 := 9) dX9_unpin_19 rfl F_i9 (by decide) F_k58 (by omega) la_0 rfl ?_
  refine r_iload_n C dX9_unpin_22 rfl 2 rfl ?_
  refine r_iconst C (v := 0) dX9_unpin_23 (by decide) ?_
  refine r_zast C dX9_unpin_24 (by omega) la_49 h (fun j9 m10 hj9 _ h => ?_)
  refine r_aload_n C dX9_unpin_25 rfl 1 rfl ?_
  refine r_callV C (c_X9_freeBlocks nw hnw) (As := []) (nn := 0) (stk := [.ref (ad 0)]) (ci := 9) dX9_unpin_26 gX9_unpin_X9_freeBlocks ⟨rfl, by decide, by decide, by decide +kernel⟩ (by omega) la_0 rfl rfl rfl (by decide) rfl rfl (Nat.le_of_ble_eq_true rfl) (by decide) h (fun r11 m12 h => ?_)
  show V 0 29 [(2, .int r7), (0, .ref (ad 0)), (1, .int p1)] [.long r11] m12
  refine r_callS C (c_J13_bitCount_95d88 nw hnw r11) (As := [.long r11]) (nn := 1) (stk := [.long r11]) dX9_unpin_29 gX9_unpin_J13_bitCount_95d88 ⟨by decide, by decide, by decide +kernel⟩ rfl rfl (by decide) rfl rfl (Nat.le_of_ble_eq_true rfl) (by decide) h (fun r13 m14 h => ?_)
  show V 0 32 [(2, .int r7), (0, .ref (ad 0)), (1, .int p1)] [.int r13] m14
  refine r_iload_n C dX9_unpin_32 rfl 0 rfl ?_
  refine r_isub C dX9_unpin_33 ?_
  exact r_iret C dX9_unpin_34 rfl h
noncomputable def f_X8_differentKeys_L13 (a : Nat) (a1_13 : Nat) (e68_13 : Int64 → sM → Option (sR Int64)) : Nat → Int64 → Int32 → sM → Option (sR Int64)
  | 0, _, _, _ => none
  | n + 1, x2_13, x4_13, m13_ =>
    if 64 ≤ x4_13 then (e68_13 x2_13 m13_) else (s_bd (f_X9_isIn ((m13_.2 a 2) &&& (m13_.2 a1_13 2)) x4_13 m13_) fun r1 m2 => s_jn (fun (x2_62 : Int64) (m62_ : sM) => f_X8_differentKeys_L13 a a1_13 e68_13 n x2_62 (x4_13 + 1) m62_) fun k62 => if r1 = 0 then (k62 x2_13 m2) else (s_ix x4_13 64 fun j3 => s_ix x4_13 64 fun j4 => if (m2.1 (a + 2) j3) = (m2.1 (a1_13 + 2) j4) then (k62 x2_13 m2) else (s_bd (f_X9_setOf x4_13 m2) fun r5 m6 => k62 (x2_13 ||| r5) m6)))
noncomputable def f_X8_differentKeys (a : Nat) (a1 : Nat) (m : sM) : Option (sR Int64) :=
  s_jn (fun (x2_68 : Int64) (m68_ : sM) => some (.inl x2_68, m68_)) fun e68_13 => f_X8_differentKeys_L13 a a1 e68_13 5000 ((m.2 a 2) ^^^ (m.2 a1 2)) 0 m
set_option maxRecDepth 20000 in
set_option maxHeartbeats 4000000 in
theorem c_X8_differentKeys (nw : Nat) (hnw : 109 ≤ nw) (a : Nat) (a1 : Nat) (ha : isVer a) (ha1 : isVer a1) : s_Con s_l 0 nw yX8_differentKeys wsX8_differentKeys 14 185 0 (f_X8_differentKeys a a1) (fun ad => [.ref (ad a), .ref (ad a1)]) := by
  refine s_con_of cX8_differentKeys 5 (some .long) RX8 (by decide) rfl rfl (fun _ => Nat.le_of_ble_eq_true rfl) (fun ad m res V C h => ?_)
  unfold f_X8_differentKeys at h
  have F_i8 : ∀ w ∈ wsX80, w ∈ wsX8_differentKeys := by decide +kernel
  have F_k18 : Cond.fieldLink RX8 18 "ShadowFile$Version" "keys" "J" ∈ wsX8_differentKeys := by decide +kernel
  have F_tyX9_isIn : Cond.static yX9_isIn ∈ wsX8_differentKeys := by decide +kernel
  have F_nyX9_isIn : Cond.initialized RX9 ∈ wsX8_differentKeys := by decide +kernel
  have F_k15 : Cond.fieldLink RX8 15 "ShadowFile$Version" "values" "[I" ∈ wsX8_differentKeys := by decide +kernel
  have F_tyX9_setOf : Cond.static yX9_setOf ∈ wsX8_differentKeys := by decide +kernel
  have F_nyX9_setOf : Cond.initialized RX9 ∈ wsX8_differentKeys := by decide +kernel
  show V 0 0 [(0, .ref (ad a)), (1, .ref (ad a1))] [] m
  refine r_aload_n C dX8_differentKeys_0 rfl 0 rfl ?_
  refine r_getl C (ci := 8) (k9 := 2) dX8_differentKeys_1 rfl F_i8 (by decide) F_k18 (by have := isVer_b ha; omega) (isVer_0 ha) rfl ?_
  refine r_aload_n C dX8_differentKeys_4 rfl 1 rfl ?_
  refine r_getl C (ci := 8) (k9 := 2) dX8_differentKeys_5 rfl F_i8 (by decide) F_k18 (by have := isVer_b ha1; omega) (isVer_0 ha1) rfl ?_
  refine r_lxor C dX8_differentKeys_8 ?_
  refine r_lstore_n C dX8_differentKeys_9 rfl (by decide) (show _ = [(2, .long ((m.2 a 2) ^^^ (m.2 a1 2))), (0, .ref (ad a)), (1, .ref (ad a1))] from rfl) ?_
  refine r_iconst C (v := 0) dX8_differentKeys_10 (by decide) ?_
  refine r_istore C dX8_differentKeys_11 (by decide) (show _ = [(4, .int 0), (2, .long ((m.2 a 2) ^^^ (m.2 a1 2))), (0, .ref (ad a)), (1, .ref (ad a1))] from rfl) ?_
  refine s_join h (fun e68_13 => ∀ (x2_68 : Int64) (m68_ : sM), e68_13 x2_68 m68_ = some res → V 0 68 [(2, .long x2_68)] [] m68_) ?_ (fun e68_13 he68_13 h => ?_)
  · intro x2_68 m68_ h
    refine r_lload_n C dX8_differentKeys_68 rfl 0 rfl ?_
    exact r_lret C dX8_differentKeys_69 rfl h
  have L13 : ∀ (n : Nat) (x2_13 : Int64) (x4_13 : Int32) (m13_ : sM), f_X8_differentKeys_L13 a a1 e68_13 n x2_13 x4_13 m13_ = some res → V 0 13 [(0, .ref (ad a)), (1, .ref (ad a1)), (2, .long x2_13), (4, .int x4_13)] [] m13_ := by
    intro n
    induction n with
    | zero => intro x2_13 x4_13 m13_ h; rw [f_X8_differentKeys_L13] at h; cases h
    | succ n ih =>
      intro x2_13 x4_13 m13_ h
      rw [f_X8_differentKeys_L13] at h
      refine r_iload C dX8_differentKeys_13 3 rfl ?_
      refine r_bipush C (v := 64) dX8_differentKeys_15 (by decide) ?_
      refine r_icmp_ge C (tgt := 68) dX8_differentKeys_17 (by decide) h (fun _ h => ?_) (fun _ h => ?_)
      · skip
        refine r_sub C [2] (show _ = [(2, .long x2_13)] from rfl) ?_
        exact he68_13 x2_13 m13_ h
      · skip
        refine r_aload_n C dX8_differentKeys_20 rfl 0 rfl ?_
        refine r_getl C (ci := 8) (k9 := 2) dX8_differentKeys_21 rfl F_i8 (by decide) F_k18 (by have := isVer_b ha; omega) (isVer_0 ha) rfl ?_
        refine r_aload_n C dX8_differentKeys_24 rfl 1 rfl ?_
        refine r_getl C (ci := 8) (k9 := 2) dX8_differentKeys_25 rfl F_i8 (by decide) F_k18 (by have := isVer_b ha1; omega) (isVer_0 ha1) rfl ?_
        refine r_land C dX8_differentKeys_28 ?_
        refine r_iload C dX8_differentKeys_29 3 rfl ?_
        refine r_callN C (c_X9_isIn nw hnw ((m13_.2 a 2) &&& (m13_.2 a1 2)) x4_13) (host := RX9) (As := [.long ((m13_.2 a 2) &&& (m13_.2 a1 2)), .int x4_13]) (nn := 2) (stk := [.int x4_13, .long ((m13_.2 a 2) &&& (m13_.2 a1 2))]) dX8_differentKeys_31 gX8_differentKeys_X9_isIn_n49 (by decide +kernel) F_tyX9_isIn F_nyX9_isIn ⟨by decide, by decide, by decide +kernel⟩ rfl rfl (by decide) rfl rfl (Nat.le_of_ble_eq_true rfl) (by decide) h (fun r1 m2 h => ?_)
        show V 0 34 [(0, .ref (ad a)), (1, .ref (ad a1)), (2, .long x2_13), (4, .int x4_13)] [.int r1] m2
        refine s_join h (fun k62 => ∀ (x2_62 : Int64) (m62_ : sM), k62 x2_62 m62_ = some res → V 0 62 [(0, .ref (ad a)), (1, .ref (ad a1)), (2, .long x2_62), (4, .int x4_13)] [] m62_) ?_ (fun k62 hk62 h => ?_)
        · intro x2_62 m62_ h
          refine r_iinc C (v := x4_13 + 1) dX8_differentKeys_62 3 rfl rfl (by decide) (show _ = [(4, .int (x4_13 + 1)), (0, .ref (ad a)), (1, .ref (ad a1)), (2, .long x2_62)] from rfl) ?_
          refine r_goto C (tgt := 13) dX8_differentKeys_65 (by decide) ?_
          refine r_sub C [1, 2, 3, 0] (show _ = [(0, .ref (ad a)), (1, .ref (ad a1)), (2, .long x2_62), (4, .int (x4_13 + 1))] from rfl) ?_
          exact ih x2_62 (x4_13 + 1) m62_ h
        refine r_if_eq C (tgt := 62) dX8_differentKeys_34 (by decide) h (fun _ h => ?_) (fun _ h => ?_)
        · skip
          exact hk62 x2_13 m2 h
        · skip
          refine r_aload_n C dX8_differentKeys_37 rfl 0 rfl ?_
          refine r_getr C (ci := 8) (k9 := 1) dX8_differentKeys_38 rfl F_i8 (by decide) F_k15 (by have := isVer_b ha; omega) (isVer_0 ha) rfl ?_
          refine r_iload C dX8_differentKeys_41 3 rfl ?_
          refine r_iald C dX8_differentKeys_43 (by have := isVer_b ha; omega) (isVer_2 ha) h (fun j3 hj3 h => ?_)
          refine r_aload_n C dX8_differentKeys_44 rfl 1 rfl ?_
          refine r_getr C (ci := 8) (k9 := 1) dX8_differentKeys_45 rfl F_i8 (by decide) F_k15 (by have := isVer_b ha1; omega) (isVer_0 ha1) rfl ?_
          refine r_iload C dX8_differentKeys_48 3 rfl ?_
          refine r_iald C dX8_differentKeys_50 (by have := isVer_b ha1; omega) (isVer_2 ha1) h (fun j4 hj4 h => ?_)
          refine r_icmp_eq C (tgt := 62) dX8_differentKeys_51 (by decide) h (fun _ h => ?_) (fun _ h => ?_)
          · skip
            exact hk62 x2_13 m2 h
          · skip
            refine r_lload_n C dX8_differentKeys_54 rfl 2 rfl ?_
            refine r_iload C dX8_differentKeys_55 3 rfl ?_
            refine r_callN C (c_X9_setOf nw hnw x4_13) (host := RX9) (As := [.int x4_13]) (nn := 1) (stk := [.int x4_13, .long x2_13]) dX8_differentKeys_57 gX8_differentKeys_X9_setOf_n53 (by decide +kernel) F_tyX9_setOf F_nyX9_setOf ⟨by decide, by decide, by decide +kernel⟩ rfl rfl (by decide) rfl rfl (Nat.le_of_ble_eq_true rfl) (by decide) h (fun r5 m6 h => ?_)
            show V 0 60 [(0, .ref (ad a)), (1, .ref (ad a1)), (2, .long x2_13), (4, .int x4_13)] [.long r5, .long x2_13] m6
            refine r_lor C dX8_differentKeys_60 ?_
            refine r_lstore_n C dX8_differentKeys_61 rfl (by decide) (show _ = [(2, .long (x2_13 ||| r5)), (0, .ref (ad a)), (1, .ref (ad a1)), (4, .int x4_13)] from rfl) ?_
            refine r_sub C [1, 2, 0, 3] (show _ = [(0, .ref (ad a)), (1, .ref (ad a1)), (2, .long (x2_13 ||| r5)), (4, .int x4_13)] from rfl) ?_
            exact hk62 (x2_13 ||| r5) m6 h
  refine r_sub C [2, 3, 1, 0] (show _ = [(0, .ref (ad a)), (1, .ref (ad a1)), (2, .long ((m.2 a 2) ^^^ (m.2 a1 2))), (4, .int 0)] from rfl) ?_
  exact L13 5000 ((m.2 a 2) ^^^ (m.2 a1 2)) 0 m h
noncomputable def f_X9_differences (p1 : Int32) (m : sM) : Option (sR Int32) :=
  s_bd (f_X9_requireIndex p1 2 m) fun r1 m2 => s_bd (f_X9_requirePinned p1 m2) fun r3 m4 => s_ix p1 2 fun j5 => s_bd (f_X8_differentKeys 36 (42 + 3 * j5) m4) fun r6 m7 => s_bd (f_J13_bitCount_95d88 r6 m7) fun r8 m9 => some (.inl r8, m9)
set_option maxRecDepth 20000 in
set_option maxHeartbeats 4000000 in
theorem c_X9_differences (nw : Nat) (hnw : 109 ≤ nw) (p1 : Int32) : s_Con s_i 0 nw yX9_differences wsX9_differences 16 230 2 (f_X9_differences p1) (fun ad => [.ref (ad 0), .int p1]) := by
  refine s_con_of cX9_differences 2 (some .int) RX9 (by decide) rfl rfl (fun _ => Nat.le_of_ble_eq_true rfl) (fun ad m res V C h => ?_)
  unfold f_X9_differences at h
  have F_i9 : ∀ w ∈ wsX90, w ∈ wsX9_differences := by decide +kernel
  have F_k19 : Cond.fieldLink RX9 19 "ShadowFile" "present" "LShadowFile$Version;" ∈ wsX9_differences := by decide +kernel
  have F_k54 : Cond.fieldLink RX9 54 "ShadowFile" "pinned" "[LShadowFile$Version;" ∈ wsX9_differences := by decide +kernel
  show V 2 0 [(0, .ref (ad 0)), (1, .int p1)] [] m
  refine r_iload_n C dX9_differences_0 rfl 1 rfl ?_
  refine r_iconst C (v := 2) dX9_differences_1 (by decide) ?_
  refine r_callS C (c_X9_requireIndex nw hnw p1 2) (As := [.int p1, .int 2]) (nn := 2) (stk := [.int 2, .int p1]) dX9_differences_2 gX9_differences_X9_requireIndex ⟨by decide, by decide, by decide +kernel⟩ rfl rfl (by decide) rfl rfl (Nat.le_of_ble_eq_true rfl) (by decide) h (fun r1 m2 h => ?_)
  show V 1 5 [(0, .ref (ad 0)), (1, .int p1)] [] m2
  refine r_aload_n C dX9_differences_5 rfl 0 rfl ?_
  refine r_iload_n C dX9_differences_6 rfl 1 rfl ?_
  refine r_callV C (c_X9_requirePinned nw hnw p1) (As := [.int p1]) (nn := 1) (stk := [.int p1, .ref (ad 0)]) (ci := 9) dX9_differences_7 gX9_differences_X9_requirePinned ⟨rfl, by decide, by decide, by decide +kernel⟩ (by omega) la_0 rfl rfl rfl (by decide) rfl rfl (Nat.le_of_ble_eq_true rfl) (by decide) h (fun r3 m4 h => ?_)
  show V 0 10 [(0, .ref (ad 0)), (1, .int p1)] [] m4
  refine r_aload_n C dX9_differences_10 rfl 0 rfl ?_
  refine r_getr C (ci := 9) (k9 := 1) dX9_differences_11 rfl F_i9 (by decide) F_k19 (by omega) la_0 rfl ?_
  refine r_aload_n C dX9_differences_14 rfl 0 rfl ?_
  refine r_getr C (ci := 9) (k9 := 8) dX9_differences_15 rfl F_i9 (by decide) F_k54 (by omega) la_0 rfl ?_
  refine r_iload_n C dX9_differences_18 rfl 1 rfl ?_
  refine r_aald C (b0 := 42) (d0 := 3) dX9_differences_19 (by omega) la_48 (fun _ => rfl) rfl h (fun j5 hj5 h => ?_)
  refine r_callV C (c_X8_differentKeys nw hnw 36 (42 + 3 * j5) (by unfold isVer; omega) (isVer_p hj5)) (As := [.ref (ad (42 + 3 * j5))]) (nn := 1) (stk := [.ref (ad (42 + 3 * j5)), .ref (ad 36)]) (ci := 8) dX9_differences_20 gX9_differences_X8_differentKeys ⟨rfl, by decide, by decide, by decide +kernel⟩ (by omega) la_36 rfl rfl rfl (by decide) rfl rfl (Nat.le_of_ble_eq_true rfl) (by decide) h (fun r6 m7 h => ?_)
  show V 0 23 [(0, .ref (ad 0)), (1, .int p1)] [.long r6] m7
  refine r_callS C (c_J13_bitCount_95d88 nw hnw r6) (As := [.long r6]) (nn := 1) (stk := [.long r6]) dX9_differences_23 gX9_differences_J13_bitCount_95d88 ⟨by decide, by decide, by decide +kernel⟩ rfl rfl (by decide) rfl rfl (Nat.le_of_ble_eq_true rfl) (by decide) h (fun r8 m9 h => ?_)
  show V 0 26 [(0, .ref (ad 0)), (1, .int p1)] [.int r8] m9
  exact r_iret C dX9_differences_26 rfl h
noncomputable def f_X9_differentKey (p1 : Int32) (p2 : Int32) (m : sM) : Option (sR Int32) :=
  s_bd (f_X9_requireIndex p1 2 m) fun r1 m2 => s_bd (f_X9_requirePinned p1 m2) fun r3 m4 => s_ix p1 2 fun j5 => s_bd (f_X8_differentKeys 36 (42 + 3 * j5) m4) fun r6 m7 => s_jn (fun (m36_ : sM) => some (.inr "java/util/NoSuchElementException", m36_)) fun k36 => if p2 < 0 then (k36  m7) else (s_bd (f_J13_bitCount_95d88 r6 m7) fun r8 m9 => if p2 < r8 then (s_bd (f_X9_memberAt r6 p2 m9) fun r10 m11 => some (.inl r10, m11)) else (k36  m9))
set_option maxRecDepth 20000 in
set_option maxHeartbeats 4000000 in
theorem c_X9_differentKey (nw : Nat) (hnw : 109 ≤ nw) (p1 : Int32) (p2 : Int32) : s_Con s_i 0 nw yX9_differentKey wsX9_differentKey 16 230 3 (f_X9_differentKey p1 p2) (fun ad => [.ref (ad 0), .int p1, .int p2]) := by
  refine s_con_of cX9_differentKey 5 (some .int) RX9 (by decide) rfl rfl (fun _ => Nat.le_of_ble_eq_true rfl) (fun ad m res V C h => ?_)
  unfold f_X9_differentKey at h
  have F_i9 : ∀ w ∈ wsX90, w ∈ wsX9_differentKey := by decide +kernel
  have F_k19 : Cond.fieldLink RX9 19 "ShadowFile" "present" "LShadowFile$Version;" ∈ wsX9_differentKey := by decide +kernel
  have F_k54 : Cond.fieldLink RX9 54 "ShadowFile" "pinned" "[LShadowFile$Version;" ∈ wsX9_differentKey := by decide +kernel
  have F_q174 : Cond.classLink RX9 174 "java/util/NoSuchElementException" ∈ wsX9_differentKey := by decide +kernel
  have F_u174 : Cond.initialized "java/util/NoSuchElementException" ∈ wsX9_differentKey := by decide +kernel
  have F_z178 : ∀ w ∈ (vy_at RX9 178 "java/util/NoSuchElementException" "java/lang/RuntimeException" ["java/lang/Exception"]).filter goodWord, w ∈ wsX9_differentKey := by decide +kernel
  have F_y178 : ∀ w ∈ (vy_at RX9 178 "java/util/NoSuchElementException" "java/lang/RuntimeException" ["java/lang/Exception"]).filter (fun w => !goodWord w), w ∈ Cond.castable "java/util/NoSuchElementException" "java/util/NoSuchElementException" :: s_dec.map Cond.declares := by decide +kernel
  have F_v178 : ∀ w ∈ Cond.classLink RX9 174 "java/util/NoSuchElementException" :: Cond.initialized "java/util/NoSuchElementException" :: vy_at RX9 178 "java/util/NoSuchElementException" "java/lang/RuntimeException" ["java/lang/Exception"], vx_ot w = true := by decide +kernel
  show V 3 0 [(0, .ref (ad 0)), (1, .int p1), (2, .int p2)] [] m
  refine r_iload_n C dX9_differentKey_0 rfl 1 rfl ?_
  refine r_iconst C (v := 2) dX9_differentKey_1 (by decide) ?_
  refine r_callS C (c_X9_requireIndex nw hnw p1 2) (As := [.int p1, .int 2]) (nn := 2) (stk := [.int 2, .int p1]) dX9_differentKey_2 gX9_differentKey_X9_requireIndex ⟨by decide, by decide, by decide +kernel⟩ rfl rfl (by decide) rfl rfl (Nat.le_of_ble_eq_true rfl) (by decide) h (fun r1 m2 h => ?_)
  show V 2 5 [(0, .ref (ad 0)), (1, .int p1), (2, .int p2)] [] m2
  refine r_aload_n C dX9_differentKey_5 rfl 0 rfl ?_
  refine r_iload_n C dX9_differentKey_6 rfl 1 rfl ?_
  refine r_callV C (c_X9_requirePinned nw hnw p1) (As := [.int p1]) (nn := 1) (stk := [.int p1, .ref (ad 0)]) (ci := 9) dX9_differentKey_7 gX9_differentKey_X9_requirePinned ⟨rfl, by decide, by decide, by decide +kernel⟩ (by omega) la_0 rfl rfl rfl (by decide) rfl rfl (Nat.le_of_ble_eq_true rfl) (by decide) h (fun r3 m4 h => ?_)
  show V 1 10 [(0, .ref (ad 0)), (1, .int p1), (2, .int p2)] [] m4
  refine r_aload_n C dX9_differentKey_10 rfl 0 rfl ?_
  refine r_getr C (ci := 9) (k9 := 1) dX9_differentKey_11 rfl F_i9 (by decide) F_k19 (by omega) la_0 rfl ?_
  refine r_aload_n C dX9_differentKey_14 rfl 0 rfl ?_
  refine r_getr C (ci := 9) (k9 := 8) dX9_differentKey_15 rfl F_i9 (by decide) F_k54 (by omega) la_0 rfl ?_
  refine r_iload_n C dX9_differentKey_18 rfl 1 rfl ?_
  refine r_aald C (b0 := 42) (d0 := 3) dX9_differentKey_19 (by omega) la_48 (fun _ => rfl) rfl h (fun j5 hj5 h => ?_)
  refine r_callV C (c_X8_differentKeys nw hnw 36 (42 + 3 * j5) (by unfold isVer; omega) (isVer_p hj5)) (As := [.ref (ad (42 + 3 * j5))]) (nn := 1) (stk := [.ref (ad (42 + 3 * j5)), .ref (ad 36)]) (ci := 8) dX9_differentKey_20 gX9_differentKey_X8_differentKeys ⟨rfl, by decide, by decide, by decide +kernel⟩ (by omega) la_36 rfl rfl rfl (by decide) rfl rfl (Nat.le_of_ble_eq_true rfl) (by decide) h (fun r6 m7 h => ?_)
  show V 1 23 [(0, .ref (ad 0)), (1, .int p1), (2, .int p2)] [.long r6] m7
  refine r_lstore_n C dX9_differentKey_23 rfl (by decide) (show _ = [(3, .long r6), (0, .ref (ad 0)), (1, .int p1), (2, .int p2)] from rfl) ?_
  refine r_iload_n C dX9_differentKey_24 rfl 3 rfl ?_
  refine s_join h (fun k36 => ∀ (m36_ : sM), k36 m36_ = some res → V 1 36 [] [] m36_) ?_ (fun k36 hk36 h => ?_)
  · intro m36_ h
    exact r_throwNW C (text := "no such index of a different key") dX9_differentKey_36 dX9_differentKey_39 dX9_differentKey_40 dX9_differentKey_43 dX9_differentKey_46 (by decide) (by decide) F_q174 F_u174 F_z178 F_y178 F_v178 (by decide +kernel) (by decide +kernel) (by decide) (Nat.le_of_ble_eq_true rfl) (by decide) h
  refine r_if_lt C (tgt := 36) dX9_differentKey_25 (by decide) h (fun _ h => ?_) (fun _ h => ?_)
  · skip
    refine r_sub C [] (show _ = [] from rfl) ?_
    exact hk36 m7 h
  · skip
    refine r_iload_n C dX9_differentKey_28 rfl 3 rfl ?_
    refine r_lload_n C dX9_differentKey_29 rfl 0 rfl ?_
    refine r_callS C (c_J13_bitCount_95d88 nw hnw r6) (As := [.long r6]) (nn := 1) (stk := [.long r6, .int p2]) dX9_differentKey_30 gX9_differentKey_J13_bitCount_95d88 ⟨by decide, by decide, by decide +kernel⟩ rfl rfl (by decide) rfl rfl (Nat.le_of_ble_eq_true rfl) (by decide) h (fun r8 m9 h => ?_)
    show V 1 33 [(3, .long r6), (0, .ref (ad 0)), (1, .int p1), (2, .int p2)] [.int r8, .int p2] m9
    refine r_icmp_lt C (tgt := 47) dX9_differentKey_33 (by decide) h (fun _ h => ?_) (fun _ h => ?_)
    · skip
      refine r_lload_n C dX9_differentKey_47 rfl 0 rfl ?_
      refine r_iload_n C dX9_differentKey_48 rfl 3 rfl ?_
      refine r_callS C (c_X9_memberAt nw hnw r6 p2) (As := [.long r6, .int p2]) (nn := 2) (stk := [.int p2, .long r6]) dX9_differentKey_49 gX9_differentKey_X9_memberAt ⟨by decide, by decide, by decide +kernel⟩ rfl rfl (by decide) rfl rfl (Nat.le_of_ble_eq_true rfl) (by decide) h (fun r10 m11 h => ?_)
      show V 1 52 [(3, .long r6), (0, .ref (ad 0)), (1, .int p1), (2, .int p2)] [.int r10] m11
      exact r_iret C dX9_differentKey_52 rfl h
    · skip
      refine r_sub C [] (show _ = [] from rfl) ?_
      exact hk36 m9 h
