noncomputable def f_X10_isData (p0 : Int32) (m : sM) : Option (sR Int32) :=
  s_bd (f_X10_in p0 2 31 m) fun r1 m2 => s_gd (r1 = 0 ∨ r1 = 1) (some (.inl r1, m2))
set_option maxRecDepth 20000 in
set_option maxHeartbeats 4000000 in
theorem c_X10_isData (nw : Nat) (hnw : 29 ≤ nw) (p0 : Int32) : s_Con s_i 110 nw yX10_isData wsX10_isData 14 185 0 (f_X10_isData p0) (fun ad => [.int p0]) := by
  refine s_con_of cX10_isData 1 (some .boolean) RX10 (by decide) rfl rfl (fun _ => Nat.le_of_ble_eq_true rfl) (fun ad m res V C h => ?_)
  unfold f_X10_isData at h
  show V 0 0 [(0, .int p0)] [] m
  refine r_iload_n C dX10_isData_0 rfl 0 rfl ?_
  refine r_iconst C (v := 2) dX10_isData_1 (by decide) ?_
  refine r_bipush C (v := 31) dX10_isData_2 (by decide) ?_
  refine r_callS C (c_X10_in nw hnw p0 2 31) (As := [.int p0, .int 2, .int 31]) (nn := 3) (stk := [.int 31, .int 2, .int p0]) dX10_isData_4 gX10_isData_X10_in ⟨by decide, by decide, by decide +kernel⟩ rfl rfl (by decide) rfl rfl (Nat.le_of_ble_eq_true rfl) (by decide) h (fun r1 m2 h => ?_)
  show V 0 7 [(0, .int p0)] [.int r1] m2
  obtain ⟨hg, h⟩ := s_gd_of h
  exact r_zret C dX10_isData_7 rfl (s_z hg) h
noncomputable def f_X10_isUsable_L96 (y2_96 : Int32) (e176_96 : Int32 → sM → Option (sR Int32)) : Nat → Int32 → Int32 → sM → Option (sR Int32)
  | 0, _, _, _ => none
  | n + 1, x3_96, x4_96, m96_ =>
    if 8 ≤ x4_96 then (e176_96 x3_96 m96_) else (s_bd (f_X10_at y2_96 (4 + x4_96) m96_) fun r17 m18 => s_jn (fun (s0_169 : Int32) (m169_ : sM) => f_X10_isUsable_L96 y2_96 e176_96 n s0_169 (x4_96 + 1) m169_) fun k169 => s_jn (fun (m168_ : sM) => k169 0 m168_) fun k168 => if x3_96 = 0 then (k168  m18) else (s_jn (fun (m164_ : sM) => k169 1 m164_) fun k164 => if r17 = (-1) then (k164  m18) else (s_bd (f_X10_isData r17 m18) fun r19 m20 => if r19 = 0 then (k168  m20) else (s_bd (f_X10_valid r17 m20) fun r21 m22 => if r21 = 0 then (k168  m22) else (s_bd (f_X10_at r17 0 m22) fun r23 m24 => if r23 = 3 then (s_bd (f_X10_at r17 2 m24) fun r25 m26 => if r25 = x4_96 then (k164  m26) else (k168  m26)) else (k168  m24))))))
noncomputable def f_X10_isUsable (p1 : Int32) (m : sM) : Option (sR Int32) :=
  s_bd (f_X10_valid p1 m) fun r1 m2 => s_jn (fun (m45_ : sM) => some (.inl 0, m45_)) fun k45 => if r1 = 0 then (k45  m2) else (s_bd (f_X10_at p1 0 m2) fun r3 m4 => if r3 = 1 then (s_bd (f_X10_at p1 1 m4) fun r5 m6 => s_bd (f_X10_in r5 0 999999 m6) fun r7 m8 => if r7 = 0 then (k45  m8) else (s_bd (f_X10_at p1 2 m8) fun r9 m10 => s_bd (f_X10_isData r9 m10) fun r11 m12 => if r11 = 0 then (k45  m12) else (s_bd (f_X10_at p1 2 m12) fun r13 m14 => s_bd (f_X10_valid r13 m14) fun r15 m16 => s_jn (fun (s0_92 : Int32) (m92_ : sM) => s_jn (fun (x3_176 : Int32) (m176_ : sM) => s_gd (x3_176 = 0 ∨ x3_176 = 1) (some (.inl x3_176, m176_))) fun e176_96 => f_X10_isUsable_L96 r13 e176_96 5000 s0_92 0 m92_) fun k92 => s_jn (fun (m91_ : sM) => k92 0 m91_) fun k91 => if r15 = 0 then (k91  m16) else (s_bd (f_X10_at r13 0 m16) fun r27 m28 => if r27 = 2 then (s_bd (f_X10_at r13 1 m28) fun r29 m30 => s_bd (f_X10_at p1 1 m30) fun r31 m32 => if r29 = r31 then (k92 1 m32) else (k91  m32)) else (k91  m28))))) else (k45  m4))
set_option maxRecDepth 20000 in
set_option maxHeartbeats 4000000 in
theorem c_X10_isUsable (nw : Nat) (hnw : 29 ≤ nw) (p1 : Int32) : s_Con s_i 110 nw yX10_isUsable wsX10_isUsable 18 275 0 (f_X10_isUsable p1) (fun ad => [.ref (ad 110), .int p1]) := by
  refine s_con_of cX10_isUsable 6 (some .boolean) RX10 (by decide) rfl rfl (fun _ => Nat.le_of_ble_eq_true rfl) (fun ad m res V C h => ?_)
  unfold f_X10_isUsable at h
  have F_w241 : Cond.constant RX10 241 (999999) ∈ wsX10_isUsable := by decide +kernel
  show V 0 0 [(0, .ref (ad 110)), (1, .int p1)] [] m
  refine r_aload_n C dX10_isUsable_0 rfl 0 rfl ?_
  refine r_iload_n C dX10_isUsable_1 rfl 1 rfl ?_
  refine r_callV C (c_X10_valid nw hnw p1) (As := [.int p1]) (nn := 1) (stk := [.int p1, .ref (ad 110)]) (ci := 10) dX10_isUsable_2 gX10_isUsable_X10_valid ⟨rfl, by decide, by decide, by decide +kernel⟩ (by omega) la_110 rfl rfl rfl (by decide) rfl rfl (Nat.le_of_ble_eq_true rfl) (by decide) h (fun r1 m2 h => ?_)
  show V 0 5 [(0, .ref (ad 110)), (1, .int p1)] [.int r1] m2
  refine s_join h (fun k45 => ∀ (m45_ : sM), k45 m45_ = some res → V 0 45 [] [] m45_) ?_ (fun k45 hk45 h => ?_)
  · intro m45_ h
    refine r_iconst C (v := 0) dX10_isUsable_45 (by decide) ?_
    exact r_zret C dX10_isUsable_46 rfl (by decide) h
  refine r_if_eq C (tgt := 45) dX10_isUsable_5 (by decide) h (fun _ h => ?_) (fun _ h => ?_)
  · skip
    refine r_sub C [] (show _ = [] from rfl) ?_
    exact hk45 m2 h
  · skip
    refine r_aload_n C dX10_isUsable_8 rfl 0 rfl ?_
    refine r_iload_n C dX10_isUsable_9 rfl 1 rfl ?_
    refine r_iconst C (v := 0) dX10_isUsable_10 (by decide) ?_
    refine r_callV C (c_X10_at nw hnw p1 0) (As := [.int p1, .int 0]) (nn := 2) (stk := [.int 0, .int p1, .ref (ad 110)]) (ci := 10) dX10_isUsable_11 gX10_isUsable_X10_at ⟨rfl, by decide, by decide, by decide +kernel⟩ (by omega) la_110 rfl rfl rfl (by decide) rfl rfl (Nat.le_of_ble_eq_true rfl) (by decide) h (fun r3 m4 h => ?_)
    show V 0 14 [(0, .ref (ad 110)), (1, .int p1)] [.int r3] m4
    refine r_iconst C (v := 1) dX10_isUsable_14 (by decide) ?_
    refine r_icmp_ne C (tgt := 45) dX10_isUsable_15 (by decide) h (fun _ h => ?_) (fun _ h => ?_)
    · skip
      refine r_aload_n C dX10_isUsable_18 rfl 0 rfl ?_
      refine r_iload_n C dX10_isUsable_19 rfl 1 rfl ?_
      refine r_iconst C (v := 1) dX10_isUsable_20 (by decide) ?_
      refine r_callV C (c_X10_at nw hnw p1 1) (As := [.int p1, .int 1]) (nn := 2) (stk := [.int 1, .int p1, .ref (ad 110)]) (ci := 10) dX10_isUsable_21 gX10_isUsable_X10_at ⟨rfl, by decide, by decide, by decide +kernel⟩ (by omega) la_110 rfl rfl rfl (by decide) rfl rfl (Nat.le_of_ble_eq_true rfl) (by decide) h (fun r5 m6 h => ?_)
      show V 0 24 [(0, .ref (ad 110)), (1, .int p1)] [.int r5] m6
      refine r_iconst C (v := 0) dX10_isUsable_24 (by decide) ?_
      refine r_ldc C dX10_isUsable_25 F_w241 ?_
      refine r_callS C (c_X10_in nw hnw r5 0 999999) (As := [.int r5, .int 0, .int 999999]) (nn := 3) (stk := [.int 999999, .int 0, .int r5]) dX10_isUsable_27 gX10_isUsable_X10_in ⟨by decide, by decide, by decide +kernel⟩ rfl rfl (by decide) rfl rfl (Nat.le_of_ble_eq_true rfl) (by decide) h (fun r7 m8 h => ?_)
      show V 0 30 [(0, .ref (ad 110)), (1, .int p1)] [.int r7] m8
      refine r_if_eq C (tgt := 45) dX10_isUsable_30 (by decide) h (fun _ h => ?_) (fun _ h => ?_)
      · skip
        refine r_sub C [] (show _ = [] from rfl) ?_
        exact hk45 m8 h
      · skip
        refine r_aload_n C dX10_isUsable_33 rfl 0 rfl ?_
        refine r_iload_n C dX10_isUsable_34 rfl 1 rfl ?_
        refine r_iconst C (v := 2) dX10_isUsable_35 (by decide) ?_
        refine r_callV C (c_X10_at nw hnw p1 2) (As := [.int p1, .int 2]) (nn := 2) (stk := [.int 2, .int p1, .ref (ad 110)]) (ci := 10) dX10_isUsable_36 gX10_isUsable_X10_at ⟨rfl, by decide, by decide, by decide +kernel⟩ (by omega) la_110 rfl rfl rfl (by decide) rfl rfl (Nat.le_of_ble_eq_true rfl) (by decide) h (fun r9 m10 h => ?_)
        show V 0 39 [(0, .ref (ad 110)), (1, .int p1)] [.int r9] m10
        refine r_callS C (c_X10_isData nw hnw r9) (As := [.int r9]) (nn := 1) (stk := [.int r9]) dX10_isUsable_39 gX10_isUsable_X10_isData ⟨by decide, by decide, by decide +kernel⟩ rfl rfl (by decide) rfl rfl (Nat.le_of_ble_eq_true rfl) (by decide) h (fun r11 m12 h => ?_)
        show V 0 42 [(0, .ref (ad 110)), (1, .int p1)] [.int r11] m12
        refine r_if_ne C (tgt := 47) dX10_isUsable_42 (by decide) h (fun _ h => ?_) (fun _ h => ?_)
        · skip
          refine r_sub C [] (show _ = [] from rfl) ?_
          exact hk45 m12 h
        · skip
          refine r_aload_n C dX10_isUsable_47 rfl 0 rfl ?_
          refine r_iload_n C dX10_isUsable_48 rfl 1 rfl ?_
          refine r_iconst C (v := 2) dX10_isUsable_49 (by decide) ?_
          refine r_callV C (c_X10_at nw hnw p1 2) (As := [.int p1, .int 2]) (nn := 2) (stk := [.int 2, .int p1, .ref (ad 110)]) (ci := 10) dX10_isUsable_50 gX10_isUsable_X10_at ⟨rfl, by decide, by decide, by decide +kernel⟩ (by omega) la_110 rfl rfl rfl (by decide) rfl rfl (Nat.le_of_ble_eq_true rfl) (by decide) h (fun r13 m14 h => ?_)
          show V 0 53 [(0, .ref (ad 110)), (1, .int p1)] [.int r13] m14
          refine r_istore_n C dX10_isUsable_53 rfl (by decide) (show _ = [(2, .int r13), (0, .ref (ad 110)), (1, .int p1)] from rfl) ?_
          refine r_aload_n C dX10_isUsable_54 rfl 1 rfl ?_
          refine r_iload_n C dX10_isUsable_55 rfl 0 rfl ?_
          refine r_callV C (c_X10_valid nw hnw r13) (As := [.int r13]) (nn := 1) (stk := [.int r13, .ref (ad 110)]) (ci := 10) dX10_isUsable_56 gX10_isUsable_X10_valid ⟨rfl, by decide, by decide, by decide +kernel⟩ (by omega) la_110 rfl rfl rfl (by decide) rfl rfl (Nat.le_of_ble_eq_true rfl) (by decide) h (fun r15 m16 h => ?_)
          show V 0 59 [(2, .int r13), (0, .ref (ad 110)), (1, .int p1)] [.int r15] m16
          refine s_join h (fun k92 => ∀ (s0_92 : Int32) (m92_ : sM), k92 s0_92 m92_ = some res → V 0 92 [(0, .ref (ad 110)), (2, .int r13)] [.int s0_92] m92_) ?_ (fun k92 hk92 h => ?_)
          · intro s0_92 m92_ h
            refine r_istore_n C dX10_isUsable_92 rfl (by decide) (show _ = [(3, .int s0_92), (0, .ref (ad 110)), (2, .int r13)] from rfl) ?_
            refine r_iconst C (v := 0) dX10_isUsable_93 (by decide) ?_
            refine r_istore C dX10_isUsable_94 (by decide) (show _ = [(4, .int 0), (3, .int s0_92), (0, .ref (ad 110)), (2, .int r13)] from rfl) ?_
            refine s_join h (fun e176_96 => ∀ (x3_176 : Int32) (m176_ : sM), e176_96 x3_176 m176_ = some res → V 0 176 [(3, .int x3_176)] [] m176_) ?_ (fun e176_96 he176_96 h => ?_)
            · intro x3_176 m176_ h
              refine r_iload_n C dX10_isUsable_176 rfl 0 rfl ?_
              obtain ⟨hg, h⟩ := s_gd_of h
              exact r_zret C dX10_isUsable_177 rfl (s_z hg) h
            have L96 : ∀ (n : Nat) (x3_96 : Int32) (x4_96 : Int32) (m96_ : sM), f_X10_isUsable_L96 r13 e176_96 n x3_96 x4_96 m96_ = some res → V 0 96 [(0, .ref (ad 110)), (2, .int r13), (3, .int x3_96), (4, .int x4_96)] [] m96_ := by
              intro n
              induction n with
              | zero => intro x3_96 x4_96 m96_ h; rw [f_X10_isUsable_L96] at h; cases h
              | succ n ih =>
                intro x3_96 x4_96 m96_ h
                rw [f_X10_isUsable_L96] at h
                refine r_iload C dX10_isUsable_96 3 rfl ?_
                refine r_bipush C (v := 8) dX10_isUsable_98 (by decide) ?_
                refine r_icmp_ge C (tgt := 176) dX10_isUsable_100 (by decide) h (fun _ h => ?_) (fun _ h => ?_)
                · skip
                  refine r_sub C [2] (show _ = [(3, .int x3_96)] from rfl) ?_
                  exact he176_96 x3_96 m96_ h
                · skip
                  refine r_aload_n C dX10_isUsable_103 rfl 0 rfl ?_
                  refine r_iload_n C dX10_isUsable_104 rfl 1 rfl ?_
                  refine r_iconst C (v := 4) dX10_isUsable_105 (by decide) ?_
                  refine r_iload C dX10_isUsable_106 3 rfl ?_
                  refine r_iadd C dX10_isUsable_108 ?_
                  refine r_callV C (c_X10_at nw hnw r13 (4 + x4_96)) (As := [.int r13, .int (4 + x4_96)]) (nn := 2) (stk := [.int (4 + x4_96), .int r13, .ref (ad 110)]) (ci := 10) dX10_isUsable_109 gX10_isUsable_X10_at ⟨rfl, by decide, by decide, by decide +kernel⟩ (by omega) la_110 rfl rfl rfl (by decide) rfl rfl (Nat.le_of_ble_eq_true rfl) (by decide) h (fun r17 m18 h => ?_)
                  show V 0 112 [(0, .ref (ad 110)), (2, .int r13), (3, .int x3_96), (4, .int x4_96)] [.int r17] m18
                  refine r_istore C dX10_isUsable_112 (by decide) (show _ = [(5, .int r17), (0, .ref (ad 110)), (2, .int r13), (3, .int x3_96), (4, .int x4_96)] from rfl) ?_
                  refine r_iload_n C dX10_isUsable_114 rfl 3 rfl ?_
                  refine s_join h (fun k169 => ∀ (s0_169 : Int32) (m169_ : sM), k169 s0_169 m169_ = some res → V 0 169 [(0, .ref (ad 110)), (2, .int r13), (4, .int x4_96)] [.int s0_169] m169_) ?_ (fun k169 hk169 h => ?_)
                  · intro s0_169 m169_ h
                    refine r_istore_n C dX10_isUsable_169 rfl (by decide) (show _ = [(3, .int s0_169), (0, .ref (ad 110)), (2, .int r13), (4, .int x4_96)] from rfl) ?_
                    refine r_iinc C (v := x4_96 + 1) dX10_isUsable_170 3 rfl rfl (by decide) (show _ = [(4, .int (x4_96 + 1)), (3, .int s0_169), (0, .ref (ad 110)), (2, .int r13)] from rfl) ?_
                    refine r_goto C (tgt := 96) dX10_isUsable_173 (by decide) ?_
                    refine r_sub C [2, 3, 1, 0] (show _ = [(0, .ref (ad 110)), (2, .int r13), (3, .int s0_169), (4, .int (x4_96 + 1))] from rfl) ?_
                    exact ih s0_169 (x4_96 + 1) m169_ h
                  refine s_join h (fun k168 => ∀ (m168_ : sM), k168 m168_ = some res → V 0 168 [(0, .ref (ad 110)), (2, .int r13), (4, .int x4_96)] [] m168_) ?_ (fun k168 hk168 h => ?_)
                  · intro m168_ h
                    refine r_iconst C (v := 0) dX10_isUsable_168 (by decide) ?_
                    exact hk169 0 m168_ h
                  refine r_if_eq C (tgt := 168) dX10_isUsable_115 (by decide) h (fun _ h => ?_) (fun _ h => ?_)
                  · skip
                    refine r_sub C [1, 2, 4] (show _ = [(0, .ref (ad 110)), (2, .int r13), (4, .int x4_96)] from rfl) ?_
                    exact hk168 m18 h
                  · skip
                    refine r_iload C dX10_isUsable_118 0 rfl ?_
                    refine r_iconst C (v := -1) dX10_isUsable_120 (by decide) ?_
                    refine s_join h (fun k164 => ∀ (m164_ : sM), k164 m164_ = some res → V 0 164 [(0, .ref (ad 110)), (2, .int r13), (4, .int x4_96)] [] m164_) ?_ (fun k164 hk164 h => ?_)
                    · intro m164_ h
                      refine r_iconst C (v := 1) dX10_isUsable_164 (by decide) ?_
                      refine r_goto C (tgt := 169) dX10_isUsable_165 (by decide) ?_
                      exact hk169 1 m164_ h
                    refine r_icmp_eq C (tgt := 164) dX10_isUsable_121 (by decide) h (fun _ h => ?_) (fun _ h => ?_)
                    · skip
                      refine r_sub C [1, 2, 4] (show _ = [(0, .ref (ad 110)), (2, .int r13), (4, .int x4_96)] from rfl) ?_
                      exact hk164 m18 h
                    · skip
                      refine r_iload C dX10_isUsable_124 0 rfl ?_
                      refine r_callS C (c_X10_isData nw hnw r17) (As := [.int r17]) (nn := 1) (stk := [.int r17]) dX10_isUsable_126 gX10_isUsable_X10_isData ⟨by decide, by decide, by decide +kernel⟩ rfl rfl (by decide) rfl rfl (Nat.le_of_ble_eq_true rfl) (by decide) h (fun r19 m20 h => ?_)
                      show V 0 129 [(5, .int r17), (0, .ref (ad 110)), (2, .int r13), (3, .int x3_96), (4, .int x4_96)] [.int r19] m20
                      refine r_if_eq C (tgt := 168) dX10_isUsable_129 (by decide) h (fun _ h => ?_) (fun _ h => ?_)
                      · skip
                        refine r_sub C [1, 2, 4] (show _ = [(0, .ref (ad 110)), (2, .int r13), (4, .int x4_96)] from rfl) ?_
                        exact hk168 m20 h
                      · skip
                        refine r_aload_n C dX10_isUsable_132 rfl 1 rfl ?_
                        refine r_iload C dX10_isUsable_133 0 rfl ?_
                        refine r_callV C (c_X10_valid nw hnw r17) (As := [.int r17]) (nn := 1) (stk := [.int r17, .ref (ad 110)]) (ci := 10) dX10_isUsable_135 gX10_isUsable_X10_valid ⟨rfl, by decide, by decide, by decide +kernel⟩ (by omega) la_110 rfl rfl rfl (by decide) rfl rfl (Nat.le_of_ble_eq_true rfl) (by decide) h (fun r21 m22 h => ?_)
                        show V 0 138 [(5, .int r17), (0, .ref (ad 110)), (2, .int r13), (3, .int x3_96), (4, .int x4_96)] [.int r21] m22
                        refine r_if_eq C (tgt := 168) dX10_isUsable_138 (by decide) h (fun _ h => ?_) (fun _ h => ?_)
                        · skip
                          refine r_sub C [1, 2, 4] (show _ = [(0, .ref (ad 110)), (2, .int r13), (4, .int x4_96)] from rfl) ?_
                          exact hk168 m22 h
                        · skip
                          refine r_aload_n C dX10_isUsable_141 rfl 1 rfl ?_
                          refine r_iload C dX10_isUsable_142 0 rfl ?_
                          refine r_iconst C (v := 0) dX10_isUsable_144 (by decide) ?_
                          refine r_callV C (c_X10_at nw hnw r17 0) (As := [.int r17, .int 0]) (nn := 2) (stk := [.int 0, .int r17, .ref (ad 110)]) (ci := 10) dX10_isUsable_145 gX10_isUsable_X10_at ⟨rfl, by decide, by decide, by decide +kernel⟩ (by omega) la_110 rfl rfl rfl (by decide) rfl rfl (Nat.le_of_ble_eq_true rfl) (by decide) h (fun r23 m24 h => ?_)
                          show V 0 148 [(5, .int r17), (0, .ref (ad 110)), (2, .int r13), (3, .int x3_96), (4, .int x4_96)] [.int r23] m24
                          refine r_iconst C (v := 3) dX10_isUsable_148 (by decide) ?_
                          refine r_icmp_ne C (tgt := 168) dX10_isUsable_149 (by decide) h (fun _ h => ?_) (fun _ h => ?_)
                          · skip
                            refine r_aload_n C dX10_isUsable_152 rfl 1 rfl ?_
                            refine r_iload C dX10_isUsable_153 0 rfl ?_
                            refine r_iconst C (v := 2) dX10_isUsable_155 (by decide) ?_
                            refine r_callV C (c_X10_at nw hnw r17 2) (As := [.int r17, .int 2]) (nn := 2) (stk := [.int 2, .int r17, .ref (ad 110)]) (ci := 10) dX10_isUsable_156 gX10_isUsable_X10_at ⟨rfl, by decide, by decide, by decide +kernel⟩ (by omega) la_110 rfl rfl rfl (by decide) rfl rfl (Nat.le_of_ble_eq_true rfl) (by decide) h (fun r25 m26 h => ?_)
                            show V 0 159 [(5, .int r17), (0, .ref (ad 110)), (2, .int r13), (3, .int x3_96), (4, .int x4_96)] [.int r25] m26
                            refine r_iload C dX10_isUsable_159 4 rfl ?_
                            refine r_icmp_ne C (tgt := 168) dX10_isUsable_161 (by decide) h (fun _ h => ?_) (fun _ h => ?_)
                            · skip
                              refine r_sub C [1, 2, 4] (show _ = [(0, .ref (ad 110)), (2, .int r13), (4, .int x4_96)] from rfl) ?_
                              exact hk164 m26 h
                            · skip
                              refine r_sub C [1, 2, 4] (show _ = [(0, .ref (ad 110)), (2, .int r13), (4, .int x4_96)] from rfl) ?_
                              exact hk168 m26 h
                          · skip
                            refine r_sub C [1, 2, 4] (show _ = [(0, .ref (ad 110)), (2, .int r13), (4, .int x4_96)] from rfl) ?_
                            exact hk168 m24 h
            refine r_sub C [2, 3, 1, 0] (show _ = [(0, .ref (ad 110)), (2, .int r13), (3, .int s0_92), (4, .int 0)] from rfl) ?_
            exact L96 5000 s0_92 0 m92_ h
          refine s_join h (fun k91 => ∀ (m91_ : sM), k91 m91_ = some res → V 0 91 [(0, .ref (ad 110)), (2, .int r13)] [] m91_) ?_ (fun k91 hk91 h => ?_)
          · intro m91_ h
            refine r_iconst C (v := 0) dX10_isUsable_91 (by decide) ?_
            exact hk92 0 m91_ h
          refine r_if_eq C (tgt := 91) dX10_isUsable_59 (by decide) h (fun _ h => ?_) (fun _ h => ?_)
          · skip
            refine r_sub C [1, 0] (show _ = [(0, .ref (ad 110)), (2, .int r13)] from rfl) ?_
            exact hk91 m16 h
          · skip
            refine r_aload_n C dX10_isUsable_62 rfl 1 rfl ?_
            refine r_iload_n C dX10_isUsable_63 rfl 0 rfl ?_
            refine r_iconst C (v := 0) dX10_isUsable_64 (by decide) ?_
            refine r_callV C (c_X10_at nw hnw r13 0) (As := [.int r13, .int 0]) (nn := 2) (stk := [.int 0, .int r13, .ref (ad 110)]) (ci := 10) dX10_isUsable_65 gX10_isUsable_X10_at ⟨rfl, by decide, by decide, by decide +kernel⟩ (by omega) la_110 rfl rfl rfl (by decide) rfl rfl (Nat.le_of_ble_eq_true rfl) (by decide) h (fun r27 m28 h => ?_)
            show V 0 68 [(2, .int r13), (0, .ref (ad 110)), (1, .int p1)] [.int r27] m28
            refine r_iconst C (v := 2) dX10_isUsable_68 (by decide) ?_
            refine r_icmp_ne C (tgt := 91) dX10_isUsable_69 (by decide) h (fun _ h => ?_) (fun _ h => ?_)
            · skip
              refine r_aload_n C dX10_isUsable_72 rfl 1 rfl ?_
              refine r_iload_n C dX10_isUsable_73 rfl 0 rfl ?_
              refine r_iconst C (v := 1) dX10_isUsable_74 (by decide) ?_
              refine r_callV C (c_X10_at nw hnw r13 1) (As := [.int r13, .int 1]) (nn := 2) (stk := [.int 1, .int r13, .ref (ad 110)]) (ci := 10) dX10_isUsable_75 gX10_isUsable_X10_at ⟨rfl, by decide, by decide, by decide +kernel⟩ (by omega) la_110 rfl rfl rfl (by decide) rfl rfl (Nat.le_of_ble_eq_true rfl) (by decide) h (fun r29 m30 h => ?_)
              show V 0 78 [(2, .int r13), (0, .ref (ad 110)), (1, .int p1)] [.int r29] m30
              refine r_aload_n C dX10_isUsable_78 rfl 1 rfl ?_
              refine r_iload_n C dX10_isUsable_79 rfl 2 rfl ?_
              refine r_iconst C (v := 1) dX10_isUsable_80 (by decide) ?_
              refine r_callV C (c_X10_at nw hnw p1 1) (As := [.int p1, .int 1]) (nn := 2) (stk := [.int 1, .int p1, .ref (ad 110), .int r29]) (ci := 10) dX10_isUsable_81 gX10_isUsable_X10_at ⟨rfl, by decide, by decide, by decide +kernel⟩ (by omega) la_110 rfl rfl rfl (by decide) rfl rfl (Nat.le_of_ble_eq_true rfl) (by decide) h (fun r31 m32 h => ?_)
              show V 0 84 [(2, .int r13), (0, .ref (ad 110)), (1, .int p1)] [.int r31, .int r29] m32
              refine r_icmp_ne C (tgt := 91) dX10_isUsable_84 (by decide) h (fun _ h => ?_) (fun _ h => ?_)
              · skip
                refine r_iconst C (v := 1) dX10_isUsable_87 (by decide) ?_
                refine r_goto C (tgt := 92) dX10_isUsable_88 (by decide) ?_
                refine r_sub C [1, 0] (show _ = [(0, .ref (ad 110)), (2, .int r13)] from rfl) ?_
                exact hk92 1 m32 h
              · skip
                refine r_sub C [1, 0] (show _ = [(0, .ref (ad 110)), (2, .int r13)] from rfl) ?_
                exact hk91 m32 h
            · skip
              refine r_sub C [1, 0] (show _ = [(0, .ref (ad 110)), (2, .int r13)] from rfl) ?_
              exact hk91 m28 h
    · skip
      refine r_sub C [] (show _ = [] from rfl) ?_
      exact hk45 m4 h
noncomputable def f_X10_reopen_L168 (y4_168 : Int32) (y5_168 : Int32) (e252_168 : sM → Option (sR Int32)) : Nat → Int32 → sM → Option (sR Int32)
  | 0, _, _ => none
  | n + 1, x6_168, m168_ =>
    if 8 ≤ x6_168 then (e252_168  m168_) else (s_jn (fun (s0_213 : Int32) (m213_ : sM) => s_ix (y4_168 + (8 * x6_168)) 192 fun j29 => s_md (s_up m213_ 115 j29 (vp_nar .boolean s0_213)) fun m30 => s_jn (fun (s0_245 : Int32) (m245_ : sM) => s_ix (y4_168 + (8 * x6_168)) 192 fun j31 => s_md (s_up m245_ 116 j31 s0_245) fun m32 => f_X10_reopen_L168 y4_168 y5_168 e252_168 n (x6_168 + 1) m32) fun k245 => if y5_168 < 0 then (k245 0 m30) else (s_bd (f_X10_at y5_168 (4 + x6_168) m30) fun r33 m34 => k245 r33 m34)) fun k213 => s_jn (fun (m212_ : sM) => k213 0 m212_) fun k212 => if y5_168 < 0 then (k212  m168_) else (s_bd (f_X10_at y5_168 3 m168_) fun r35 m36 => if ((r35 >>> (x6_168 &&& 31)) &&& 1) = 1 then (k213 1 m36) else (k212  m36)))
noncomputable def f_X10_reopen_L133 (e258_133 : sM → Option (sR Int32)) : Nat → Int32 → sM → Option (sR Int32)
  | 0, _, _ => none
  | n + 1, x4_133, m133_ =>
    if 8 ≤ x4_133 then (e258_133  m133_) else (s_ix 0 3 fun j24 => s_bd (f_X10_at (m133_.1 113 j24) (4 + x4_133) m133_) fun r25 m26 => s_ix x4_133 24 fun j27 => s_md (s_up m26 114 j27 r25) fun m28 => s_jn (fun (m252_ : sM) => f_X10_reopen_L133 e258_133 n (x4_133 + 1) m252_) fun e252_168 => f_X10_reopen_L168 x4_133 r25 e252_168 5000 0 m28)
noncomputable def f_X10_reopen (m : sM) : Option (sR Int32) :=
  s_md (s_up m 110 0 0) fun m1 => s_bd (f_X10_restart m1) fun r2 m3 => s_bd (f_X10_isUsable 0 m3) fun r4 m5 => s_bd (f_X10_isUsable 1 m5) fun r6 m7 => s_jn (fun (s0_35 : Int32) => s_gd (s0_35 = 0 ∨ s0_35 = 1) (s_md (s_up m7 110 2 s0_35) fun m8 => s_jn (fun (s0_54 : Int32) => s_ix s0_54 8 fun j9 => s_ix s0_54 8 fun j10 => s_md (s_up m8 130 j10 ((m8.1 130 j9) + 1)) fun m11 => if (m11.1 110 2) = 0 then (s_bd (f_X10_fails 1 m11) fun r12 m13 => some (.inl r12, m13)) else (s_jn (fun (s0_100 : Int32) (m100_ : sM) => s_md (s_up m100_ 110 3 s0_100) fun m14 => s_bd (f_X10_at s0_100 1 m14) fun r15 m16 => s_ix 0 3 fun j17 => s_md (s_up m16 112 j17 r15) fun m18 => s_bd (f_X10_at s0_100 2 m18) fun r19 m20 => s_ix 0 3 fun j21 => s_md (s_up m20 113 j21 r19) fun m22 => s_jn (fun (m258_ : sM) => s_ix 0 3 fun j23 => some (.inl (m258_.1 112 j23), m258_)) fun e258_133 => f_X10_reopen_L133 e258_133 5000 0 m22) fun k100 => s_jn (fun (m95_ : sM) => k100 1 m95_) fun k95 => if r4 = 0 then (k95  m11) else (s_jn (fun (m99_ : sM) => k100 0 m99_) fun k99 => if r6 = 0 then (k99  m11) else (s_bd (f_X10_at 1 1 m11) fun r37 m38 => s_bd (f_X10_at 0 1 m38) fun r39 m40 => if r37 ≤ r39 then (k99  m40) else (k95  m40))))) fun k54 => if (m8.1 110 2) = 0 then (k54 5) else (k54 4))) fun k35 => s_jn (k35 1) fun k30 => if r4 = 0 then (if r6 = 0 then (k35 0) else (k30)) else (k30)
set_option maxRecDepth 20000 in
set_option maxHeartbeats 4000000 in
theorem c_X10_reopen (nw : Nat) (hnw : 29 ≤ nw) : s_Con s_i 110 nw yX10_reopen wsX10_reopen 20 320 0 (f_X10_reopen) (fun ad => [.ref (ad 110)]) := by
  refine s_con_of cX10_reopen 7 (some .int) RX10 (by decide) rfl rfl (fun _ => Nat.le_of_ble_eq_true rfl) (fun ad m res V C h => ?_)
  unfold f_X10_reopen at h
  have F_i10 : ∀ w ∈ wsX100, w ∈ wsX10_reopen := by decide +kernel
  have F_k100 : Cond.fieldLink RX10 100 "ShadowFileModel" "thrown" "I" ∈ wsX10_reopen := by decide +kernel
  have F_k116 : Cond.fieldLink RX10 116 "ShadowFileModel" "isOpen" "Z" ∈ wsX10_reopen := by decide +kernel
  have F_k69 : Cond.fieldLink RX10 69 "ShadowFileModel" "statistics" "[I" ∈ wsX10_reopen := by decide +kernel
  have F_k127 : Cond.fieldLink RX10 127 "ShadowFileModel" "rootBlock" "I" ∈ wsX10_reopen := by decide +kernel
  have F_k13 : Cond.fieldLink RX10 13 "ShadowFileModel" "number" "[I" ∈ wsX10_reopen := by decide +kernel
  have F_k16 : Cond.fieldLink RX10 16 "ShadowFileModel" "tableOf" "[I" ∈ wsX10_reopen := by decide +kernel
  have F_k19 : Cond.fieldLink RX10 19 "ShadowFileModel" "pageOf" "[I" ∈ wsX10_reopen := by decide +kernel
  have F_k22 : Cond.fieldLink RX10 22 "ShadowFileModel" "has" "[Z" ∈ wsX10_reopen := by decide +kernel
  have F_k26 : Cond.fieldLink RX10 26 "ShadowFileModel" "values" "[I" ∈ wsX10_reopen := by decide +kernel
  show V 0 0 [(0, .ref (ad 110))] [] m
  refine r_aload_n C dX10_reopen_0 rfl 0 rfl ?_
  refine r_iconst C (v := 0) dX10_reopen_1 (by decide) ?_
  refine r_puti C (ci := 10) (k9 := 0) dX10_reopen_2 rfl F_i10 (by decide) F_k100 (by omega) la_110 rfl tyX10 tyX10_ok nmX10 rfl (tyX10_ok 0 (by decide)) rfl rfl h (fun m1 _ h => ?_)
  refine r_aload_n C dX10_reopen_5 rfl 0 rfl ?_
  refine r_callV C (c_X10_restart nw hnw) (As := []) (nn := 0) (stk := [.ref (ad 110)]) (ci := 10) dX10_reopen_6 gX10_reopen_X10_restart ⟨rfl, by decide, by decide, by decide +kernel⟩ (by omega) la_110 rfl rfl rfl (by decide) rfl rfl (Nat.le_of_ble_eq_true rfl) (by decide) h (fun r2 m3 h => ?_)
  show V 0 9 [(0, .ref (ad 110))] [] m3
  refine r_aload_n C dX10_reopen_9 rfl 0 rfl ?_
  refine r_iconst C (v := 0) dX10_reopen_10 (by decide) ?_
  refine r_callV C (c_X10_isUsable nw hnw 0) (As := [.int 0]) (nn := 1) (stk := [.int 0, .ref (ad 110)]) (ci := 10) dX10_reopen_11 gX10_reopen_X10_isUsable ⟨rfl, by decide, by decide, by decide +kernel⟩ (by omega) la_110 rfl rfl rfl (by decide) rfl rfl (Nat.le_of_ble_eq_true rfl) (by decide) h (fun r4 m5 h => ?_)
  show V 0 14 [(0, .ref (ad 110))] [.int r4] m5
  refine r_istore_n C dX10_reopen_14 rfl (by decide) (show _ = [(1, .int r4), (0, .ref (ad 110))] from rfl) ?_
  refine r_aload_n C dX10_reopen_15 rfl 1 rfl ?_
  refine r_iconst C (v := 1) dX10_reopen_16 (by decide) ?_
  refine r_callV C (c_X10_isUsable nw hnw 1) (As := [.int 1]) (nn := 1) (stk := [.int 1, .ref (ad 110)]) (ci := 10) dX10_reopen_17 gX10_reopen_X10_isUsable ⟨rfl, by decide, by decide, by decide +kernel⟩ (by omega) la_110 rfl rfl rfl (by decide) rfl rfl (Nat.le_of_ble_eq_true rfl) (by decide) h (fun r6 m7 h => ?_)
  show V 0 20 [(1, .int r4), (0, .ref (ad 110))] [.int r6] m7
  refine r_istore_n C dX10_reopen_20 rfl (by decide) (show _ = [(2, .int r6), (1, .int r4), (0, .ref (ad 110))] from rfl) ?_
  refine r_aload_n C dX10_reopen_21 rfl 2 rfl ?_
  refine r_iload_n C dX10_reopen_22 rfl 1 rfl ?_
  refine s_join h (fun k35 => ∀ (s0_35 : Int32), k35 s0_35 = some res → V 0 35 [(0, .ref (ad 110)), (1, .int r4), (2, .int r6)] [.int s0_35, .ref (ad 110)] m7) ?_ (fun k35 hk35 h => ?_)
  · intro s0_35 h
    obtain ⟨hg, h⟩ := s_gd_of h
    refine r_puti C (ci := 10) (k9 := 2) dX10_reopen_35 rfl F_i10 (by decide) F_k116 (by omega) la_110 rfl tyX10 tyX10_ok nmX10 rfl (tyX10_ok 2 (by decide)) (s_z hg) (s_zf hg) h (fun m8 _ h => ?_)
    refine r_aload_n C dX10_reopen_38 rfl 0 rfl ?_
    refine r_getr C (ci := 10) (k9 := 26) dX10_reopen_39 rfl F_i10 (by decide) F_k69 (by omega) la_110 rfl ?_
    refine r_aload_n C dX10_reopen_42 rfl 0 rfl ?_
    refine r_geti C (ci := 10) (k9 := 2) dX10_reopen_43 rfl F_i10 (by decide) F_k116 (by omega) la_110 rfl ?_
    refine s_join h (fun k54 => ∀ (s0_54 : Int32), k54 s0_54 = some res → V 0 54 [(0, .ref (ad 110)), (1, .int r4), (2, .int r6)] [.int s0_54, .ref (ad 130)] m8) ?_ (fun k54 hk54 h => ?_)
    · intro s0_54 h
      refine r_dup2 C dX10_reopen_54 rfl rfl ?_
      refine r_iald C dX10_reopen_55 (by omega) la_130 h (fun j9 hj9 h => ?_)
      refine r_iconst C (v := 1) dX10_reopen_56 (by decide) ?_
      refine r_iadd C dX10_reopen_57 ?_
      refine r_iast C dX10_reopen_58 (by omega) la_130 h (fun j10 m11 hj10 _ h => ?_)
      refine r_aload_n C dX10_reopen_59 rfl 0 rfl ?_
      refine r_geti C (ci := 10) (k9 := 2) dX10_reopen_60 rfl F_i10 (by decide) F_k116 (by omega) la_110 rfl ?_
      refine r_if_ne C (tgt := 72) dX10_reopen_63 (by decide) h (fun _ h => ?_) (fun _ h => ?_)
      · skip
        refine r_aload_n C dX10_reopen_66 rfl 0 rfl ?_
        refine r_iconst C (v := 1) dX10_reopen_67 (by decide) ?_
        refine r_callV C (c_X10_fails nw hnw 1) (As := [.int 1]) (nn := 1) (stk := [.int 1, .ref (ad 110)]) (ci := 10) dX10_reopen_68 gX10_reopen_X10_fails ⟨rfl, by decide, by decide, by decide +kernel⟩ (by omega) la_110 rfl rfl rfl (by decide) rfl rfl (Nat.le_of_ble_eq_true rfl) (by decide) h (fun r12 m13 h => ?_)
        show V 0 71 [(0, .ref (ad 110)), (1, .int r4), (2, .int r6)] [.int r12] m13
        exact r_iret C dX10_reopen_71 rfl h
      · skip
        refine r_iload_n C dX10_reopen_72 rfl 1 rfl ?_
        refine s_join h (fun k100 => ∀ (s0_100 : Int32) (m100_ : sM), k100 s0_100 m100_ = some res → V 0 100 [(0, .ref (ad 110))] [.int s0_100] m100_) ?_ (fun k100 hk100 h => ?_)
        · intro s0_100 m100_ h
          refine r_istore_n C dX10_reopen_100 rfl (by decide) (show _ = [(3, .int s0_100), (0, .ref (ad 110))] from rfl) ?_
          refine r_aload_n C dX10_reopen_101 rfl 1 rfl ?_
          refine r_iload_n C dX10_reopen_102 rfl 0 rfl ?_
          refine r_puti C (ci := 10) (k9 := 3) dX10_reopen_103 rfl F_i10 (by decide) F_k127 (by omega) la_110 rfl tyX10 tyX10_ok nmX10 rfl (tyX10_ok 3 (by decide)) rfl rfl h (fun m14 _ h => ?_)
          refine r_aload_n C dX10_reopen_106 rfl 1 rfl ?_
          refine r_getr C (ci := 10) (k9 := 4) dX10_reopen_107 rfl F_i10 (by decide) F_k13 (by omega) la_110 rfl ?_
          refine r_iconst C (v := 0) dX10_reopen_110 (by decide) ?_
          refine r_aload_n C dX10_reopen_111 rfl 1 rfl ?_
          refine r_iload_n C dX10_reopen_112 rfl 0 rfl ?_
          refine r_iconst C (v := 1) dX10_reopen_113 (by decide) ?_
          refine r_callV C (c_X10_at nw hnw s0_100 1) (As := [.int s0_100, .int 1]) (nn := 2) (stk := [.int 1, .int s0_100, .ref (ad 110), .int 0, .ref (ad 112)]) (ci := 10) dX10_reopen_114 gX10_reopen_X10_at ⟨rfl, by decide, by decide, by decide +kernel⟩ (by omega) la_110 rfl rfl rfl (by decide) rfl rfl (Nat.le_of_ble_eq_true rfl) (by decide) h (fun r15 m16 h => ?_)
          show V 0 117 [(3, .int s0_100), (0, .ref (ad 110))] [.int r15, .int 0, .ref (ad 112)] m16
          refine r_iast C dX10_reopen_117 (by omega) la_112 h (fun j17 m18 hj17 _ h => ?_)
          refine r_aload_n C dX10_reopen_118 rfl 1 rfl ?_
          refine r_getr C (ci := 10) (k9 := 5) dX10_reopen_119 rfl F_i10 (by decide) F_k16 (by omega) la_110 rfl ?_
          refine r_iconst C (v := 0) dX10_reopen_122 (by decide) ?_
          refine r_aload_n C dX10_reopen_123 rfl 1 rfl ?_
          refine r_iload_n C dX10_reopen_124 rfl 0 rfl ?_
          refine r_iconst C (v := 2) dX10_reopen_125 (by decide) ?_
          refine r_callV C (c_X10_at nw hnw s0_100 2) (As := [.int s0_100, .int 2]) (nn := 2) (stk := [.int 2, .int s0_100, .ref (ad 110), .int 0, .ref (ad 113)]) (ci := 10) dX10_reopen_126 gX10_reopen_X10_at ⟨rfl, by decide, by decide, by decide +kernel⟩ (by omega) la_110 rfl rfl rfl (by decide) rfl rfl (Nat.le_of_ble_eq_true rfl) (by decide) h (fun r19 m20 h => ?_)
          show V 0 129 [(3, .int s0_100), (0, .ref (ad 110))] [.int r19, .int 0, .ref (ad 113)] m20
          refine r_iast C dX10_reopen_129 (by omega) la_113 h (fun j21 m22 hj21 _ h => ?_)
          refine r_iconst C (v := 0) dX10_reopen_130 (by decide) ?_
          refine r_istore C dX10_reopen_131 (by decide) (show _ = [(4, .int 0), (3, .int s0_100), (0, .ref (ad 110))] from rfl) ?_
          refine s_join h (fun e258_133 => ∀ (m258_ : sM), e258_133 m258_ = some res → V 0 258 [(0, .ref (ad 110))] [] m258_) ?_ (fun e258_133 he258_133 h => ?_)
          · intro m258_ h
            refine r_aload_n C dX10_reopen_258 rfl 0 rfl ?_
            refine r_getr C (ci := 10) (k9 := 4) dX10_reopen_259 rfl F_i10 (by decide) F_k13 (by omega) la_110 rfl ?_
            refine r_iconst C (v := 0) dX10_reopen_262 (by decide) ?_
            refine r_iald C dX10_reopen_263 (by omega) la_112 h (fun j23 hj23 h => ?_)
            exact r_iret C dX10_reopen_264 rfl h
          have L133 : ∀ (n : Nat) (x4_133 : Int32) (m133_ : sM), f_X10_reopen_L133 e258_133 n x4_133 m133_ = some res → V 0 133 [(0, .ref (ad 110)), (4, .int x4_133)] [] m133_ := by
            intro n
            induction n with
            | zero => intro x4_133 m133_ h; rw [f_X10_reopen_L133] at h; cases h
            | succ n ih =>
              intro x4_133 m133_ h
              rw [f_X10_reopen_L133] at h
              refine r_iload C dX10_reopen_133 1 rfl ?_
              refine r_bipush C (v := 8) dX10_reopen_135 (by decide) ?_
              refine r_icmp_ge C (tgt := 258) dX10_reopen_137 (by decide) h (fun _ h => ?_) (fun _ h => ?_)
              · skip
                refine r_sub C [0] (show _ = [(0, .ref (ad 110))] from rfl) ?_
                exact he258_133 m133_ h
              · skip
                refine r_aload_n C dX10_reopen_140 rfl 0 rfl ?_
                refine r_aload_n C dX10_reopen_141 rfl 0 rfl ?_
                refine r_getr C (ci := 10) (k9 := 5) dX10_reopen_142 rfl F_i10 (by decide) F_k16 (by omega) la_110 rfl ?_
                refine r_iconst C (v := 0) dX10_reopen_145 (by decide) ?_
                refine r_iald C dX10_reopen_146 (by omega) la_113 h (fun j24 hj24 h => ?_)
                refine r_iconst C (v := 4) dX10_reopen_147 (by decide) ?_
                refine r_iload C dX10_reopen_148 1 rfl ?_
                refine r_iadd C dX10_reopen_150 ?_
                refine r_callV C (c_X10_at nw hnw (m133_.1 113 j24) (4 + x4_133)) (As := [.int (m133_.1 113 j24), .int (4 + x4_133)]) (nn := 2) (stk := [.int (4 + x4_133), .int (m133_.1 113 j24), .ref (ad 110)]) (ci := 10) dX10_reopen_151 gX10_reopen_X10_at ⟨rfl, by decide, by decide, by decide +kernel⟩ (by omega) la_110 rfl rfl rfl (by decide) rfl rfl (Nat.le_of_ble_eq_true rfl) (by decide) h (fun r25 m26 h => ?_)
                show V 0 154 [(0, .ref (ad 110)), (4, .int x4_133)] [.int r25] m26
                refine r_istore C dX10_reopen_154 (by decide) (show _ = [(5, .int r25), (0, .ref (ad 110)), (4, .int x4_133)] from rfl) ?_
                refine r_aload_n C dX10_reopen_156 rfl 1 rfl ?_
                refine r_getr C (ci := 10) (k9 := 6) dX10_reopen_157 rfl F_i10 (by decide) F_k19 (by omega) la_110 rfl ?_
                refine r_iload C dX10_reopen_160 2 rfl ?_
                refine r_iload C dX10_reopen_162 0 rfl ?_
                refine r_iast C dX10_reopen_164 (by omega) la_114 h (fun j27 m28 hj27 _ h => ?_)
                refine r_iconst C (v := 0) dX10_reopen_165 (by decide) ?_
                refine r_istore C dX10_reopen_166 (by decide) (show _ = [(6, .int 0), (5, .int r25), (0, .ref (ad 110)), (4, .int x4_133)] from rfl) ?_
                refine s_join h (fun e252_168 => ∀ (m252_ : sM), e252_168 m252_ = some res → V 0 252 [(0, .ref (ad 110)), (4, .int x4_133)] [] m252_) ?_ (fun e252_168 he252_168 h => ?_)
                · intro m252_ h
                  refine r_iinc C (v := x4_133 + 1) dX10_reopen_252 1 rfl rfl (by decide) (show _ = [(4, .int (x4_133 + 1)), (0, .ref (ad 110))] from rfl) ?_
                  refine r_goto C (tgt := 133) dX10_reopen_255 (by decide) ?_
                  refine r_sub C [1, 0] (show _ = [(0, .ref (ad 110)), (4, .int (x4_133 + 1))] from rfl) ?_
                  exact ih (x4_133 + 1) m252_ h
                have L168 : ∀ (n : Nat) (x6_168 : Int32) (m168_ : sM), f_X10_reopen_L168 x4_133 r25 e252_168 n x6_168 m168_ = some res → V 0 168 [(0, .ref (ad 110)), (4, .int x4_133), (5, .int r25), (6, .int x6_168)] [] m168_ := by
                  intro n
                  induction n with
                  | zero => intro x6_168 m168_ h; rw [f_X10_reopen_L168] at h; cases h
                  | succ n ih =>
                    intro x6_168 m168_ h
                    rw [f_X10_reopen_L168] at h
                    refine r_iload C dX10_reopen_168 3 rfl ?_
                    refine r_bipush C (v := 8) dX10_reopen_170 (by decide) ?_
                    refine r_icmp_ge C (tgt := 252) dX10_reopen_172 (by decide) h (fun _ h => ?_) (fun _ h => ?_)
                    · skip
                      refine r_sub C [0, 1] (show _ = [(0, .ref (ad 110)), (4, .int x4_133)] from rfl) ?_
                      exact he252_168 m168_ h
                    · skip
                      refine r_aload_n C dX10_reopen_175 rfl 0 rfl ?_
                      refine r_getr C (ci := 10) (k9 := 7) dX10_reopen_176 rfl F_i10 (by decide) F_k22 (by omega) la_110 rfl ?_
                      refine r_iload C dX10_reopen_179 1 rfl ?_
                      refine r_bipush C (v := 8) dX10_reopen_181 (by decide) ?_
                      refine r_iload C dX10_reopen_183 3 rfl ?_
                      refine r_imul C dX10_reopen_185 ?_
                      refine r_iadd C dX10_reopen_186 ?_
                      refine r_iload C dX10_reopen_187 2 rfl ?_
                      refine s_join h (fun k213 => ∀ (s0_213 : Int32) (m213_ : sM), k213 s0_213 m213_ = some res → V 0 213 [(0, .ref (ad 110)), (4, .int x4_133), (5, .int r25), (6, .int x6_168)] [.int s0_213, .int (x4_133 + (8 * x6_168)), .ref (ad 115)] m213_) ?_ (fun k213 hk213 h => ?_)
                      · intro s0_213 m213_ h
                        refine r_zast C dX10_reopen_213 (by omega) la_115 h (fun j29 m30 hj29 _ h => ?_)
                        refine r_aload_n C dX10_reopen_214 rfl 0 rfl ?_
                        refine r_getr C (ci := 10) (k9 := 8) dX10_reopen_215 rfl F_i10 (by decide) F_k26 (by omega) la_110 rfl ?_
                        refine r_iload C dX10_reopen_218 1 rfl ?_
                        refine r_bipush C (v := 8) dX10_reopen_220 (by decide) ?_
                        refine r_iload C dX10_reopen_222 3 rfl ?_
                        refine r_imul C dX10_reopen_224 ?_
                        refine r_iadd C dX10_reopen_225 ?_
                        refine r_iload C dX10_reopen_226 2 rfl ?_
                        refine s_join h (fun k245 => ∀ (s0_245 : Int32) (m245_ : sM), k245 s0_245 m245_ = some res → V 0 245 [(0, .ref (ad 110)), (4, .int x4_133), (5, .int r25), (6, .int x6_168)] [.int s0_245, .int (x4_133 + (8 * x6_168)), .ref (ad 116)] m245_) ?_ (fun k245 hk245 h => ?_)
                        · intro s0_245 m245_ h
                          refine r_iast C dX10_reopen_245 (by omega) la_116 h (fun j31 m32 hj31 _ h => ?_)
                          refine r_iinc C (v := x6_168 + 1) dX10_reopen_246 3 rfl rfl (by decide) (show _ = [(6, .int (x6_168 + 1)), (0, .ref (ad 110)), (4, .int x4_133), (5, .int r25)] from rfl) ?_
                          refine r_goto C (tgt := 168) dX10_reopen_249 (by decide) ?_
                          refine r_sub C [1, 2, 3, 0] (show _ = [(0, .ref (ad 110)), (4, .int x4_133), (5, .int r25), (6, .int (x6_168 + 1))] from rfl) ?_
                          exact ih (x6_168 + 1) m32 h
                        refine r_if_lt C (tgt := 244) dX10_reopen_228 (by decide) h (fun _ h => ?_) (fun _ h => ?_)
                        · skip
                          refine r_iconst C (v := 0) dX10_reopen_244 (by decide) ?_
                          exact hk245 0 m30 h
                        · skip
                          refine r_aload_n C dX10_reopen_231 rfl 0 rfl ?_
                          refine r_iload C dX10_reopen_232 2 rfl ?_
                          refine r_iconst C (v := 4) dX10_reopen_234 (by decide) ?_
                          refine r_iload C dX10_reopen_235 3 rfl ?_
                          refine r_iadd C dX10_reopen_237 ?_
                          refine r_callV C (c_X10_at nw hnw r25 (4 + x6_168)) (As := [.int r25, .int (4 + x6_168)]) (nn := 2) (stk := [.int (4 + x6_168), .int r25, .ref (ad 110), .int (x4_133 + (8 * x6_168)), .ref (ad 116)]) (ci := 10) dX10_reopen_238 gX10_reopen_X10_at ⟨rfl, by decide, by decide, by decide +kernel⟩ (by omega) la_110 rfl rfl rfl (by decide) rfl rfl (Nat.le_of_ble_eq_true rfl) (by decide) h (fun r33 m34 h => ?_)
                          show V 0 241 [(0, .ref (ad 110)), (4, .int x4_133), (5, .int r25), (6, .int x6_168)] [.int r33, .int (x4_133 + (8 * x6_168)), .ref (ad 116)] m34
                          refine r_goto C (tgt := 245) dX10_reopen_241 (by decide) ?_
                          exact hk245 r33 m34 h
                      refine s_join h (fun k212 => ∀ (m212_ : sM), k212 m212_ = some res → V 0 212 [(0, .ref (ad 110)), (4, .int x4_133), (5, .int r25), (6, .int x6_168)] [.int (x4_133 + (8 * x6_168)), .ref (ad 115)] m212_) ?_ (fun k212 hk212 h => ?_)
                      · intro m212_ h
                        refine r_iconst C (v := 0) dX10_reopen_212 (by decide) ?_
                        exact hk213 0 m212_ h
                      refine r_if_lt C (tgt := 212) dX10_reopen_189 (by decide) h (fun _ h => ?_) (fun _ h => ?_)
                      · skip
                        exact hk212 m168_ h
                      · skip
                        refine r_aload_n C dX10_reopen_192 rfl 0 rfl ?_
                        refine r_iload C dX10_reopen_193 2 rfl ?_
                        refine r_iconst C (v := 3) dX10_reopen_195 (by decide) ?_
                        refine r_callV C (c_X10_at nw hnw r25 3) (As := [.int r25, .int 3]) (nn := 2) (stk := [.int 3, .int r25, .ref (ad 110), .int (x4_133 + (8 * x6_168)), .ref (ad 115)]) (ci := 10) dX10_reopen_196 gX10_reopen_X10_at ⟨rfl, by decide, by decide, by decide +kernel⟩ (by omega) la_110 rfl rfl rfl (by decide) rfl rfl (Nat.le_of_ble_eq_true rfl) (by decide) h (fun r35 m36 h => ?_)
                        show V 0 199 [(0, .ref (ad 110)), (4, .int x4_133), (5, .int r25), (6, .int x6_168)] [.int r35, .int (x4_133 + (8 * x6_168)), .ref (ad 115)] m36
                        refine r_iload C dX10_reopen_199 3 rfl ?_
                        refine r_ishr C dX10_reopen_201 ?_
                        refine r_iconst C (v := 1) dX10_reopen_202 (by decide) ?_
                        refine r_iand C dX10_reopen_203 ?_
                        refine r_iconst C (v := 1) dX10_reopen_204 (by decide) ?_
                        refine r_icmp_ne C (tgt := 212) dX10_reopen_205 (by decide) h (fun _ h => ?_) (fun _ h => ?_)
                        · skip
                          refine r_iconst C (v := 1) dX10_reopen_208 (by decide) ?_
                          refine r_goto C (tgt := 213) dX10_reopen_209 (by decide) ?_
                          exact hk213 1 m36 h
                        · skip
                          exact hk212 m36 h
                refine r_sub C [2, 3, 1, 0] (show _ = [(0, .ref (ad 110)), (4, .int x4_133), (5, .int r25), (6, .int 0)] from rfl) ?_
                exact L168 5000 0 m28 h
          refine r_sub C [2, 0] (show _ = [(0, .ref (ad 110)), (4, .int 0)] from rfl) ?_
          exact L133 5000 0 m22 h
        refine s_join h (fun k95 => ∀ (m95_ : sM), k95 m95_ = some res → V 0 95 [(0, .ref (ad 110))] [] m95_) ?_ (fun k95 hk95 h => ?_)
        · intro m95_ h
          refine r_iconst C (v := 1) dX10_reopen_95 (by decide) ?_
          refine r_goto C (tgt := 100) dX10_reopen_96 (by decide) ?_
          exact hk100 1 m95_ h
        refine r_if_eq C (tgt := 95) dX10_reopen_73 (by decide) h (fun _ h => ?_) (fun _ h => ?_)
        · skip
          refine r_sub C [0] (show _ = [(0, .ref (ad 110))] from rfl) ?_
          exact hk95 m11 h
        · skip
          refine r_iload_n C dX10_reopen_76 rfl 2 rfl ?_
          refine s_join h (fun k99 => ∀ (m99_ : sM), k99 m99_ = some res → V 0 99 [(0, .ref (ad 110))] [] m99_) ?_ (fun k99 hk99 h => ?_)
          · intro m99_ h
            refine r_iconst C (v := 0) dX10_reopen_99 (by decide) ?_
            exact hk100 0 m99_ h
          refine r_if_eq C (tgt := 99) dX10_reopen_77 (by decide) h (fun _ h => ?_) (fun _ h => ?_)
          · skip
            refine r_sub C [0] (show _ = [(0, .ref (ad 110))] from rfl) ?_
            exact hk99 m11 h
          · skip
            refine r_aload_n C dX10_reopen_80 rfl 0 rfl ?_
            refine r_iconst C (v := 1) dX10_reopen_81 (by decide) ?_
            refine r_iconst C (v := 1) dX10_reopen_82 (by decide) ?_
            refine r_callV C (c_X10_at nw hnw 1 1) (As := [.int 1, .int 1]) (nn := 2) (stk := [.int 1, .int 1, .ref (ad 110)]) (ci := 10) dX10_reopen_83 gX10_reopen_X10_at ⟨rfl, by decide, by decide, by decide +kernel⟩ (by omega) la_110 rfl rfl rfl (by decide) rfl rfl (Nat.le_of_ble_eq_true rfl) (by decide) h (fun r37 m38 h => ?_)
            show V 0 86 [(0, .ref (ad 110)), (1, .int r4), (2, .int r6)] [.int r37] m38
            refine r_aload_n C dX10_reopen_86 rfl 0 rfl ?_
            refine r_iconst C (v := 0) dX10_reopen_87 (by decide) ?_
            refine r_iconst C (v := 1) dX10_reopen_88 (by decide) ?_
            refine r_callV C (c_X10_at nw hnw 0 1) (As := [.int 0, .int 1]) (nn := 2) (stk := [.int 1, .int 0, .ref (ad 110), .int r37]) (ci := 10) dX10_reopen_89 gX10_reopen_X10_at ⟨rfl, by decide, by decide, by decide +kernel⟩ (by omega) la_110 rfl rfl rfl (by decide) rfl rfl (Nat.le_of_ble_eq_true rfl) (by decide) h (fun r39 m40 h => ?_)
            show V 0 92 [(0, .ref (ad 110)), (1, .int r4), (2, .int r6)] [.int r39, .int r37] m40
            refine r_icmp_le C (tgt := 99) dX10_reopen_92 (by decide) h (fun _ h => ?_) (fun _ h => ?_)
            · skip
              refine r_sub C [0] (show _ = [(0, .ref (ad 110))] from rfl) ?_
              exact hk99 m40 h
            · skip
              refine r_sub C [0] (show _ = [(0, .ref (ad 110))] from rfl) ?_
              exact hk95 m40 h
    refine r_if_eq C (tgt := 53) dX10_reopen_46 (by decide) h (fun _ h => ?_) (fun _ h => ?_)
    · skip
      refine r_iconst C (v := 5) dX10_reopen_53 (by decide) ?_
      exact hk54 5 h
    · skip
      refine r_iconst C (v := 4) dX10_reopen_49 (by decide) ?_
      refine r_goto C (tgt := 54) dX10_reopen_50 (by decide) ?_
      exact hk54 4 h
  refine s_join h (fun k30 => k30  = some res → V 0 30 [(0, .ref (ad 110)), (1, .int r4), (2, .int r6)] [.ref (ad 110)] m7) ?_ (fun k30 hk30 h => ?_)
  · intro  h
    refine r_iconst C (v := 1) dX10_reopen_30 (by decide) ?_
    refine r_goto C (tgt := 35) dX10_reopen_31 (by decide) ?_
    exact hk35 1 h
  refine r_if_ne C (tgt := 30) dX10_reopen_23 (by decide) h (fun _ h => ?_) (fun _ h => ?_)
  · skip
    refine r_iload_n C dX10_reopen_26 rfl 0 rfl ?_
    refine r_if_eq C (tgt := 34) dX10_reopen_27 (by decide) h (fun _ h => ?_) (fun _ h => ?_)
    · skip
      refine r_iconst C (v := 0) dX10_reopen_34 (by decide) ?_
      refine r_sub C [2, 1, 0] (show _ = [(0, .ref (ad 110)), (1, .int r4), (2, .int r6)] from rfl) ?_
      exact hk35 0 h
    · skip
      refine r_sub C [2, 1, 0] (show _ = [(0, .ref (ad 110)), (1, .int r4), (2, .int r6)] from rfl) ?_
      exact hk30 h
  · skip
    refine r_sub C [2, 1, 0] (show _ = [(0, .ref (ad 110)), (1, .int r4), (2, .int r6)] from rfl) ?_
    exact hk30 h
noncomputable def f_X10_isOpen (m : sM) : Option (sR Int32) :=
  s_md (s_up m 110 0 0) fun m1 => s_gd ((m1.1 110 2) = 0 ∨ (m1.1 110 2) = 1) (some (.inl (m1.1 110 2), m1))
set_option maxRecDepth 20000 in
set_option maxHeartbeats 4000000 in
theorem c_X10_isOpen (nw : Nat) (hnw : 29 ≤ nw) : s_Con s_i 110 nw yX10_isOpen wsX10_isOpen 12 140 0 (f_X10_isOpen) (fun ad => [.ref (ad 110)]) := by
  refine s_con_of cX10_isOpen 1 (some .boolean) RX10 (by decide) rfl rfl (fun _ => Nat.le_of_ble_eq_true rfl) (fun ad m res V C h => ?_)
  unfold f_X10_isOpen at h
  have F_i10 : ∀ w ∈ wsX100, w ∈ wsX10_isOpen := by decide +kernel
  have F_k100 : Cond.fieldLink RX10 100 "ShadowFileModel" "thrown" "I" ∈ wsX10_isOpen := by decide +kernel
  have F_k116 : Cond.fieldLink RX10 116 "ShadowFileModel" "isOpen" "Z" ∈ wsX10_isOpen := by decide +kernel
  show V 0 0 [(0, .ref (ad 110))] [] m
  refine r_aload_n C dX10_isOpen_0 rfl 0 rfl ?_
  refine r_iconst C (v := 0) dX10_isOpen_1 (by decide) ?_
  refine r_puti C (ci := 10) (k9 := 0) dX10_isOpen_2 rfl F_i10 (by decide) F_k100 (by omega) la_110 rfl tyX10 tyX10_ok nmX10 rfl (tyX10_ok 0 (by decide)) rfl rfl h (fun m1 _ h => ?_)
  refine r_aload_n C dX10_isOpen_5 rfl 0 rfl ?_
  refine r_geti C (ci := 10) (k9 := 2) dX10_isOpen_6 rfl F_i10 (by decide) F_k116 (by omega) la_110 rfl ?_
  obtain ⟨hg, h⟩ := s_gd_of h
  exact r_zret C dX10_isOpen_9 rfl (s_z hg) h
noncomputable def f_X10_commitNumber (m : sM) : Option (sR Int32) :=
  s_jn (fun (s0_13 : Int32) => s_md (s_up m 110 0 s0_13) fun m1 => s_jn (fun (s0_33 : Int32) => some (.inl s0_33, m1)) fun k33 => if (m1.1 110 0) ≤ 0 then (s_ix 0 3 fun j2 => k33 (m1.1 112 j2)) else (k33 0)) fun k13 => if (m.1 110 2) = 0 then (k13 1) else (k13 0)
set_option maxRecDepth 20000 in
set_option maxHeartbeats 4000000 in
theorem c_X10_commitNumber (nw : Nat) (hnw : 29 ≤ nw) : s_Con s_i 110 nw yX10_commitNumber wsX10_commitNumber 12 140 0 (f_X10_commitNumber) (fun ad => [.ref (ad 110)]) := by
  refine s_con_of cX10_commitNumber 1 (some .int) RX10 (by decide) rfl rfl (fun _ => Nat.le_of_ble_eq_true rfl) (fun ad m res V C h => ?_)
  unfold f_X10_commitNumber at h
  have F_i10 : ∀ w ∈ wsX100, w ∈ wsX10_commitNumber := by decide +kernel
  have F_k116 : Cond.fieldLink RX10 116 "ShadowFileModel" "isOpen" "Z" ∈ wsX10_commitNumber := by decide +kernel
  have F_k100 : Cond.fieldLink RX10 100 "ShadowFileModel" "thrown" "I" ∈ wsX10_commitNumber := by decide +kernel
  have F_k13 : Cond.fieldLink RX10 13 "ShadowFileModel" "number" "[I" ∈ wsX10_commitNumber := by decide +kernel
  show V 0 0 [(0, .ref (ad 110))] [] m
  refine r_aload_n C dX10_commitNumber_0 rfl 0 rfl ?_
  refine r_aload_n C dX10_commitNumber_1 rfl 0 rfl ?_
  refine r_geti C (ci := 10) (k9 := 2) dX10_commitNumber_2 rfl F_i10 (by decide) F_k116 (by omega) la_110 rfl ?_
  refine s_join h (fun k13 => ∀ (s0_13 : Int32), k13 s0_13 = some res → V 0 13 [(0, .ref (ad 110))] [.int s0_13, .ref (ad 110)] m) ?_ (fun k13 hk13 h => ?_)
  · intro s0_13 h
    refine r_puti C (ci := 10) (k9 := 0) dX10_commitNumber_13 rfl F_i10 (by decide) F_k100 (by omega) la_110 rfl tyX10 tyX10_ok nmX10 rfl (tyX10_ok 0 (by decide)) rfl rfl h (fun m1 _ h => ?_)
    refine r_aload_n C dX10_commitNumber_16 rfl 0 rfl ?_
    refine r_geti C (ci := 10) (k9 := 0) dX10_commitNumber_17 rfl F_i10 (by decide) F_k100 (by omega) la_110 rfl ?_
    refine s_join h (fun k33 => ∀ (s0_33 : Int32), k33 s0_33 = some res → V 0 33 [] [.int s0_33] m1) ?_ (fun k33 hk33 h => ?_)
    · intro s0_33 h
      exact r_iret C dX10_commitNumber_33 rfl h
    refine r_if_le C (tgt := 27) dX10_commitNumber_20 (by decide) h (fun _ h => ?_) (fun _ h => ?_)
    · skip
      refine r_aload_n C dX10_commitNumber_27 rfl 0 rfl ?_
      refine r_getr C (ci := 10) (k9 := 4) dX10_commitNumber_28 rfl F_i10 (by decide) F_k13 (by omega) la_110 rfl ?_
      refine r_iconst C (v := 0) dX10_commitNumber_31 (by decide) ?_
      refine r_iald C dX10_commitNumber_32 (by omega) la_112 h (fun j2 hj2 h => ?_)
      refine r_sub C [] (show _ = [] from rfl) ?_
      exact hk33 (m1.1 112 j2) h
    · skip
      refine r_iconst C (v := 0) dX10_commitNumber_23 (by decide) ?_
      refine r_goto C (tgt := 33) dX10_commitNumber_24 (by decide) ?_
      refine r_sub C [] (show _ = [] from rfl) ?_
      exact hk33 0 h
  refine r_if_eq C (tgt := 12) dX10_commitNumber_5 (by decide) h (fun _ h => ?_) (fun _ h => ?_)
  · skip
    refine r_iconst C (v := 1) dX10_commitNumber_12 (by decide) ?_
    exact hk13 1 h
  · skip
    refine r_iconst C (v := 0) dX10_commitNumber_8 (by decide) ?_
    refine r_goto C (tgt := 13) dX10_commitNumber_9 (by decide) ?_
    exact hk13 0 h
noncomputable def f_X10_size_L20 (m1 : sM) (e49_20 : Int32 → Option (sR Int32)) : Nat → Int32 → Int32 → Option (sR Int32)
  | 0, _, _ => none
  | n + 1, x1_20, x2_20 =>
    if 64 ≤ x2_20 then (e49_20 x1_20) else (s_ix x2_20 192 fun j2 => s_jn (fun (s0_41 : Int32) => f_X10_size_L20 m1 e49_20 n (x1_20 + s0_41) (x2_20 + 1)) fun k41 => if (m1.1 115 j2) = 0 then (k41 0) else (k41 1))
noncomputable def f_X10_size (m : sM) : Option (sR Int32) :=
  s_jn (fun (s0_13 : Int32) => s_md (s_up m 110 0 s0_13) fun m1 => s_jn (fun (x1_49 : Int32) => s_jn (fun (s0_61 : Int32) => some (.inl s0_61, m1)) fun k61 => if (m1.1 110 0) ≤ 0 then (k61 x1_49) else (k61 0)) fun e49_20 => f_X10_size_L20 m1 e49_20 5000 0 0) fun k13 => if (m.1 110 2) = 0 then (k13 1) else (k13 0)
set_option maxRecDepth 20000 in
set_option maxHeartbeats 4000000 in
theorem c_X10_size (nw : Nat) (hnw : 29 ≤ nw) : s_Con s_i 110 nw yX10_size wsX10_size 12 140 0 (f_X10_size) (fun ad => [.ref (ad 110)]) := by
  refine s_con_of cX10_size 3 (some .int) RX10 (by decide) rfl rfl (fun _ => Nat.le_of_ble_eq_true rfl) (fun ad m res V C h => ?_)
  unfold f_X10_size at h
  have F_i10 : ∀ w ∈ wsX100, w ∈ wsX10_size := by decide +kernel
  have F_k116 : Cond.fieldLink RX10 116 "ShadowFileModel" "isOpen" "Z" ∈ wsX10_size := by decide +kernel
  have F_k100 : Cond.fieldLink RX10 100 "ShadowFileModel" "thrown" "I" ∈ wsX10_size := by decide +kernel
  have F_k22 : Cond.fieldLink RX10 22 "ShadowFileModel" "has" "[Z" ∈ wsX10_size := by decide +kernel
  show V 0 0 [(0, .ref (ad 110))] [] m
  refine r_aload_n C dX10_size_0 rfl 0 rfl ?_
  refine r_aload_n C dX10_size_1 rfl 0 rfl ?_
  refine r_geti C (ci := 10) (k9 := 2) dX10_size_2 rfl F_i10 (by decide) F_k116 (by omega) la_110 rfl ?_
  refine s_join h (fun k13 => ∀ (s0_13 : Int32), k13 s0_13 = some res → V 0 13 [(0, .ref (ad 110))] [.int s0_13, .ref (ad 110)] m) ?_ (fun k13 hk13 h => ?_)
  · intro s0_13 h
    refine r_puti C (ci := 10) (k9 := 0) dX10_size_13 rfl F_i10 (by decide) F_k100 (by omega) la_110 rfl tyX10 tyX10_ok nmX10 rfl (tyX10_ok 0 (by decide)) rfl rfl h (fun m1 _ h => ?_)
    refine r_iconst C (v := 0) dX10_size_16 (by decide) ?_
    refine r_istore_n C dX10_size_17 rfl (by decide) (show _ = [(1, .int 0), (0, .ref (ad 110))] from rfl) ?_
    refine r_iconst C (v := 0) dX10_size_18 (by decide) ?_
    refine r_istore_n C dX10_size_19 rfl (by decide) (show _ = [(2, .int 0), (1, .int 0), (0, .ref (ad 110))] from rfl) ?_
    refine s_join h (fun e49_20 => ∀ (x1_49 : Int32), e49_20 x1_49 = some res → V 0 49 [(0, .ref (ad 110)), (1, .int x1_49)] [] m1) ?_ (fun e49_20 he49_20 h => ?_)
    · intro x1_49 h
      refine r_aload_n C dX10_size_49 rfl 0 rfl ?_
      refine r_geti C (ci := 10) (k9 := 0) dX10_size_50 rfl F_i10 (by decide) F_k100 (by omega) la_110 rfl ?_
      refine s_join h (fun k61 => ∀ (s0_61 : Int32), k61 s0_61 = some res → V 0 61 [] [.int s0_61] m1) ?_ (fun k61 hk61 h => ?_)
      · intro s0_61 h
        exact r_iret C dX10_size_61 rfl h
      refine r_if_le C (tgt := 60) dX10_size_53 (by decide) h (fun _ h => ?_) (fun _ h => ?_)
      · skip
        refine r_iload_n C dX10_size_60 rfl 1 rfl ?_
        refine r_sub C [] (show _ = [] from rfl) ?_
        exact hk61 x1_49 h
      · skip
        refine r_iconst C (v := 0) dX10_size_56 (by decide) ?_
        refine r_goto C (tgt := 61) dX10_size_57 (by decide) ?_
        refine r_sub C [] (show _ = [] from rfl) ?_
        exact hk61 0 h
    have L20 : ∀ (n : Nat) (x1_20 : Int32) (x2_20 : Int32), f_X10_size_L20 m1 e49_20 n x1_20 x2_20 = some res → V 0 20 [(0, .ref (ad 110)), (1, .int x1_20), (2, .int x2_20)] [] m1 := by
      intro n
      induction n with
      | zero => intro x1_20 x2_20 h; rw [f_X10_size_L20] at h; cases h
      | succ n ih =>
        intro x1_20 x2_20 h
        rw [f_X10_size_L20] at h
        refine r_iload_n C dX10_size_20 rfl 2 rfl ?_
        refine r_bipush C (v := 64) dX10_size_21 (by decide) ?_
        refine r_icmp_ge C (tgt := 49) dX10_size_23 (by decide) h (fun _ h => ?_) (fun _ h => ?_)
        · skip
          refine r_sub C [0, 1] (show _ = [(0, .ref (ad 110)), (1, .int x1_20)] from rfl) ?_
          exact he49_20 x1_20 h
        · skip
          refine r_iload_n C dX10_size_26 rfl 1 rfl ?_
          refine r_aload_n C dX10_size_27 rfl 0 rfl ?_
          refine r_getr C (ci := 10) (k9 := 7) dX10_size_28 rfl F_i10 (by decide) F_k22 (by omega) la_110 rfl ?_
          refine r_iload_n C dX10_size_31 rfl 2 rfl ?_
          refine r_zald C dX10_size_32 (by omega) la_115 h (fun j2 hj2 h => ?_)
          refine s_join h (fun k41 => ∀ (s0_41 : Int32), k41 s0_41 = some res → V 0 41 [(0, .ref (ad 110)), (2, .int x2_20)] [.int s0_41, .int x1_20] m1) ?_ (fun k41 hk41 h => ?_)
          · intro s0_41 h
            refine r_iadd C dX10_size_41 ?_
            refine r_istore_n C dX10_size_42 rfl (by decide) (show _ = [(1, .int (x1_20 + s0_41)), (0, .ref (ad 110)), (2, .int x2_20)] from rfl) ?_
            refine r_iinc C (v := x2_20 + 1) dX10_size_43 2 rfl rfl (by decide) (show _ = [(2, .int (x2_20 + 1)), (1, .int (x1_20 + s0_41)), (0, .ref (ad 110))] from rfl) ?_
            refine r_goto C (tgt := 20) dX10_size_46 (by decide) ?_
            refine r_sub C [2, 1, 0] (show _ = [(0, .ref (ad 110)), (1, .int (x1_20 + s0_41)), (2, .int (x2_20 + 1))] from rfl) ?_
            exact ih (x1_20 + s0_41) (x2_20 + 1) h
          refine r_if_eq C (tgt := 40) dX10_size_33 (by decide) h (fun _ h => ?_) (fun _ h => ?_)
          · skip
            refine r_iconst C (v := 0) dX10_size_40 (by decide) ?_
            refine r_sub C [0, 2] (show _ = [(0, .ref (ad 110)), (2, .int x2_20)] from rfl) ?_
            exact hk41 0 h
          · skip
            refine r_iconst C (v := 1) dX10_size_36 (by decide) ?_
            refine r_goto C (tgt := 41) dX10_size_37 (by decide) ?_
            refine r_sub C [0, 2] (show _ = [(0, .ref (ad 110)), (2, .int x2_20)] from rfl) ?_
            exact hk41 1 h
    refine r_sub C [2, 1, 0] (show _ = [(0, .ref (ad 110)), (1, .int 0), (2, .int 0)] from rfl) ?_
    exact L20 5000 0 0 h
  refine r_if_eq C (tgt := 12) dX10_size_5 (by decide) h (fun _ h => ?_) (fun _ h => ?_)
  · skip
    refine r_iconst C (v := 1) dX10_size_12 (by decide) ?_
    exact hk13 1 h
  · skip
    refine r_iconst C (v := 0) dX10_size_8 (by decide) ?_
    refine r_goto C (tgt := 13) dX10_size_9 (by decide) ?_
    exact hk13 0 h
