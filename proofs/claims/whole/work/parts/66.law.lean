noncomputable def f_law_14 (xs : Nat → Int32) (L : Nat) (i : Int32) (kk : sM → Option (sR Int32)) (m : sM) : Option (sR Int32) :=
  s_bf 0 110 (f_L_writeRecords m) m fun r128 m129 => s_bf 110 29 (f_X10_writeRecords m129) m129 fun r130 m131 => s_bf 110 29 (f_X10_thrown m131) m131 fun r132 m133 => if r132 = r128 then (s_jn (kk  m133) fun k1059 => if r128 = 0 then (s_ix 0 1 fun j134 => if (lg_cmp (m133.2 109 j134) (Int32.toInt64 r130)) = 0 then (k1059) else (some (.inl 0, m133))) else (k1059)) else (some (.inl 0, m133))
set_option maxRecDepth 20000 in
set_option maxHeartbeats 4000000 in
theorem c_law_14 {ad : Nat → Nat} {xs : Nat → Int32} {L scr : Nat} {res : sR Int32} {V : sV} {m9 : sM} (C : sCL ad xs L scr RL cL_law 7 wsL_law res V) (hres : res = (.inl 1, m9)) (n : Nat) (i : Int32) (kk : sM → Option (sR Int32)) (m : sM) (hk : ∀ m, kk m = some res → V (16 * n + 0) 2601 [(0, .ref scr), (1, .ref (ad 0)), (2, .ref (ad 110)), (3, .ref (ad 109)), (4, .int i)] [] m) (h : f_law_14 xs L i kk m = some res) : V (16 * n + 16) 1018 [(0, .ref scr), (1, .ref (ad 0)), (2, .ref (ad 110)), (3, .ref (ad 109)), (4, .int i)] [] m := by
  unfold f_law_14 at h
  refine l_aload_n C dL_law_1018 rfl 1 rfl ?_
  refine l_aload_n C dL_law_1019 rfl 3 rfl ?_
  refine l_callS C c_L_writeRecords (by decide) (As := [.ref (ad 0), .ref (ad 109)]) (nn := 2) (stk := [.ref (ad 109), .ref (ad 0)]) dL_law_1020 gL_law_L_writeRecords ⟨by decide, by decide, by decide +kernel⟩ rfl rfl (by decide) rfl rfl (Nat.le_of_ble_eq_true rfl) (by omega) h (fun r128 m129 h => ?_)
  refine l_less C (b' := (16 * n + 15)) (by omega) ?_
  show V (16 * n + 15) 1023 [(0, .ref scr), (1, .ref (ad 0)), (2, .ref (ad 110)), (3, .ref (ad 109)), (4, .int i)] [.int r128] m129
  refine l_istore C dL_law_1023 (by decide) (show _ = [(5, .int r128), (0, .ref scr), (1, .ref (ad 0)), (2, .ref (ad 110)), (3, .ref (ad 109)), (4, .int i)] from rfl) ?_
  refine l_aload_n C dL_law_1025 rfl 3 rfl ?_
  refine l_callV C (c_X10_writeRecords 29 (by omega)) (by decide) (As := []) (nn := 0) (stk := [.ref (ad 110)]) (ci := 10) dL_law_1026 gL_law_X10_writeRecords ⟨rfl, by decide, by decide, by decide +kernel⟩ (by omega) la_110 rfl rfl rfl (by decide) rfl rfl (Nat.le_of_ble_eq_true rfl) (by omega) h (fun r130 m131 h => ?_)
  show V (16 * n + 15) 1029 [(5, .int r128), (0, .ref scr), (1, .ref (ad 0)), (2, .ref (ad 110)), (3, .ref (ad 109)), (4, .int i)] [.int r130] m131
  refine l_istore C dL_law_1029 (by decide) (show _ = [(6, .int r130), (5, .int r128), (0, .ref scr), (1, .ref (ad 0)), (2, .ref (ad 110)), (3, .ref (ad 109)), (4, .int i)] from rfl) ?_
  refine l_aload_n C dL_law_1031 rfl 4 rfl ?_
  refine l_callV C (c_X10_thrown 29 (by omega)) (by decide) (As := []) (nn := 0) (stk := [.ref (ad 110)]) (ci := 10) dL_law_1032 gL_law_X10_thrown ⟨rfl, by decide, by decide, by decide +kernel⟩ (by omega) la_110 rfl rfl rfl (by decide) rfl rfl (Nat.le_of_ble_eq_true rfl) (by omega) h (fun r132 m133 h => ?_)
  show V (16 * n + 15) 1035 [(6, .int r130), (5, .int r128), (0, .ref scr), (1, .ref (ad 0)), (2, .ref (ad 110)), (3, .ref (ad 109)), (4, .int i)] [.int r132] m133
  refine l_iload C dL_law_1035 1 rfl ?_
  refine l_icmp_eq C (tgt := 1042) dL_law_1037 (by decide) h (fun _ h => ?_) (fun _ h => ?_)
  · skip
    refine l_iload C dL_law_1042 1 rfl ?_
    refine s_join h (fun k1059 => k1059  = some res → V (16 * n + 15) 1059 [(0, .ref scr), (1, .ref (ad 0)), (2, .ref (ad 110)), (3, .ref (ad 109)), (4, .int i)] [] m133) ?_ (fun k1059 hk1059 h => ?_)
    · intro  h
      refine l_goto C (tgt := 2601) dL_law_1059 (by decide) ?_
      refine l_less C (b' := (16 * n + 0)) (by omega) ?_
      exact hk m133 h
    refine l_if_ne C (tgt := 1059) dL_law_1044 (by decide) h (fun _ h => ?_) (fun _ h => ?_)
    · skip
      refine l_aload_n C dL_law_1047 rfl 5 rfl ?_
      refine l_iconst C (v := 0) dL_law_1048 (by decide) ?_
      refine l_lald C dL_law_1049 (by omega) la_109 h (fun j134 _ h => ?_)
      refine l_iload C dL_law_1050 0 rfl ?_
      refine l_i2l C dL_law_1052 ?_
      refine l_lcmp C dL_law_1053 ?_
      refine l_if_eq C (tgt := 1059) dL_law_1054 (by decide) h (fun _ h => ?_) (fun _ h => ?_)
      · skip
        refine l_sub C [2, 3, 4, 5, 6] (show _ = [(0, .ref scr), (1, .ref (ad 0)), (2, .ref (ad 110)), (3, .ref (ad 109)), (4, .int i)] from rfl) ?_
        exact hk1059 h
      · skip
        refine l_iconst C (v := 0) dL_law_1057 (by decide) ?_
        exact l_iret C rfl dL_law_1058 h hres
    · skip
      refine l_sub C [2, 3, 4, 5, 6] (show _ = [(0, .ref scr), (1, .ref (ad 0)), (2, .ref (ad 110)), (3, .ref (ad 109)), (4, .int i)] from rfl) ?_
      exact hk1059 h
  · skip
    refine l_iconst C (v := 0) dL_law_1040 (by decide) ?_
    exact l_iret C rfl dL_law_1041 h hres
noncomputable def f_law_15 (xs : Nat → Int32) (L : Nat) (i : Int32) (kk : sM → Option (sR Int32)) (m : sM) : Option (sR Int32) :=
  s_ix (i + 1) L fun j135 => s_bf 0 110 (f_L_outputAt (xs j135) m) m fun r136 m137 => s_ix (i + 1) L fun j138 => s_bf 110 29 (f_X10_outputAt (xs j138) m137) m137 fun r139 m140 => s_bf 110 29 (f_X10_thrown m140) m140 fun r141 m142 => if r141 = r136 then (s_jn (kk  m142) fun k1115 => if r136 = 0 then (s_ix 0 1 fun j143 => if (lg_cmp (m142.2 109 j143) (Int32.toInt64 r139)) = 0 then (k1115) else (some (.inl 0, m142))) else (k1115)) else (some (.inl 0, m142))
set_option maxRecDepth 20000 in
set_option maxHeartbeats 4000000 in
theorem c_law_15 {ad : Nat → Nat} {xs : Nat → Int32} {L scr : Nat} {res : sR Int32} {V : sV} {m9 : sM} (C : sCL ad xs L scr RL cL_law 7 wsL_law res V) (hres : res = (.inl 1, m9)) (n : Nat) (i : Int32) (kk : sM → Option (sR Int32)) (m : sM) (hk : ∀ m, kk m = some res → V (16 * n + 0) 2601 [(0, .ref scr), (1, .ref (ad 0)), (2, .ref (ad 110)), (3, .ref (ad 109)), (4, .int i)] [] m) (h : f_law_15 xs L i kk m = some res) : V (16 * n + 16) 1062 [(0, .ref scr), (1, .ref (ad 0)), (2, .ref (ad 110)), (3, .ref (ad 109)), (4, .int i)] [] m := by
  unfold f_law_15 at h
  refine l_aload_n C dL_law_1062 rfl 1 rfl ?_
  refine l_aload_n C dL_law_1063 rfl 0 rfl ?_
  refine l_iload C dL_law_1064 4 rfl ?_
  refine l_iconst C (v := 1) dL_law_1066 (by decide) ?_
  refine l_iadd C dL_law_1067 ?_
  refine l_iald C dL_law_1068 h (fun j135 _ h => ?_)
  refine l_aload_n C dL_law_1069 rfl 3 rfl ?_
  refine l_callS C (c_L_outputAt (xs j135)) (by decide) (As := [.ref (ad 0), .int (xs j135), .ref (ad 109)]) (nn := 3) (stk := [.ref (ad 109), .int (xs j135), .ref (ad 0)]) dL_law_1070 gL_law_L_outputAt ⟨by decide, by decide, by decide +kernel⟩ rfl rfl (by decide) rfl rfl (Nat.le_of_ble_eq_true rfl) (by omega) h (fun r136 m137 h => ?_)
  refine l_less C (b' := (16 * n + 15)) (by omega) ?_
  show V (16 * n + 15) 1073 [(0, .ref scr), (1, .ref (ad 0)), (2, .ref (ad 110)), (3, .ref (ad 109)), (4, .int i)] [.int r136] m137
  refine l_istore C dL_law_1073 (by decide) (show _ = [(5, .int r136), (0, .ref scr), (1, .ref (ad 0)), (2, .ref (ad 110)), (3, .ref (ad 109)), (4, .int i)] from rfl) ?_
  refine l_aload_n C dL_law_1075 rfl 3 rfl ?_
  refine l_aload_n C dL_law_1076 rfl 1 rfl ?_
  refine l_iload C dL_law_1077 5 rfl ?_
  refine l_iconst C (v := 1) dL_law_1079 (by decide) ?_
  refine l_iadd C dL_law_1080 ?_
  refine l_iald C dL_law_1081 h (fun j138 _ h => ?_)
  refine l_callV C (c_X10_outputAt 29 (by omega) (xs j138)) (by decide) (As := [.int (xs j138)]) (nn := 1) (stk := [.int (xs j138), .ref (ad 110)]) (ci := 10) dL_law_1082 gL_law_X10_outputAt ⟨rfl, by decide, by decide, by decide +kernel⟩ (by omega) la_110 rfl rfl rfl (by decide) rfl rfl (Nat.le_of_ble_eq_true rfl) (by omega) h (fun r139 m140 h => ?_)
  show V (16 * n + 15) 1085 [(5, .int r136), (0, .ref scr), (1, .ref (ad 0)), (2, .ref (ad 110)), (3, .ref (ad 109)), (4, .int i)] [.int r139] m140
  refine l_istore C dL_law_1085 (by decide) (show _ = [(6, .int r139), (5, .int r136), (0, .ref scr), (1, .ref (ad 0)), (2, .ref (ad 110)), (3, .ref (ad 109)), (4, .int i)] from rfl) ?_
  refine l_aload_n C dL_law_1087 rfl 4 rfl ?_
  refine l_callV C (c_X10_thrown 29 (by omega)) (by decide) (As := []) (nn := 0) (stk := [.ref (ad 110)]) (ci := 10) dL_law_1088 gL_law_X10_thrown ⟨rfl, by decide, by decide, by decide +kernel⟩ (by omega) la_110 rfl rfl rfl (by decide) rfl rfl (Nat.le_of_ble_eq_true rfl) (by omega) h (fun r141 m142 h => ?_)
  show V (16 * n + 15) 1091 [(6, .int r139), (5, .int r136), (0, .ref scr), (1, .ref (ad 0)), (2, .ref (ad 110)), (3, .ref (ad 109)), (4, .int i)] [.int r141] m142
  refine l_iload C dL_law_1091 1 rfl ?_
  refine l_icmp_eq C (tgt := 1098) dL_law_1093 (by decide) h (fun _ h => ?_) (fun _ h => ?_)
  · skip
    refine l_iload C dL_law_1098 1 rfl ?_
    refine s_join h (fun k1115 => k1115  = some res → V (16 * n + 15) 1115 [(0, .ref scr), (1, .ref (ad 0)), (2, .ref (ad 110)), (3, .ref (ad 109)), (4, .int i)] [] m142) ?_ (fun k1115 hk1115 h => ?_)
    · intro  h
      refine l_goto C (tgt := 2601) dL_law_1115 (by decide) ?_
      refine l_less C (b' := (16 * n + 0)) (by omega) ?_
      exact hk m142 h
    refine l_if_ne C (tgt := 1115) dL_law_1100 (by decide) h (fun _ h => ?_) (fun _ h => ?_)
    · skip
      refine l_aload_n C dL_law_1103 rfl 5 rfl ?_
      refine l_iconst C (v := 0) dL_law_1104 (by decide) ?_
      refine l_lald C dL_law_1105 (by omega) la_109 h (fun j143 _ h => ?_)
      refine l_iload C dL_law_1106 0 rfl ?_
      refine l_i2l C dL_law_1108 ?_
      refine l_lcmp C dL_law_1109 ?_
      refine l_if_eq C (tgt := 1115) dL_law_1110 (by decide) h (fun _ h => ?_) (fun _ h => ?_)
      · skip
        refine l_sub C [2, 3, 4, 5, 6] (show _ = [(0, .ref scr), (1, .ref (ad 0)), (2, .ref (ad 110)), (3, .ref (ad 109)), (4, .int i)] from rfl) ?_
        exact hk1115 h
      · skip
        refine l_iconst C (v := 0) dL_law_1113 (by decide) ?_
        exact l_iret C rfl dL_law_1114 h hres
    · skip
      refine l_sub C [2, 3, 4, 5, 6] (show _ = [(0, .ref scr), (1, .ref (ad 0)), (2, .ref (ad 110)), (3, .ref (ad 109)), (4, .int i)] from rfl) ?_
      exact hk1115 h
  · skip
    refine l_iconst C (v := 0) dL_law_1096 (by decide) ?_
    exact l_iret C rfl dL_law_1097 h hres
noncomputable def f_law_16 (xs : Nat → Int32) (L : Nat) (i : Int32) (kk : sM → Option (sR Int32)) (m : sM) : Option (sR Int32) :=
  s_bf 0 109 (f_X9_blocksToWrite m) m fun r144 m145 => s_bf 110 29 (f_X10_blocksToWrite m145) m145 fun r146 m147 => if r144 = r146 then (kk  m147) else (some (.inl 0, m147))
set_option maxRecDepth 20000 in
set_option maxHeartbeats 4000000 in
theorem c_law_16 {ad : Nat → Nat} {xs : Nat → Int32} {L scr : Nat} {res : sR Int32} {V : sV} {m9 : sM} (C : sCL ad xs L scr RL cL_law 7 wsL_law res V) (hres : res = (.inl 1, m9)) (n : Nat) (i : Int32) (kk : sM → Option (sR Int32)) (m : sM) (hk : ∀ m, kk m = some res → V (16 * n + 0) 2601 [(0, .ref scr), (1, .ref (ad 0)), (2, .ref (ad 110)), (3, .ref (ad 109)), (4, .int i)] [] m) (h : f_law_16 xs L i kk m = some res) : V (16 * n + 16) 1118 [(0, .ref scr), (1, .ref (ad 0)), (2, .ref (ad 110)), (3, .ref (ad 109)), (4, .int i)] [] m := by
  unfold f_law_16 at h
  refine l_aload_n C dL_law_1118 rfl 1 rfl ?_
  refine l_callV C (c_X9_blocksToWrite 109 (by omega)) (by decide) (As := []) (nn := 0) (stk := [.ref (ad 0)]) (ci := 9) dL_law_1119 gL_law_X9_blocksToWrite ⟨rfl, by decide, by decide, by decide +kernel⟩ (by omega) la_0 rfl rfl rfl (by decide) rfl rfl (Nat.le_of_ble_eq_true rfl) (by omega) h (fun r144 m145 h => ?_)
  show V (16 * n + 16) 1122 [(0, .ref scr), (1, .ref (ad 0)), (2, .ref (ad 110)), (3, .ref (ad 109)), (4, .int i)] [.int r144] m145
  refine l_aload_n C dL_law_1122 rfl 2 rfl ?_
  refine l_callV C (c_X10_blocksToWrite 29 (by omega)) (by decide) (As := []) (nn := 0) (stk := [.ref (ad 110), .int r144]) (ci := 10) dL_law_1123 gL_law_X10_blocksToWrite ⟨rfl, by decide, by decide, by decide +kernel⟩ (by omega) la_110 rfl rfl rfl (by decide) rfl rfl (Nat.le_of_ble_eq_true rfl) (by omega) h (fun r146 m147 h => ?_)
  show V (16 * n + 16) 1126 [(0, .ref scr), (1, .ref (ad 0)), (2, .ref (ad 110)), (3, .ref (ad 109)), (4, .int i)] [.int r146, .int r144] m147
  refine l_icmp_eq C (tgt := 2601) dL_law_1126 (by decide) h (fun _ h => ?_) (fun _ h => ?_)
  · skip
    refine l_less C (b' := (16 * n + 0)) (by omega) ?_
    exact hk m147 h
  · skip
    refine l_iconst C (v := 0) dL_law_1129 (by decide) ?_
    exact l_iret C rfl dL_law_1130 h hres
noncomputable def f_law_17 (xs : Nat → Int32) (L : Nat) (i : Int32) (kk : sM → Option (sR Int32)) (m : sM) : Option (sR Int32) :=
  s_ix (i + 1) L fun j148 => s_bf 0 110 (f_L_commit (xs j148) m) m fun r149 m150 => s_ix (i + 1) L fun j151 => s_bf 110 29 (f_X10_commit (xs j151) m150) m150 fun r152 m153 => s_bf 110 29 (f_X10_thrown m153) m153 fun r154 m155 => if r154 = r149 then (s_jn (kk  m155) fun k1184 => if r149 = 0 then (s_ix 0 1 fun j156 => if (lg_cmp (m155.2 109 j156) (Int32.toInt64 r152)) = 0 then (k1184) else (some (.inl 0, m155))) else (k1184)) else (some (.inl 0, m155))
set_option maxRecDepth 20000 in
set_option maxHeartbeats 4000000 in
theorem c_law_17 {ad : Nat → Nat} {xs : Nat → Int32} {L scr : Nat} {res : sR Int32} {V : sV} {m9 : sM} (C : sCL ad xs L scr RL cL_law 7 wsL_law res V) (hres : res = (.inl 1, m9)) (n : Nat) (i : Int32) (kk : sM → Option (sR Int32)) (m : sM) (hk : ∀ m, kk m = some res → V (16 * n + 0) 2601 [(0, .ref scr), (1, .ref (ad 0)), (2, .ref (ad 110)), (3, .ref (ad 109)), (4, .int i)] [] m) (h : f_law_17 xs L i kk m = some res) : V (16 * n + 16) 1131 [(0, .ref scr), (1, .ref (ad 0)), (2, .ref (ad 110)), (3, .ref (ad 109)), (4, .int i)] [] m := by
  unfold f_law_17 at h
  refine l_aload_n C dL_law_1131 rfl 1 rfl ?_
  refine l_aload_n C dL_law_1132 rfl 0 rfl ?_
  refine l_iload C dL_law_1133 4 rfl ?_
  refine l_iconst C (v := 1) dL_law_1135 (by decide) ?_
  refine l_iadd C dL_law_1136 ?_
  refine l_iald C dL_law_1137 h (fun j148 _ h => ?_)
  refine l_aload_n C dL_law_1138 rfl 3 rfl ?_
  refine l_callS C (c_L_commit (xs j148)) (by decide) (As := [.ref (ad 0), .int (xs j148), .ref (ad 109)]) (nn := 3) (stk := [.ref (ad 109), .int (xs j148), .ref (ad 0)]) dL_law_1139 gL_law_L_commit ⟨by decide, by decide, by decide +kernel⟩ rfl rfl (by decide) rfl rfl (Nat.le_of_ble_eq_true rfl) (by omega) h (fun r149 m150 h => ?_)
  refine l_less C (b' := (16 * n + 14)) (by omega) ?_
  show V (16 * n + 14) 1142 [(0, .ref scr), (1, .ref (ad 0)), (2, .ref (ad 110)), (3, .ref (ad 109)), (4, .int i)] [.int r149] m150
  refine l_istore C dL_law_1142 (by decide) (show _ = [(5, .int r149), (0, .ref scr), (1, .ref (ad 0)), (2, .ref (ad 110)), (3, .ref (ad 109)), (4, .int i)] from rfl) ?_
  refine l_aload_n C dL_law_1144 rfl 3 rfl ?_
  refine l_aload_n C dL_law_1145 rfl 1 rfl ?_
  refine l_iload C dL_law_1146 5 rfl ?_
  refine l_iconst C (v := 1) dL_law_1148 (by decide) ?_
  refine l_iadd C dL_law_1149 ?_
  refine l_iald C dL_law_1150 h (fun j151 _ h => ?_)
  refine l_callV C (c_X10_commit (xs j151)) (by decide) (As := [.int (xs j151)]) (nn := 1) (stk := [.int (xs j151), .ref (ad 110)]) (ci := 10) dL_law_1151 gL_law_X10_commit ⟨rfl, by decide, by decide, by decide +kernel⟩ (by omega) la_110 rfl rfl rfl (by decide) rfl rfl (Nat.le_of_ble_eq_true rfl) (by omega) h (fun r152 m153 h => ?_)
  refine l_less C (b' := (16 * n + 12)) (by omega) ?_
  show V (16 * n + 12) 1154 [(5, .int r149), (0, .ref scr), (1, .ref (ad 0)), (2, .ref (ad 110)), (3, .ref (ad 109)), (4, .int i)] [.int r152] m153
  refine l_istore C dL_law_1154 (by decide) (show _ = [(6, .int r152), (5, .int r149), (0, .ref scr), (1, .ref (ad 0)), (2, .ref (ad 110)), (3, .ref (ad 109)), (4, .int i)] from rfl) ?_
  refine l_aload_n C dL_law_1156 rfl 4 rfl ?_
  refine l_callV C (c_X10_thrown 29 (by omega)) (by decide) (As := []) (nn := 0) (stk := [.ref (ad 110)]) (ci := 10) dL_law_1157 gL_law_X10_thrown ⟨rfl, by decide, by decide, by decide +kernel⟩ (by omega) la_110 rfl rfl rfl (by decide) rfl rfl (Nat.le_of_ble_eq_true rfl) (by omega) h (fun r154 m155 h => ?_)
  show V (16 * n + 12) 1160 [(6, .int r152), (5, .int r149), (0, .ref scr), (1, .ref (ad 0)), (2, .ref (ad 110)), (3, .ref (ad 109)), (4, .int i)] [.int r154] m155
  refine l_iload C dL_law_1160 1 rfl ?_
  refine l_icmp_eq C (tgt := 1167) dL_law_1162 (by decide) h (fun _ h => ?_) (fun _ h => ?_)
  · skip
    refine l_iload C dL_law_1167 1 rfl ?_
    refine s_join h (fun k1184 => k1184  = some res → V (16 * n + 12) 1184 [(0, .ref scr), (1, .ref (ad 0)), (2, .ref (ad 110)), (3, .ref (ad 109)), (4, .int i)] [] m155) ?_ (fun k1184 hk1184 h => ?_)
    · intro  h
      refine l_goto C (tgt := 2601) dL_law_1184 (by decide) ?_
      refine l_less C (b' := (16 * n + 0)) (by omega) ?_
      exact hk m155 h
    refine l_if_ne C (tgt := 1184) dL_law_1169 (by decide) h (fun _ h => ?_) (fun _ h => ?_)
    · skip
      refine l_aload_n C dL_law_1172 rfl 5 rfl ?_
      refine l_iconst C (v := 0) dL_law_1173 (by decide) ?_
      refine l_lald C dL_law_1174 (by omega) la_109 h (fun j156 _ h => ?_)
      refine l_iload C dL_law_1175 0 rfl ?_
      refine l_i2l C dL_law_1177 ?_
      refine l_lcmp C dL_law_1178 ?_
      refine l_if_eq C (tgt := 1184) dL_law_1179 (by decide) h (fun _ h => ?_) (fun _ h => ?_)
      · skip
        refine l_sub C [2, 3, 4, 5, 6] (show _ = [(0, .ref scr), (1, .ref (ad 0)), (2, .ref (ad 110)), (3, .ref (ad 109)), (4, .int i)] from rfl) ?_
        exact hk1184 h
      · skip
        refine l_iconst C (v := 0) dL_law_1182 (by decide) ?_
        exact l_iret C rfl dL_law_1183 h hres
    · skip
      refine l_sub C [2, 3, 4, 5, 6] (show _ = [(0, .ref scr), (1, .ref (ad 0)), (2, .ref (ad 110)), (3, .ref (ad 109)), (4, .int i)] from rfl) ?_
      exact hk1184 h
  · skip
    refine l_iconst C (v := 0) dL_law_1165 (by decide) ?_
    exact l_iret C rfl dL_law_1166 h hres
noncomputable def f_law_18 (xs : Nat → Int32) (L : Nat) (i : Int32) (kk : sM → Option (sR Int32)) (m : sM) : Option (sR Int32) :=
  s_bf 0 110 (f_L_reopen m) m fun r157 m158 => s_bf 110 29 (f_X10_reopen m158) m158 fun r159 m160 => s_bf 110 29 (f_X10_thrown m160) m160 fun r161 m162 => if r161 = r157 then (s_jn (kk  m162) fun k1228 => if r157 = 0 then (s_ix 0 1 fun j163 => if (lg_cmp (m162.2 109 j163) (Int32.toInt64 r159)) = 0 then (k1228) else (some (.inl 0, m162))) else (k1228)) else (some (.inl 0, m162))
set_option maxRecDepth 20000 in
set_option maxHeartbeats 4000000 in
theorem c_law_18 {ad : Nat → Nat} {xs : Nat → Int32} {L scr : Nat} {res : sR Int32} {V : sV} {m9 : sM} (C : sCL ad xs L scr RL cL_law 7 wsL_law res V) (hres : res = (.inl 1, m9)) (n : Nat) (i : Int32) (kk : sM → Option (sR Int32)) (m : sM) (hk : ∀ m, kk m = some res → V (16 * n + 0) 2601 [(0, .ref scr), (1, .ref (ad 0)), (2, .ref (ad 110)), (3, .ref (ad 109)), (4, .int i)] [] m) (h : f_law_18 xs L i kk m = some res) : V (16 * n + 16) 1187 [(0, .ref scr), (1, .ref (ad 0)), (2, .ref (ad 110)), (3, .ref (ad 109)), (4, .int i)] [] m := by
  unfold f_law_18 at h
  refine l_aload_n C dL_law_1187 rfl 1 rfl ?_
  refine l_aload_n C dL_law_1188 rfl 3 rfl ?_
  refine l_callS C c_L_reopen (by decide) (As := [.ref (ad 0), .ref (ad 109)]) (nn := 2) (stk := [.ref (ad 109), .ref (ad 0)]) dL_law_1189 gL_law_L_reopen ⟨by decide, by decide, by decide +kernel⟩ rfl rfl (by decide) rfl rfl (Nat.le_of_ble_eq_true rfl) (by omega) h (fun r157 m158 h => ?_)
  refine l_less C (b' := (16 * n + 15)) (by omega) ?_
  show V (16 * n + 15) 1192 [(0, .ref scr), (1, .ref (ad 0)), (2, .ref (ad 110)), (3, .ref (ad 109)), (4, .int i)] [.int r157] m158
  refine l_istore C dL_law_1192 (by decide) (show _ = [(5, .int r157), (0, .ref scr), (1, .ref (ad 0)), (2, .ref (ad 110)), (3, .ref (ad 109)), (4, .int i)] from rfl) ?_
  refine l_aload_n C dL_law_1194 rfl 3 rfl ?_
  refine l_callV C (c_X10_reopen 29 (by omega)) (by decide) (As := []) (nn := 0) (stk := [.ref (ad 110)]) (ci := 10) dL_law_1195 gL_law_X10_reopen ⟨rfl, by decide, by decide, by decide +kernel⟩ (by omega) la_110 rfl rfl rfl (by decide) rfl rfl (Nat.le_of_ble_eq_true rfl) (by omega) h (fun r159 m160 h => ?_)
  show V (16 * n + 15) 1198 [(5, .int r157), (0, .ref scr), (1, .ref (ad 0)), (2, .ref (ad 110)), (3, .ref (ad 109)), (4, .int i)] [.int r159] m160
  refine l_istore C dL_law_1198 (by decide) (show _ = [(6, .int r159), (5, .int r157), (0, .ref scr), (1, .ref (ad 0)), (2, .ref (ad 110)), (3, .ref (ad 109)), (4, .int i)] from rfl) ?_
  refine l_aload_n C dL_law_1200 rfl 4 rfl ?_
  refine l_callV C (c_X10_thrown 29 (by omega)) (by decide) (As := []) (nn := 0) (stk := [.ref (ad 110)]) (ci := 10) dL_law_1201 gL_law_X10_thrown ⟨rfl, by decide, by decide, by decide +kernel⟩ (by omega) la_110 rfl rfl rfl (by decide) rfl rfl (Nat.le_of_ble_eq_true rfl) (by omega) h (fun r161 m162 h => ?_)
  show V (16 * n + 15) 1204 [(6, .int r159), (5, .int r157), (0, .ref scr), (1, .ref (ad 0)), (2, .ref (ad 110)), (3, .ref (ad 109)), (4, .int i)] [.int r161] m162
  refine l_iload C dL_law_1204 1 rfl ?_
  refine l_icmp_eq C (tgt := 1211) dL_law_1206 (by decide) h (fun _ h => ?_) (fun _ h => ?_)
  · skip
    refine l_iload C dL_law_1211 1 rfl ?_
    refine s_join h (fun k1228 => k1228  = some res → V (16 * n + 15) 1228 [(0, .ref scr), (1, .ref (ad 0)), (2, .ref (ad 110)), (3, .ref (ad 109)), (4, .int i)] [] m162) ?_ (fun k1228 hk1228 h => ?_)
    · intro  h
      refine l_goto C (tgt := 2601) dL_law_1228 (by decide) ?_
      refine l_less C (b' := (16 * n + 0)) (by omega) ?_
      exact hk m162 h
    refine l_if_ne C (tgt := 1228) dL_law_1213 (by decide) h (fun _ h => ?_) (fun _ h => ?_)
    · skip
      refine l_aload_n C dL_law_1216 rfl 5 rfl ?_
      refine l_iconst C (v := 0) dL_law_1217 (by decide) ?_
      refine l_lald C dL_law_1218 (by omega) la_109 h (fun j163 _ h => ?_)
      refine l_iload C dL_law_1219 0 rfl ?_
      refine l_i2l C dL_law_1221 ?_
      refine l_lcmp C dL_law_1222 ?_
      refine l_if_eq C (tgt := 1228) dL_law_1223 (by decide) h (fun _ h => ?_) (fun _ h => ?_)
      · skip
        refine l_sub C [2, 3, 4, 5, 6] (show _ = [(0, .ref scr), (1, .ref (ad 0)), (2, .ref (ad 110)), (3, .ref (ad 109)), (4, .int i)] from rfl) ?_
        exact hk1228 h
      · skip
        refine l_iconst C (v := 0) dL_law_1226 (by decide) ?_
        exact l_iret C rfl dL_law_1227 h hres
    · skip
      refine l_sub C [2, 3, 4, 5, 6] (show _ = [(0, .ref scr), (1, .ref (ad 0)), (2, .ref (ad 110)), (3, .ref (ad 109)), (4, .int i)] from rfl) ?_
      exact hk1228 h
  · skip
    refine l_iconst C (v := 0) dL_law_1209 (by decide) ?_
    exact l_iret C rfl dL_law_1210 h hres
noncomputable def f_law_19 (xs : Nat → Int32) (L : Nat) (i : Int32) (kk : sM → Option (sR Int32)) (m : sM) : Option (sR Int32) :=
  s_bf 0 109 (f_X9_isOpen m) m fun r164 m165 => s_bf 110 29 (f_X10_isOpen m165) m165 fun r166 m167 => if r164 = r166 then (kk  m167) else (some (.inl 0, m167))
set_option maxRecDepth 20000 in
set_option maxHeartbeats 4000000 in
theorem c_law_19 {ad : Nat → Nat} {xs : Nat → Int32} {L scr : Nat} {res : sR Int32} {V : sV} {m9 : sM} (C : sCL ad xs L scr RL cL_law 7 wsL_law res V) (hres : res = (.inl 1, m9)) (n : Nat) (i : Int32) (kk : sM → Option (sR Int32)) (m : sM) (hk : ∀ m, kk m = some res → V (16 * n + 0) 2601 [(0, .ref scr), (1, .ref (ad 0)), (2, .ref (ad 110)), (3, .ref (ad 109)), (4, .int i)] [] m) (h : f_law_19 xs L i kk m = some res) : V (16 * n + 16) 1231 [(0, .ref scr), (1, .ref (ad 0)), (2, .ref (ad 110)), (3, .ref (ad 109)), (4, .int i)] [] m := by
  unfold f_law_19 at h
  refine l_aload_n C dL_law_1231 rfl 1 rfl ?_
  refine l_callV C (c_X9_isOpen 109 (by omega)) (by decide) (As := []) (nn := 0) (stk := [.ref (ad 0)]) (ci := 9) dL_law_1232 gL_law_X9_isOpen ⟨rfl, by decide, by decide, by decide +kernel⟩ (by omega) la_0 rfl rfl rfl (by decide) rfl rfl (Nat.le_of_ble_eq_true rfl) (by omega) h (fun r164 m165 h => ?_)
  show V (16 * n + 16) 1235 [(0, .ref scr), (1, .ref (ad 0)), (2, .ref (ad 110)), (3, .ref (ad 109)), (4, .int i)] [.int r164] m165
  refine l_aload_n C dL_law_1235 rfl 2 rfl ?_
  refine l_callV C (c_X10_isOpen 29 (by omega)) (by decide) (As := []) (nn := 0) (stk := [.ref (ad 110), .int r164]) (ci := 10) dL_law_1236 gL_law_X10_isOpen ⟨rfl, by decide, by decide, by decide +kernel⟩ (by omega) la_110 rfl rfl rfl (by decide) rfl rfl (Nat.le_of_ble_eq_true rfl) (by omega) h (fun r166 m167 h => ?_)
  show V (16 * n + 16) 1239 [(0, .ref scr), (1, .ref (ad 0)), (2, .ref (ad 110)), (3, .ref (ad 109)), (4, .int i)] [.int r166, .int r164] m167
  refine l_icmp_eq C (tgt := 2601) dL_law_1239 (by decide) h (fun _ h => ?_) (fun _ h => ?_)
  · skip
    refine l_less C (b' := (16 * n + 0)) (by omega) ?_
    exact hk m167 h
  · skip
    refine l_iconst C (v := 0) dL_law_1242 (by decide) ?_
    exact l_iret C rfl dL_law_1243 h hres
noncomputable def f_law_20 (xs : Nat → Int32) (L : Nat) (i : Int32) (kk : sM → Option (sR Int32)) (m : sM) : Option (sR Int32) :=
  s_bf 0 110 (f_L_commitNumber m) m fun r168 m169 => s_bf 110 29 (f_X10_commitNumber m169) m169 fun r170 m171 => s_bf 110 29 (f_X10_thrown m171) m171 fun r172 m173 => if r172 = r168 then (s_jn (kk  m173) fun k1285 => if r168 = 0 then (s_ix 0 1 fun j174 => if (lg_cmp (m173.2 109 j174) (Int32.toInt64 r170)) = 0 then (k1285) else (some (.inl 0, m173))) else (k1285)) else (some (.inl 0, m173))
set_option maxRecDepth 20000 in
set_option maxHeartbeats 4000000 in
theorem c_law_20 {ad : Nat → Nat} {xs : Nat → Int32} {L scr : Nat} {res : sR Int32} {V : sV} {m9 : sM} (C : sCL ad xs L scr RL cL_law 7 wsL_law res V) (hres : res = (.inl 1, m9)) (n : Nat) (i : Int32) (kk : sM → Option (sR Int32)) (m : sM) (hk : ∀ m, kk m = some res → V (16 * n + 0) 2601 [(0, .ref scr), (1, .ref (ad 0)), (2, .ref (ad 110)), (3, .ref (ad 109)), (4, .int i)] [] m) (h : f_law_20 xs L i kk m = some res) : V (16 * n + 16) 1244 [(0, .ref scr), (1, .ref (ad 0)), (2, .ref (ad 110)), (3, .ref (ad 109)), (4, .int i)] [] m := by
  unfold f_law_20 at h
  refine l_aload_n C dL_law_1244 rfl 1 rfl ?_
  refine l_aload_n C dL_law_1245 rfl 3 rfl ?_
  refine l_callS C c_L_commitNumber (by decide) (As := [.ref (ad 0), .ref (ad 109)]) (nn := 2) (stk := [.ref (ad 109), .ref (ad 0)]) dL_law_1246 gL_law_L_commitNumber ⟨by decide, by decide, by decide +kernel⟩ rfl rfl (by decide) rfl rfl (Nat.le_of_ble_eq_true rfl) (by omega) h (fun r168 m169 h => ?_)
  refine l_less C (b' := (16 * n + 15)) (by omega) ?_
  show V (16 * n + 15) 1249 [(0, .ref scr), (1, .ref (ad 0)), (2, .ref (ad 110)), (3, .ref (ad 109)), (4, .int i)] [.int r168] m169
  refine l_istore C dL_law_1249 (by decide) (show _ = [(5, .int r168), (0, .ref scr), (1, .ref (ad 0)), (2, .ref (ad 110)), (3, .ref (ad 109)), (4, .int i)] from rfl) ?_
  refine l_aload_n C dL_law_1251 rfl 3 rfl ?_
  refine l_callV C (c_X10_commitNumber 29 (by omega)) (by decide) (As := []) (nn := 0) (stk := [.ref (ad 110)]) (ci := 10) dL_law_1252 gL_law_X10_commitNumber ⟨rfl, by decide, by decide, by decide +kernel⟩ (by omega) la_110 rfl rfl rfl (by decide) rfl rfl (Nat.le_of_ble_eq_true rfl) (by omega) h (fun r170 m171 h => ?_)
  show V (16 * n + 15) 1255 [(5, .int r168), (0, .ref scr), (1, .ref (ad 0)), (2, .ref (ad 110)), (3, .ref (ad 109)), (4, .int i)] [.int r170] m171
  refine l_istore C dL_law_1255 (by decide) (show _ = [(6, .int r170), (5, .int r168), (0, .ref scr), (1, .ref (ad 0)), (2, .ref (ad 110)), (3, .ref (ad 109)), (4, .int i)] from rfl) ?_
  refine l_aload_n C dL_law_1257 rfl 4 rfl ?_
  refine l_callV C (c_X10_thrown 29 (by omega)) (by decide) (As := []) (nn := 0) (stk := [.ref (ad 110)]) (ci := 10) dL_law_1258 gL_law_X10_thrown ⟨rfl, by decide, by decide, by decide +kernel⟩ (by omega) la_110 rfl rfl rfl (by decide) rfl rfl (Nat.le_of_ble_eq_true rfl) (by omega) h (fun r172 m173 h => ?_)
  show V (16 * n + 15) 1261 [(6, .int r170), (5, .int r168), (0, .ref scr), (1, .ref (ad 0)), (2, .ref (ad 110)), (3, .ref (ad 109)), (4, .int i)] [.int r172] m173
  refine l_iload C dL_law_1261 1 rfl ?_
  refine l_icmp_eq C (tgt := 1268) dL_law_1263 (by decide) h (fun _ h => ?_) (fun _ h => ?_)
  · skip
    refine l_iload C dL_law_1268 1 rfl ?_
    refine s_join h (fun k1285 => k1285  = some res → V (16 * n + 15) 1285 [(0, .ref scr), (1, .ref (ad 0)), (2, .ref (ad 110)), (3, .ref (ad 109)), (4, .int i)] [] m173) ?_ (fun k1285 hk1285 h => ?_)
    · intro  h
      refine l_goto C (tgt := 2601) dL_law_1285 (by decide) ?_
      refine l_less C (b' := (16 * n + 0)) (by omega) ?_
      exact hk m173 h
    refine l_if_ne C (tgt := 1285) dL_law_1270 (by decide) h (fun _ h => ?_) (fun _ h => ?_)
    · skip
      refine l_aload_n C dL_law_1273 rfl 5 rfl ?_
      refine l_iconst C (v := 0) dL_law_1274 (by decide) ?_
      refine l_lald C dL_law_1275 (by omega) la_109 h (fun j174 _ h => ?_)
      refine l_iload C dL_law_1276 0 rfl ?_
      refine l_i2l C dL_law_1278 ?_
      refine l_lcmp C dL_law_1279 ?_
      refine l_if_eq C (tgt := 1285) dL_law_1280 (by decide) h (fun _ h => ?_) (fun _ h => ?_)
      · skip
        refine l_sub C [2, 3, 4, 5, 6] (show _ = [(0, .ref scr), (1, .ref (ad 0)), (2, .ref (ad 110)), (3, .ref (ad 109)), (4, .int i)] from rfl) ?_
        exact hk1285 h
      · skip
        refine l_iconst C (v := 0) dL_law_1283 (by decide) ?_
        exact l_iret C rfl dL_law_1284 h hres
    · skip
      refine l_sub C [2, 3, 4, 5, 6] (show _ = [(0, .ref scr), (1, .ref (ad 0)), (2, .ref (ad 110)), (3, .ref (ad 109)), (4, .int i)] from rfl) ?_
      exact hk1285 h
  · skip
    refine l_iconst C (v := 0) dL_law_1266 (by decide) ?_
    exact l_iret C rfl dL_law_1267 h hres
noncomputable def f_law_21 (xs : Nat → Int32) (L : Nat) (i : Int32) (kk : sM → Option (sR Int32)) (m : sM) : Option (sR Int32) :=
  s_bf 0 110 (f_L_size m) m fun r175 m176 => s_bf 110 29 (f_X10_size m176) m176 fun r177 m178 => s_bf 110 29 (f_X10_thrown m178) m178 fun r179 m180 => if r179 = r175 then (s_jn (kk  m180) fun k1329 => if r175 = 0 then (s_ix 0 1 fun j181 => if (lg_cmp (m180.2 109 j181) (Int32.toInt64 r177)) = 0 then (k1329) else (some (.inl 0, m180))) else (k1329)) else (some (.inl 0, m180))
set_option maxRecDepth 20000 in
set_option maxHeartbeats 4000000 in
theorem c_law_21 {ad : Nat → Nat} {xs : Nat → Int32} {L scr : Nat} {res : sR Int32} {V : sV} {m9 : sM} (C : sCL ad xs L scr RL cL_law 7 wsL_law res V) (hres : res = (.inl 1, m9)) (n : Nat) (i : Int32) (kk : sM → Option (sR Int32)) (m : sM) (hk : ∀ m, kk m = some res → V (16 * n + 0) 2601 [(0, .ref scr), (1, .ref (ad 0)), (2, .ref (ad 110)), (3, .ref (ad 109)), (4, .int i)] [] m) (h : f_law_21 xs L i kk m = some res) : V (16 * n + 16) 1288 [(0, .ref scr), (1, .ref (ad 0)), (2, .ref (ad 110)), (3, .ref (ad 109)), (4, .int i)] [] m := by
  unfold f_law_21 at h
  refine l_aload_n C dL_law_1288 rfl 1 rfl ?_
  refine l_aload_n C dL_law_1289 rfl 3 rfl ?_
  refine l_callS C c_L_size (by decide) (As := [.ref (ad 0), .ref (ad 109)]) (nn := 2) (stk := [.ref (ad 109), .ref (ad 0)]) dL_law_1290 gL_law_L_size ⟨by decide, by decide, by decide +kernel⟩ rfl rfl (by decide) rfl rfl (Nat.le_of_ble_eq_true rfl) (by omega) h (fun r175 m176 h => ?_)
  refine l_less C (b' := (16 * n + 15)) (by omega) ?_
  show V (16 * n + 15) 1293 [(0, .ref scr), (1, .ref (ad 0)), (2, .ref (ad 110)), (3, .ref (ad 109)), (4, .int i)] [.int r175] m176
  refine l_istore C dL_law_1293 (by decide) (show _ = [(5, .int r175), (0, .ref scr), (1, .ref (ad 0)), (2, .ref (ad 110)), (3, .ref (ad 109)), (4, .int i)] from rfl) ?_
  refine l_aload_n C dL_law_1295 rfl 3 rfl ?_
  refine l_callV C (c_X10_size 29 (by omega)) (by decide) (As := []) (nn := 0) (stk := [.ref (ad 110)]) (ci := 10) dL_law_1296 gL_law_X10_size ⟨rfl, by decide, by decide, by decide +kernel⟩ (by omega) la_110 rfl rfl rfl (by decide) rfl rfl (Nat.le_of_ble_eq_true rfl) (by omega) h (fun r177 m178 h => ?_)
  show V (16 * n + 15) 1299 [(5, .int r175), (0, .ref scr), (1, .ref (ad 0)), (2, .ref (ad 110)), (3, .ref (ad 109)), (4, .int i)] [.int r177] m178
  refine l_istore C dL_law_1299 (by decide) (show _ = [(6, .int r177), (5, .int r175), (0, .ref scr), (1, .ref (ad 0)), (2, .ref (ad 110)), (3, .ref (ad 109)), (4, .int i)] from rfl) ?_
  refine l_aload_n C dL_law_1301 rfl 4 rfl ?_
  refine l_callV C (c_X10_thrown 29 (by omega)) (by decide) (As := []) (nn := 0) (stk := [.ref (ad 110)]) (ci := 10) dL_law_1302 gL_law_X10_thrown ⟨rfl, by decide, by decide, by decide +kernel⟩ (by omega) la_110 rfl rfl rfl (by decide) rfl rfl (Nat.le_of_ble_eq_true rfl) (by omega) h (fun r179 m180 h => ?_)
  show V (16 * n + 15) 1305 [(6, .int r177), (5, .int r175), (0, .ref scr), (1, .ref (ad 0)), (2, .ref (ad 110)), (3, .ref (ad 109)), (4, .int i)] [.int r179] m180
  refine l_iload C dL_law_1305 1 rfl ?_
  refine l_icmp_eq C (tgt := 1312) dL_law_1307 (by decide) h (fun _ h => ?_) (fun _ h => ?_)
  · skip
    refine l_iload C dL_law_1312 1 rfl ?_
    refine s_join h (fun k1329 => k1329  = some res → V (16 * n + 15) 1329 [(0, .ref scr), (1, .ref (ad 0)), (2, .ref (ad 110)), (3, .ref (ad 109)), (4, .int i)] [] m180) ?_ (fun k1329 hk1329 h => ?_)
    · intro  h
      refine l_goto C (tgt := 2601) dL_law_1329 (by decide) ?_
      refine l_less C (b' := (16 * n + 0)) (by omega) ?_
      exact hk m180 h
    refine l_if_ne C (tgt := 1329) dL_law_1314 (by decide) h (fun _ h => ?_) (fun _ h => ?_)
    · skip
      refine l_aload_n C dL_law_1317 rfl 5 rfl ?_
      refine l_iconst C (v := 0) dL_law_1318 (by decide) ?_
      refine l_lald C dL_law_1319 (by omega) la_109 h (fun j181 _ h => ?_)
      refine l_iload C dL_law_1320 0 rfl ?_
      refine l_i2l C dL_law_1322 ?_
      refine l_lcmp C dL_law_1323 ?_
      refine l_if_eq C (tgt := 1329) dL_law_1324 (by decide) h (fun _ h => ?_) (fun _ h => ?_)
      · skip
        refine l_sub C [2, 3, 4, 5, 6] (show _ = [(0, .ref scr), (1, .ref (ad 0)), (2, .ref (ad 110)), (3, .ref (ad 109)), (4, .int i)] from rfl) ?_
        exact hk1329 h
      · skip
        refine l_iconst C (v := 0) dL_law_1327 (by decide) ?_
        exact l_iret C rfl dL_law_1328 h hres
    · skip
      refine l_sub C [2, 3, 4, 5, 6] (show _ = [(0, .ref scr), (1, .ref (ad 0)), (2, .ref (ad 110)), (3, .ref (ad 109)), (4, .int i)] from rfl) ?_
      exact hk1329 h
  · skip
    refine l_iconst C (v := 0) dL_law_1310 (by decide) ?_
    exact l_iret C rfl dL_law_1311 h hres
noncomputable def f_law_22 (xs : Nat → Int32) (L : Nat) (i : Int32) (kk : sM → Option (sR Int32)) (m : sM) : Option (sR Int32) :=
  s_ix (i + 1) L fun j182 => s_bf 0 110 (f_L_value (xs j182) m) m fun r183 m184 => s_ix (i + 1) L fun j185 => s_bf 110 29 (f_X10_value (xs j185) m184) m184 fun r186 m187 => s_bf 110 29 (f_X10_thrown m187) m187 fun r188 m189 => if r188 = r183 then (s_jn (kk  m189) fun k1385 => if r183 = 0 then (s_ix 0 1 fun j190 => if (lg_cmp (m189.2 109 j190) (Int32.toInt64 r186)) = 0 then (k1385) else (some (.inl 0, m189))) else (k1385)) else (some (.inl 0, m189))
set_option maxRecDepth 20000 in
set_option maxHeartbeats 4000000 in
theorem c_law_22 {ad : Nat → Nat} {xs : Nat → Int32} {L scr : Nat} {res : sR Int32} {V : sV} {m9 : sM} (C : sCL ad xs L scr RL cL_law 7 wsL_law res V) (hres : res = (.inl 1, m9)) (n : Nat) (i : Int32) (kk : sM → Option (sR Int32)) (m : sM) (hk : ∀ m, kk m = some res → V (16 * n + 0) 2601 [(0, .ref scr), (1, .ref (ad 0)), (2, .ref (ad 110)), (3, .ref (ad 109)), (4, .int i)] [] m) (h : f_law_22 xs L i kk m = some res) : V (16 * n + 16) 1332 [(0, .ref scr), (1, .ref (ad 0)), (2, .ref (ad 110)), (3, .ref (ad 109)), (4, .int i)] [] m := by
  unfold f_law_22 at h
  refine l_aload_n C dL_law_1332 rfl 1 rfl ?_
  refine l_aload_n C dL_law_1333 rfl 0 rfl ?_
  refine l_iload C dL_law_1334 4 rfl ?_
  refine l_iconst C (v := 1) dL_law_1336 (by decide) ?_
  refine l_iadd C dL_law_1337 ?_
  refine l_iald C dL_law_1338 h (fun j182 _ h => ?_)
  refine l_aload_n C dL_law_1339 rfl 3 rfl ?_
  refine l_callS C (c_L_value (xs j182)) (by decide) (As := [.ref (ad 0), .int (xs j182), .ref (ad 109)]) (nn := 3) (stk := [.ref (ad 109), .int (xs j182), .ref (ad 0)]) dL_law_1340 gL_law_L_value ⟨by decide, by decide, by decide +kernel⟩ rfl rfl (by decide) rfl rfl (Nat.le_of_ble_eq_true rfl) (by omega) h (fun r183 m184 h => ?_)
  refine l_less C (b' := (16 * n + 13)) (by omega) ?_
  show V (16 * n + 13) 1343 [(0, .ref scr), (1, .ref (ad 0)), (2, .ref (ad 110)), (3, .ref (ad 109)), (4, .int i)] [.int r183] m184
  refine l_istore C dL_law_1343 (by decide) (show _ = [(5, .int r183), (0, .ref scr), (1, .ref (ad 0)), (2, .ref (ad 110)), (3, .ref (ad 109)), (4, .int i)] from rfl) ?_
  refine l_aload_n C dL_law_1345 rfl 3 rfl ?_
  refine l_aload_n C dL_law_1346 rfl 1 rfl ?_
  refine l_iload C dL_law_1347 5 rfl ?_
  refine l_iconst C (v := 1) dL_law_1349 (by decide) ?_
  refine l_iadd C dL_law_1350 ?_
  refine l_iald C dL_law_1351 h (fun j185 _ h => ?_)
  refine l_callV C (c_X10_value 29 (by omega) (xs j185)) (by decide) (As := [.int (xs j185)]) (nn := 1) (stk := [.int (xs j185), .ref (ad 110)]) (ci := 10) dL_law_1352 gL_law_X10_value ⟨rfl, by decide, by decide, by decide +kernel⟩ (by omega) la_110 rfl rfl rfl (by decide) rfl rfl (Nat.le_of_ble_eq_true rfl) (by omega) h (fun r186 m187 h => ?_)
  show V (16 * n + 13) 1355 [(5, .int r183), (0, .ref scr), (1, .ref (ad 0)), (2, .ref (ad 110)), (3, .ref (ad 109)), (4, .int i)] [.int r186] m187
  refine l_istore C dL_law_1355 (by decide) (show _ = [(6, .int r186), (5, .int r183), (0, .ref scr), (1, .ref (ad 0)), (2, .ref (ad 110)), (3, .ref (ad 109)), (4, .int i)] from rfl) ?_
  refine l_aload_n C dL_law_1357 rfl 4 rfl ?_
  refine l_callV C (c_X10_thrown 29 (by omega)) (by decide) (As := []) (nn := 0) (stk := [.ref (ad 110)]) (ci := 10) dL_law_1358 gL_law_X10_thrown ⟨rfl, by decide, by decide, by decide +kernel⟩ (by omega) la_110 rfl rfl rfl (by decide) rfl rfl (Nat.le_of_ble_eq_true rfl) (by omega) h (fun r188 m189 h => ?_)
  show V (16 * n + 13) 1361 [(6, .int r186), (5, .int r183), (0, .ref scr), (1, .ref (ad 0)), (2, .ref (ad 110)), (3, .ref (ad 109)), (4, .int i)] [.int r188] m189
  refine l_iload C dL_law_1361 1 rfl ?_
  refine l_icmp_eq C (tgt := 1368) dL_law_1363 (by decide) h (fun _ h => ?_) (fun _ h => ?_)
  · skip
    refine l_iload C dL_law_1368 1 rfl ?_
    refine s_join h (fun k1385 => k1385  = some res → V (16 * n + 13) 1385 [(0, .ref scr), (1, .ref (ad 0)), (2, .ref (ad 110)), (3, .ref (ad 109)), (4, .int i)] [] m189) ?_ (fun k1385 hk1385 h => ?_)
    · intro  h
      refine l_goto C (tgt := 2601) dL_law_1385 (by decide) ?_
      refine l_less C (b' := (16 * n + 0)) (by omega) ?_
      exact hk m189 h
    refine l_if_ne C (tgt := 1385) dL_law_1370 (by decide) h (fun _ h => ?_) (fun _ h => ?_)
    · skip
      refine l_aload_n C dL_law_1373 rfl 5 rfl ?_
      refine l_iconst C (v := 0) dL_law_1374 (by decide) ?_
      refine l_lald C dL_law_1375 (by omega) la_109 h (fun j190 _ h => ?_)
      refine l_iload C dL_law_1376 0 rfl ?_
      refine l_i2l C dL_law_1378 ?_
      refine l_lcmp C dL_law_1379 ?_
      refine l_if_eq C (tgt := 1385) dL_law_1380 (by decide) h (fun _ h => ?_) (fun _ h => ?_)
      · skip
        refine l_sub C [2, 3, 4, 5, 6] (show _ = [(0, .ref scr), (1, .ref (ad 0)), (2, .ref (ad 110)), (3, .ref (ad 109)), (4, .int i)] from rfl) ?_
        exact hk1385 h
      · skip
        refine l_iconst C (v := 0) dL_law_1383 (by decide) ?_
        exact l_iret C rfl dL_law_1384 h hres
    · skip
      refine l_sub C [2, 3, 4, 5, 6] (show _ = [(0, .ref scr), (1, .ref (ad 0)), (2, .ref (ad 110)), (3, .ref (ad 109)), (4, .int i)] from rfl) ?_
      exact hk1385 h
  · skip
    refine l_iconst C (v := 0) dL_law_1366 (by decide) ?_
    exact l_iret C rfl dL_law_1367 h hres
noncomputable def f_law_23 (xs : Nat → Int32) (L : Nat) (i : Int32) (kk : sM → Option (sR Int32)) (m : sM) : Option (sR Int32) :=
  s_ix (i + 1) L fun j191 => s_bf 0 110 (f_L_keyAt (xs j191) m) m fun r192 m193 => s_ix (i + 1) L fun j194 => s_bf 110 29 (f_X10_keyAt (xs j194) m193) m193 fun r195 m196 => s_bf 110 29 (f_X10_thrown m196) m196 fun r197 m198 => if r197 = r192 then (s_jn (kk  m198) fun k1441 => if r192 = 0 then (s_ix 0 1 fun j199 => if (lg_cmp (m198.2 109 j199) (Int32.toInt64 r195)) = 0 then (k1441) else (some (.inl 0, m198))) else (k1441)) else (some (.inl 0, m198))
set_option maxRecDepth 20000 in
set_option maxHeartbeats 4000000 in
theorem c_law_23 {ad : Nat → Nat} {xs : Nat → Int32} {L scr : Nat} {res : sR Int32} {V : sV} {m9 : sM} (C : sCL ad xs L scr RL cL_law 7 wsL_law res V) (hres : res = (.inl 1, m9)) (n : Nat) (i : Int32) (kk : sM → Option (sR Int32)) (m : sM) (hk : ∀ m, kk m = some res → V (16 * n + 0) 2601 [(0, .ref scr), (1, .ref (ad 0)), (2, .ref (ad 110)), (3, .ref (ad 109)), (4, .int i)] [] m) (h : f_law_23 xs L i kk m = some res) : V (16 * n + 16) 1388 [(0, .ref scr), (1, .ref (ad 0)), (2, .ref (ad 110)), (3, .ref (ad 109)), (4, .int i)] [] m := by
  unfold f_law_23 at h
  refine l_aload_n C dL_law_1388 rfl 1 rfl ?_
  refine l_aload_n C dL_law_1389 rfl 0 rfl ?_
  refine l_iload C dL_law_1390 4 rfl ?_
  refine l_iconst C (v := 1) dL_law_1392 (by decide) ?_
  refine l_iadd C dL_law_1393 ?_
  refine l_iald C dL_law_1394 h (fun j191 _ h => ?_)
  refine l_aload_n C dL_law_1395 rfl 3 rfl ?_
  refine l_callS C (c_L_keyAt (xs j191)) (by decide) (As := [.ref (ad 0), .int (xs j191), .ref (ad 109)]) (nn := 3) (stk := [.ref (ad 109), .int (xs j191), .ref (ad 0)]) dL_law_1396 gL_law_L_keyAt ⟨by decide, by decide, by decide +kernel⟩ rfl rfl (by decide) rfl rfl (Nat.le_of_ble_eq_true rfl) (by omega) h (fun r192 m193 h => ?_)
  refine l_less C (b' := (16 * n + 14)) (by omega) ?_
  show V (16 * n + 14) 1399 [(0, .ref scr), (1, .ref (ad 0)), (2, .ref (ad 110)), (3, .ref (ad 109)), (4, .int i)] [.int r192] m193
  refine l_istore C dL_law_1399 (by decide) (show _ = [(5, .int r192), (0, .ref scr), (1, .ref (ad 0)), (2, .ref (ad 110)), (3, .ref (ad 109)), (4, .int i)] from rfl) ?_
  refine l_aload_n C dL_law_1401 rfl 3 rfl ?_
  refine l_aload_n C dL_law_1402 rfl 1 rfl ?_
  refine l_iload C dL_law_1403 5 rfl ?_
  refine l_iconst C (v := 1) dL_law_1405 (by decide) ?_
  refine l_iadd C dL_law_1406 ?_
  refine l_iald C dL_law_1407 h (fun j194 _ h => ?_)
  refine l_callV C (c_X10_keyAt 29 (by omega) (xs j194)) (by decide) (As := [.int (xs j194)]) (nn := 1) (stk := [.int (xs j194), .ref (ad 110)]) (ci := 10) dL_law_1408 gL_law_X10_keyAt ⟨rfl, by decide, by decide, by decide +kernel⟩ (by omega) la_110 rfl rfl rfl (by decide) rfl rfl (Nat.le_of_ble_eq_true rfl) (by omega) h (fun r195 m196 h => ?_)
  show V (16 * n + 14) 1411 [(5, .int r192), (0, .ref scr), (1, .ref (ad 0)), (2, .ref (ad 110)), (3, .ref (ad 109)), (4, .int i)] [.int r195] m196
  refine l_istore C dL_law_1411 (by decide) (show _ = [(6, .int r195), (5, .int r192), (0, .ref scr), (1, .ref (ad 0)), (2, .ref (ad 110)), (3, .ref (ad 109)), (4, .int i)] from rfl) ?_
  refine l_aload_n C dL_law_1413 rfl 4 rfl ?_
  refine l_callV C (c_X10_thrown 29 (by omega)) (by decide) (As := []) (nn := 0) (stk := [.ref (ad 110)]) (ci := 10) dL_law_1414 gL_law_X10_thrown ⟨rfl, by decide, by decide, by decide +kernel⟩ (by omega) la_110 rfl rfl rfl (by decide) rfl rfl (Nat.le_of_ble_eq_true rfl) (by omega) h (fun r197 m198 h => ?_)
  show V (16 * n + 14) 1417 [(6, .int r195), (5, .int r192), (0, .ref scr), (1, .ref (ad 0)), (2, .ref (ad 110)), (3, .ref (ad 109)), (4, .int i)] [.int r197] m198
  refine l_iload C dL_law_1417 1 rfl ?_
  refine l_icmp_eq C (tgt := 1424) dL_law_1419 (by decide) h (fun _ h => ?_) (fun _ h => ?_)
  · skip
    refine l_iload C dL_law_1424 1 rfl ?_
    refine s_join h (fun k1441 => k1441  = some res → V (16 * n + 14) 1441 [(0, .ref scr), (1, .ref (ad 0)), (2, .ref (ad 110)), (3, .ref (ad 109)), (4, .int i)] [] m198) ?_ (fun k1441 hk1441 h => ?_)
    · intro  h
      refine l_goto C (tgt := 2601) dL_law_1441 (by decide) ?_
      refine l_less C (b' := (16 * n + 0)) (by omega) ?_
      exact hk m198 h
    refine l_if_ne C (tgt := 1441) dL_law_1426 (by decide) h (fun _ h => ?_) (fun _ h => ?_)
    · skip
      refine l_aload_n C dL_law_1429 rfl 5 rfl ?_
      refine l_iconst C (v := 0) dL_law_1430 (by decide) ?_
      refine l_lald C dL_law_1431 (by omega) la_109 h (fun j199 _ h => ?_)
      refine l_iload C dL_law_1432 0 rfl ?_
      refine l_i2l C dL_law_1434 ?_
      refine l_lcmp C dL_law_1435 ?_
      refine l_if_eq C (tgt := 1441) dL_law_1436 (by decide) h (fun _ h => ?_) (fun _ h => ?_)
      · skip
        refine l_sub C [2, 3, 4, 5, 6] (show _ = [(0, .ref scr), (1, .ref (ad 0)), (2, .ref (ad 110)), (3, .ref (ad 109)), (4, .int i)] from rfl) ?_
        exact hk1441 h
      · skip
        refine l_iconst C (v := 0) dL_law_1439 (by decide) ?_
        exact l_iret C rfl dL_law_1440 h hres
    · skip
      refine l_sub C [2, 3, 4, 5, 6] (show _ = [(0, .ref scr), (1, .ref (ad 0)), (2, .ref (ad 110)), (3, .ref (ad 109)), (4, .int i)] from rfl) ?_
      exact hk1441 h
  · skip
    refine l_iconst C (v := 0) dL_law_1422 (by decide) ?_
    exact l_iret C rfl dL_law_1423 h hres
noncomputable def f_law_24 (xs : Nat → Int32) (L : Nat) (i : Int32) (kk : sM → Option (sR Int32)) (m : sM) : Option (sR Int32) :=
  s_ix (i + 1) L fun j200 => s_ix (i + 2) L fun j201 => s_bf 0 110 (f_L_sum (xs j200) (xs j201) m) m fun r202 m203 => s_ix (i + 1) L fun j204 => s_ix (i + 2) L fun j205 => s_bf 110 29 (f_X10_sum (xs j204) (xs j205) m203) m203 fun r206 m207 => s_bf 110 29 (f_X10_thrown m207) m207 fun r208 m209 => if r208 = r202 then (s_jn (kk  m209) fun k1509 => if r202 = 0 then (s_ix 0 1 fun j210 => if (lg_cmp (m209.2 109 j210) (Int32.toInt64 r206)) = 0 then (k1509) else (some (.inl 0, m209))) else (k1509)) else (some (.inl 0, m209))
set_option maxRecDepth 20000 in
set_option maxHeartbeats 4000000 in
theorem c_law_24 {ad : Nat → Nat} {xs : Nat → Int32} {L scr : Nat} {res : sR Int32} {V : sV} {m9 : sM} (C : sCL ad xs L scr RL cL_law 7 wsL_law res V) (hres : res = (.inl 1, m9)) (n : Nat) (i : Int32) (kk : sM → Option (sR Int32)) (m : sM) (hk : ∀ m, kk m = some res → V (16 * n + 0) 2601 [(0, .ref scr), (1, .ref (ad 0)), (2, .ref (ad 110)), (3, .ref (ad 109)), (4, .int i)] [] m) (h : f_law_24 xs L i kk m = some res) : V (16 * n + 16) 1444 [(0, .ref scr), (1, .ref (ad 0)), (2, .ref (ad 110)), (3, .ref (ad 109)), (4, .int i)] [] m := by
  unfold f_law_24 at h
  refine l_aload_n C dL_law_1444 rfl 1 rfl ?_
  refine l_aload_n C dL_law_1445 rfl 0 rfl ?_
  refine l_iload C dL_law_1446 4 rfl ?_
  refine l_iconst C (v := 1) dL_law_1448 (by decide) ?_
  refine l_iadd C dL_law_1449 ?_
  refine l_iald C dL_law_1450 h (fun j200 _ h => ?_)
  refine l_aload_n C dL_law_1451 rfl 0 rfl ?_
  refine l_iload C dL_law_1452 4 rfl ?_
  refine l_iconst C (v := 2) dL_law_1454 (by decide) ?_
  refine l_iadd C dL_law_1455 ?_
  refine l_iald C dL_law_1456 h (fun j201 _ h => ?_)
  refine l_aload_n C dL_law_1457 rfl 3 rfl ?_
  refine l_callS C (c_L_sum (xs j200) (xs j201)) (by decide) (As := [.ref (ad 0), .int (xs j200), .int (xs j201), .ref (ad 109)]) (nn := 4) (stk := [.ref (ad 109), .int (xs j201), .int (xs j200), .ref (ad 0)]) dL_law_1458 gL_law_L_sum ⟨by decide, by decide, by decide +kernel⟩ rfl rfl (by decide) rfl rfl (Nat.le_of_ble_eq_true rfl) (by omega) h (fun r202 m203 h => ?_)
  refine l_less C (b' := (16 * n + 12)) (by omega) ?_
  show V (16 * n + 12) 1461 [(0, .ref scr), (1, .ref (ad 0)), (2, .ref (ad 110)), (3, .ref (ad 109)), (4, .int i)] [.int r202] m203
  refine l_istore C dL_law_1461 (by decide) (show _ = [(5, .int r202), (0, .ref scr), (1, .ref (ad 0)), (2, .ref (ad 110)), (3, .ref (ad 109)), (4, .int i)] from rfl) ?_
  refine l_aload_n C dL_law_1463 rfl 3 rfl ?_
  refine l_aload_n C dL_law_1464 rfl 1 rfl ?_
  refine l_iload C dL_law_1465 5 rfl ?_
  refine l_iconst C (v := 1) dL_law_1467 (by decide) ?_
  refine l_iadd C dL_law_1468 ?_
  refine l_iald C dL_law_1469 h (fun j204 _ h => ?_)
  refine l_aload_n C dL_law_1470 rfl 1 rfl ?_
  refine l_iload C dL_law_1471 5 rfl ?_
  refine l_iconst C (v := 2) dL_law_1473 (by decide) ?_
  refine l_iadd C dL_law_1474 ?_
  refine l_iald C dL_law_1475 h (fun j205 _ h => ?_)
  refine l_callV C (c_X10_sum 29 (by omega) (xs j204) (xs j205)) (by decide) (As := [.int (xs j204), .int (xs j205)]) (nn := 2) (stk := [.int (xs j205), .int (xs j204), .ref (ad 110)]) (ci := 10) dL_law_1476 gL_law_X10_sum ⟨rfl, by decide, by decide, by decide +kernel⟩ (by omega) la_110 rfl rfl rfl (by decide) rfl rfl (Nat.le_of_ble_eq_true rfl) (by omega) h (fun r206 m207 h => ?_)
  show V (16 * n + 12) 1479 [(5, .int r202), (0, .ref scr), (1, .ref (ad 0)), (2, .ref (ad 110)), (3, .ref (ad 109)), (4, .int i)] [.int r206] m207
  refine l_istore C dL_law_1479 (by decide) (show _ = [(6, .int r206), (5, .int r202), (0, .ref scr), (1, .ref (ad 0)), (2, .ref (ad 110)), (3, .ref (ad 109)), (4, .int i)] from rfl) ?_
  refine l_aload_n C dL_law_1481 rfl 4 rfl ?_
  refine l_callV C (c_X10_thrown 29 (by omega)) (by decide) (As := []) (nn := 0) (stk := [.ref (ad 110)]) (ci := 10) dL_law_1482 gL_law_X10_thrown ⟨rfl, by decide, by decide, by decide +kernel⟩ (by omega) la_110 rfl rfl rfl (by decide) rfl rfl (Nat.le_of_ble_eq_true rfl) (by omega) h (fun r208 m209 h => ?_)
  show V (16 * n + 12) 1485 [(6, .int r206), (5, .int r202), (0, .ref scr), (1, .ref (ad 0)), (2, .ref (ad 110)), (3, .ref (ad 109)), (4, .int i)] [.int r208] m209
  refine l_iload C dL_law_1485 1 rfl ?_
  refine l_icmp_eq C (tgt := 1492) dL_law_1487 (by decide) h (fun _ h => ?_) (fun _ h => ?_)
  · skip
    refine l_iload C dL_law_1492 1 rfl ?_
    refine s_join h (fun k1509 => k1509  = some res → V (16 * n + 12) 1509 [(0, .ref scr), (1, .ref (ad 0)), (2, .ref (ad 110)), (3, .ref (ad 109)), (4, .int i)] [] m209) ?_ (fun k1509 hk1509 h => ?_)
    · intro  h
      refine l_goto C (tgt := 2601) dL_law_1509 (by decide) ?_
      refine l_less C (b' := (16 * n + 0)) (by omega) ?_
      exact hk m209 h
    refine l_if_ne C (tgt := 1509) dL_law_1494 (by decide) h (fun _ h => ?_) (fun _ h => ?_)
    · skip
      refine l_aload_n C dL_law_1497 rfl 5 rfl ?_
      refine l_iconst C (v := 0) dL_law_1498 (by decide) ?_
      refine l_lald C dL_law_1499 (by omega) la_109 h (fun j210 _ h => ?_)
      refine l_iload C dL_law_1500 0 rfl ?_
      refine l_i2l C dL_law_1502 ?_
      refine l_lcmp C dL_law_1503 ?_
      refine l_if_eq C (tgt := 1509) dL_law_1504 (by decide) h (fun _ h => ?_) (fun _ h => ?_)
      · skip
        refine l_sub C [2, 3, 4, 5, 6] (show _ = [(0, .ref scr), (1, .ref (ad 0)), (2, .ref (ad 110)), (3, .ref (ad 109)), (4, .int i)] from rfl) ?_
        exact hk1509 h
      · skip
        refine l_iconst C (v := 0) dL_law_1507 (by decide) ?_
        exact l_iret C rfl dL_law_1508 h hres
    · skip
      refine l_sub C [2, 3, 4, 5, 6] (show _ = [(0, .ref scr), (1, .ref (ad 0)), (2, .ref (ad 110)), (3, .ref (ad 109)), (4, .int i)] from rfl) ?_
      exact hk1509 h
  · skip
    refine l_iconst C (v := 0) dL_law_1490 (by decide) ?_
    exact l_iret C rfl dL_law_1491 h hres
noncomputable def f_law_25 (xs : Nat → Int32) (L : Nat) (i : Int32) (kk : sM → Option (sR Int32)) (m : sM) : Option (sR Int32) :=
  s_ix (i + 1) L fun j211 => s_bf 0 110 (f_L_pageBlock (xs j211) m) m fun r212 m213 => s_ix (i + 1) L fun j214 => s_bf 110 29 (f_X10_pageBlock (xs j214) m213) m213 fun r215 m216 => s_bf 110 29 (f_X10_thrown m216) m216 fun r217 m218 => if r217 = r212 then (s_jn (kk  m218) fun k1565 => if r212 = 0 then (s_ix 0 1 fun j219 => if (lg_cmp (m218.2 109 j219) (Int32.toInt64 r215)) = 0 then (k1565) else (some (.inl 0, m218))) else (k1565)) else (some (.inl 0, m218))
set_option maxRecDepth 20000 in
set_option maxHeartbeats 4000000 in
theorem c_law_25 {ad : Nat → Nat} {xs : Nat → Int32} {L scr : Nat} {res : sR Int32} {V : sV} {m9 : sM} (C : sCL ad xs L scr RL cL_law 7 wsL_law res V) (hres : res = (.inl 1, m9)) (n : Nat) (i : Int32) (kk : sM → Option (sR Int32)) (m : sM) (hk : ∀ m, kk m = some res → V (16 * n + 0) 2601 [(0, .ref scr), (1, .ref (ad 0)), (2, .ref (ad 110)), (3, .ref (ad 109)), (4, .int i)] [] m) (h : f_law_25 xs L i kk m = some res) : V (16 * n + 16) 1512 [(0, .ref scr), (1, .ref (ad 0)), (2, .ref (ad 110)), (3, .ref (ad 109)), (4, .int i)] [] m := by
  unfold f_law_25 at h
  refine l_aload_n C dL_law_1512 rfl 1 rfl ?_
  refine l_aload_n C dL_law_1513 rfl 0 rfl ?_
  refine l_iload C dL_law_1514 4 rfl ?_
  refine l_iconst C (v := 1) dL_law_1516 (by decide) ?_
  refine l_iadd C dL_law_1517 ?_
  refine l_iald C dL_law_1518 h (fun j211 _ h => ?_)
  refine l_aload_n C dL_law_1519 rfl 3 rfl ?_
  refine l_callS C (c_L_pageBlock (xs j211)) (by decide) (As := [.ref (ad 0), .int (xs j211), .ref (ad 109)]) (nn := 3) (stk := [.ref (ad 109), .int (xs j211), .ref (ad 0)]) dL_law_1520 gL_law_L_pageBlock ⟨by decide, by decide, by decide +kernel⟩ rfl rfl (by decide) rfl rfl (Nat.le_of_ble_eq_true rfl) (by omega) h (fun r212 m213 h => ?_)
  refine l_less C (b' := (16 * n + 14)) (by omega) ?_
  show V (16 * n + 14) 1523 [(0, .ref scr), (1, .ref (ad 0)), (2, .ref (ad 110)), (3, .ref (ad 109)), (4, .int i)] [.int r212] m213
  refine l_istore C dL_law_1523 (by decide) (show _ = [(5, .int r212), (0, .ref scr), (1, .ref (ad 0)), (2, .ref (ad 110)), (3, .ref (ad 109)), (4, .int i)] from rfl) ?_
  refine l_aload_n C dL_law_1525 rfl 3 rfl ?_
  refine l_aload_n C dL_law_1526 rfl 1 rfl ?_
  refine l_iload C dL_law_1527 5 rfl ?_
  refine l_iconst C (v := 1) dL_law_1529 (by decide) ?_
  refine l_iadd C dL_law_1530 ?_
  refine l_iald C dL_law_1531 h (fun j214 _ h => ?_)
  refine l_callV C (c_X10_pageBlock 29 (by omega) (xs j214)) (by decide) (As := [.int (xs j214)]) (nn := 1) (stk := [.int (xs j214), .ref (ad 110)]) (ci := 10) dL_law_1532 gL_law_X10_pageBlock ⟨rfl, by decide, by decide, by decide +kernel⟩ (by omega) la_110 rfl rfl rfl (by decide) rfl rfl (Nat.le_of_ble_eq_true rfl) (by omega) h (fun r215 m216 h => ?_)
  show V (16 * n + 14) 1535 [(5, .int r212), (0, .ref scr), (1, .ref (ad 0)), (2, .ref (ad 110)), (3, .ref (ad 109)), (4, .int i)] [.int r215] m216
  refine l_istore C dL_law_1535 (by decide) (show _ = [(6, .int r215), (5, .int r212), (0, .ref scr), (1, .ref (ad 0)), (2, .ref (ad 110)), (3, .ref (ad 109)), (4, .int i)] from rfl) ?_
  refine l_aload_n C dL_law_1537 rfl 4 rfl ?_
  refine l_callV C (c_X10_thrown 29 (by omega)) (by decide) (As := []) (nn := 0) (stk := [.ref (ad 110)]) (ci := 10) dL_law_1538 gL_law_X10_thrown ⟨rfl, by decide, by decide, by decide +kernel⟩ (by omega) la_110 rfl rfl rfl (by decide) rfl rfl (Nat.le_of_ble_eq_true rfl) (by omega) h (fun r217 m218 h => ?_)
  show V (16 * n + 14) 1541 [(6, .int r215), (5, .int r212), (0, .ref scr), (1, .ref (ad 0)), (2, .ref (ad 110)), (3, .ref (ad 109)), (4, .int i)] [.int r217] m218
  refine l_iload C dL_law_1541 1 rfl ?_
  refine l_icmp_eq C (tgt := 1548) dL_law_1543 (by decide) h (fun _ h => ?_) (fun _ h => ?_)
  · skip
    refine l_iload C dL_law_1548 1 rfl ?_
    refine s_join h (fun k1565 => k1565  = some res → V (16 * n + 14) 1565 [(0, .ref scr), (1, .ref (ad 0)), (2, .ref (ad 110)), (3, .ref (ad 109)), (4, .int i)] [] m218) ?_ (fun k1565 hk1565 h => ?_)
    · intro  h
      refine l_goto C (tgt := 2601) dL_law_1565 (by decide) ?_
      refine l_less C (b' := (16 * n + 0)) (by omega) ?_
      exact hk m218 h
    refine l_if_ne C (tgt := 1565) dL_law_1550 (by decide) h (fun _ h => ?_) (fun _ h => ?_)
    · skip
      refine l_aload_n C dL_law_1553 rfl 5 rfl ?_
      refine l_iconst C (v := 0) dL_law_1554 (by decide) ?_
      refine l_lald C dL_law_1555 (by omega) la_109 h (fun j219 _ h => ?_)
      refine l_iload C dL_law_1556 0 rfl ?_
      refine l_i2l C dL_law_1558 ?_
      refine l_lcmp C dL_law_1559 ?_
      refine l_if_eq C (tgt := 1565) dL_law_1560 (by decide) h (fun _ h => ?_) (fun _ h => ?_)
      · skip
        refine l_sub C [2, 3, 4, 5, 6] (show _ = [(0, .ref scr), (1, .ref (ad 0)), (2, .ref (ad 110)), (3, .ref (ad 109)), (4, .int i)] from rfl) ?_
        exact hk1565 h
      · skip
        refine l_iconst C (v := 0) dL_law_1563 (by decide) ?_
        exact l_iret C rfl dL_law_1564 h hres
    · skip
      refine l_sub C [2, 3, 4, 5, 6] (show _ = [(0, .ref scr), (1, .ref (ad 0)), (2, .ref (ad 110)), (3, .ref (ad 109)), (4, .int i)] from rfl) ?_
      exact hk1565 h
  · skip
    refine l_iconst C (v := 0) dL_law_1546 (by decide) ?_
    exact l_iret C rfl dL_law_1547 h hres
noncomputable def f_law_26 (xs : Nat → Int32) (L : Nat) (i : Int32) (kk : sM → Option (sR Int32)) (m : sM) : Option (sR Int32) :=
  s_bf 0 110 (f_L_freeCount m) m fun r220 m221 => s_bf 110 29 (f_X10_freeCount m221) m221 fun r222 m223 => s_bf 110 29 (f_X10_thrown m223) m223 fun r224 m225 => if r224 = r220 then (s_jn (kk  m225) fun k1609 => if r220 = 0 then (s_ix 0 1 fun j226 => if (lg_cmp (m225.2 109 j226) (Int32.toInt64 r222)) = 0 then (k1609) else (some (.inl 0, m225))) else (k1609)) else (some (.inl 0, m225))
set_option maxRecDepth 20000 in
set_option maxHeartbeats 4000000 in
theorem c_law_26 {ad : Nat → Nat} {xs : Nat → Int32} {L scr : Nat} {res : sR Int32} {V : sV} {m9 : sM} (C : sCL ad xs L scr RL cL_law 7 wsL_law res V) (hres : res = (.inl 1, m9)) (n : Nat) (i : Int32) (kk : sM → Option (sR Int32)) (m : sM) (hk : ∀ m, kk m = some res → V (16 * n + 0) 2601 [(0, .ref scr), (1, .ref (ad 0)), (2, .ref (ad 110)), (3, .ref (ad 109)), (4, .int i)] [] m) (h : f_law_26 xs L i kk m = some res) : V (16 * n + 16) 1568 [(0, .ref scr), (1, .ref (ad 0)), (2, .ref (ad 110)), (3, .ref (ad 109)), (4, .int i)] [] m := by
  unfold f_law_26 at h
  refine l_aload_n C dL_law_1568 rfl 1 rfl ?_
  refine l_aload_n C dL_law_1569 rfl 3 rfl ?_
  refine l_callS C c_L_freeCount (by decide) (As := [.ref (ad 0), .ref (ad 109)]) (nn := 2) (stk := [.ref (ad 109), .ref (ad 0)]) dL_law_1570 gL_law_L_freeCount ⟨by decide, by decide, by decide +kernel⟩ rfl rfl (by decide) rfl rfl (Nat.le_of_ble_eq_true rfl) (by omega) h (fun r220 m221 h => ?_)
  refine l_less C (b' := (16 * n + 15)) (by omega) ?_
  show V (16 * n + 15) 1573 [(0, .ref scr), (1, .ref (ad 0)), (2, .ref (ad 110)), (3, .ref (ad 109)), (4, .int i)] [.int r220] m221
  refine l_istore C dL_law_1573 (by decide) (show _ = [(5, .int r220), (0, .ref scr), (1, .ref (ad 0)), (2, .ref (ad 110)), (3, .ref (ad 109)), (4, .int i)] from rfl) ?_
  refine l_aload_n C dL_law_1575 rfl 3 rfl ?_
  refine l_callV C (c_X10_freeCount 29 (by omega)) (by decide) (As := []) (nn := 0) (stk := [.ref (ad 110)]) (ci := 10) dL_law_1576 gL_law_X10_freeCount ⟨rfl, by decide, by decide, by decide +kernel⟩ (by omega) la_110 rfl rfl rfl (by decide) rfl rfl (Nat.le_of_ble_eq_true rfl) (by omega) h (fun r222 m223 h => ?_)
  show V (16 * n + 15) 1579 [(5, .int r220), (0, .ref scr), (1, .ref (ad 0)), (2, .ref (ad 110)), (3, .ref (ad 109)), (4, .int i)] [.int r222] m223
  refine l_istore C dL_law_1579 (by decide) (show _ = [(6, .int r222), (5, .int r220), (0, .ref scr), (1, .ref (ad 0)), (2, .ref (ad 110)), (3, .ref (ad 109)), (4, .int i)] from rfl) ?_
  refine l_aload_n C dL_law_1581 rfl 4 rfl ?_
  refine l_callV C (c_X10_thrown 29 (by omega)) (by decide) (As := []) (nn := 0) (stk := [.ref (ad 110)]) (ci := 10) dL_law_1582 gL_law_X10_thrown ⟨rfl, by decide, by decide, by decide +kernel⟩ (by omega) la_110 rfl rfl rfl (by decide) rfl rfl (Nat.le_of_ble_eq_true rfl) (by omega) h (fun r224 m225 h => ?_)
  show V (16 * n + 15) 1585 [(6, .int r222), (5, .int r220), (0, .ref scr), (1, .ref (ad 0)), (2, .ref (ad 110)), (3, .ref (ad 109)), (4, .int i)] [.int r224] m225
  refine l_iload C dL_law_1585 1 rfl ?_
  refine l_icmp_eq C (tgt := 1592) dL_law_1587 (by decide) h (fun _ h => ?_) (fun _ h => ?_)
  · skip
    refine l_iload C dL_law_1592 1 rfl ?_
    refine s_join h (fun k1609 => k1609  = some res → V (16 * n + 15) 1609 [(0, .ref scr), (1, .ref (ad 0)), (2, .ref (ad 110)), (3, .ref (ad 109)), (4, .int i)] [] m225) ?_ (fun k1609 hk1609 h => ?_)
    · intro  h
      refine l_goto C (tgt := 2601) dL_law_1609 (by decide) ?_
      refine l_less C (b' := (16 * n + 0)) (by omega) ?_
      exact hk m225 h
    refine l_if_ne C (tgt := 1609) dL_law_1594 (by decide) h (fun _ h => ?_) (fun _ h => ?_)
    · skip
      refine l_aload_n C dL_law_1597 rfl 5 rfl ?_
      refine l_iconst C (v := 0) dL_law_1598 (by decide) ?_
      refine l_lald C dL_law_1599 (by omega) la_109 h (fun j226 _ h => ?_)
      refine l_iload C dL_law_1600 0 rfl ?_
      refine l_i2l C dL_law_1602 ?_
      refine l_lcmp C dL_law_1603 ?_
      refine l_if_eq C (tgt := 1609) dL_law_1604 (by decide) h (fun _ h => ?_) (fun _ h => ?_)
      · skip
        refine l_sub C [2, 3, 4, 5, 6] (show _ = [(0, .ref scr), (1, .ref (ad 0)), (2, .ref (ad 110)), (3, .ref (ad 109)), (4, .int i)] from rfl) ?_
        exact hk1609 h
      · skip
        refine l_iconst C (v := 0) dL_law_1607 (by decide) ?_
        exact l_iret C rfl dL_law_1608 h hres
    · skip
      refine l_sub C [2, 3, 4, 5, 6] (show _ = [(0, .ref scr), (1, .ref (ad 0)), (2, .ref (ad 110)), (3, .ref (ad 109)), (4, .int i)] from rfl) ?_
      exact hk1609 h
  · skip
    refine l_iconst C (v := 0) dL_law_1590 (by decide) ?_
    exact l_iret C rfl dL_law_1591 h hres
noncomputable def f_law_27 (xs : Nat → Int32) (L : Nat) (i : Int32) (kk : sM → Option (sR Int32)) (m : sM) : Option (sR Int32) :=
  s_ix (i + 1) L fun j227 => s_bf 0 110 (f_L_freeBlock (xs j227) m) m fun r228 m229 => s_ix (i + 1) L fun j230 => s_bf 110 29 (f_X10_freeBlock (xs j230) m229) m229 fun r231 m232 => s_bf 110 29 (f_X10_thrown m232) m232 fun r233 m234 => if r233 = r228 then (s_jn (kk  m234) fun k1665 => if r228 = 0 then (s_ix 0 1 fun j235 => if (lg_cmp (m234.2 109 j235) (Int32.toInt64 r231)) = 0 then (k1665) else (some (.inl 0, m234))) else (k1665)) else (some (.inl 0, m234))
set_option maxRecDepth 20000 in
set_option maxHeartbeats 4000000 in
theorem c_law_27 {ad : Nat → Nat} {xs : Nat → Int32} {L scr : Nat} {res : sR Int32} {V : sV} {m9 : sM} (C : sCL ad xs L scr RL cL_law 7 wsL_law res V) (hres : res = (.inl 1, m9)) (n : Nat) (i : Int32) (kk : sM → Option (sR Int32)) (m : sM) (hk : ∀ m, kk m = some res → V (16 * n + 0) 2601 [(0, .ref scr), (1, .ref (ad 0)), (2, .ref (ad 110)), (3, .ref (ad 109)), (4, .int i)] [] m) (h : f_law_27 xs L i kk m = some res) : V (16 * n + 16) 1612 [(0, .ref scr), (1, .ref (ad 0)), (2, .ref (ad 110)), (3, .ref (ad 109)), (4, .int i)] [] m := by
  unfold f_law_27 at h
  refine l_aload_n C dL_law_1612 rfl 1 rfl ?_
  refine l_aload_n C dL_law_1613 rfl 0 rfl ?_
  refine l_iload C dL_law_1614 4 rfl ?_
  refine l_iconst C (v := 1) dL_law_1616 (by decide) ?_
  refine l_iadd C dL_law_1617 ?_
  refine l_iald C dL_law_1618 h (fun j227 _ h => ?_)
  refine l_aload_n C dL_law_1619 rfl 3 rfl ?_
  refine l_callS C (c_L_freeBlock (xs j227)) (by decide) (As := [.ref (ad 0), .int (xs j227), .ref (ad 109)]) (nn := 3) (stk := [.ref (ad 109), .int (xs j227), .ref (ad 0)]) dL_law_1620 gL_law_L_freeBlock ⟨by decide, by decide, by decide +kernel⟩ rfl rfl (by decide) rfl rfl (Nat.le_of_ble_eq_true rfl) (by omega) h (fun r228 m229 h => ?_)
  refine l_less C (b' := (16 * n + 14)) (by omega) ?_
  show V (16 * n + 14) 1623 [(0, .ref scr), (1, .ref (ad 0)), (2, .ref (ad 110)), (3, .ref (ad 109)), (4, .int i)] [.int r228] m229
  refine l_istore C dL_law_1623 (by decide) (show _ = [(5, .int r228), (0, .ref scr), (1, .ref (ad 0)), (2, .ref (ad 110)), (3, .ref (ad 109)), (4, .int i)] from rfl) ?_
  refine l_aload_n C dL_law_1625 rfl 3 rfl ?_
  refine l_aload_n C dL_law_1626 rfl 1 rfl ?_
  refine l_iload C dL_law_1627 5 rfl ?_
  refine l_iconst C (v := 1) dL_law_1629 (by decide) ?_
  refine l_iadd C dL_law_1630 ?_
  refine l_iald C dL_law_1631 h (fun j230 _ h => ?_)
  refine l_callV C (c_X10_freeBlock 29 (by omega) (xs j230)) (by decide) (As := [.int (xs j230)]) (nn := 1) (stk := [.int (xs j230), .ref (ad 110)]) (ci := 10) dL_law_1632 gL_law_X10_freeBlock ⟨rfl, by decide, by decide, by decide +kernel⟩ (by omega) la_110 rfl rfl rfl (by decide) rfl rfl (Nat.le_of_ble_eq_true rfl) (by omega) h (fun r231 m232 h => ?_)
  show V (16 * n + 14) 1635 [(5, .int r228), (0, .ref scr), (1, .ref (ad 0)), (2, .ref (ad 110)), (3, .ref (ad 109)), (4, .int i)] [.int r231] m232
  refine l_istore C dL_law_1635 (by decide) (show _ = [(6, .int r231), (5, .int r228), (0, .ref scr), (1, .ref (ad 0)), (2, .ref (ad 110)), (3, .ref (ad 109)), (4, .int i)] from rfl) ?_
  refine l_aload_n C dL_law_1637 rfl 4 rfl ?_
  refine l_callV C (c_X10_thrown 29 (by omega)) (by decide) (As := []) (nn := 0) (stk := [.ref (ad 110)]) (ci := 10) dL_law_1638 gL_law_X10_thrown ⟨rfl, by decide, by decide, by decide +kernel⟩ (by omega) la_110 rfl rfl rfl (by decide) rfl rfl (Nat.le_of_ble_eq_true rfl) (by omega) h (fun r233 m234 h => ?_)
  show V (16 * n + 14) 1641 [(6, .int r231), (5, .int r228), (0, .ref scr), (1, .ref (ad 0)), (2, .ref (ad 110)), (3, .ref (ad 109)), (4, .int i)] [.int r233] m234
  refine l_iload C dL_law_1641 1 rfl ?_
  refine l_icmp_eq C (tgt := 1648) dL_law_1643 (by decide) h (fun _ h => ?_) (fun _ h => ?_)
  · skip
    refine l_iload C dL_law_1648 1 rfl ?_
    refine s_join h (fun k1665 => k1665  = some res → V (16 * n + 14) 1665 [(0, .ref scr), (1, .ref (ad 0)), (2, .ref (ad 110)), (3, .ref (ad 109)), (4, .int i)] [] m234) ?_ (fun k1665 hk1665 h => ?_)
    · intro  h
      refine l_goto C (tgt := 2601) dL_law_1665 (by decide) ?_
      refine l_less C (b' := (16 * n + 0)) (by omega) ?_
      exact hk m234 h
    refine l_if_ne C (tgt := 1665) dL_law_1650 (by decide) h (fun _ h => ?_) (fun _ h => ?_)
    · skip
      refine l_aload_n C dL_law_1653 rfl 5 rfl ?_
      refine l_iconst C (v := 0) dL_law_1654 (by decide) ?_
      refine l_lald C dL_law_1655 (by omega) la_109 h (fun j235 _ h => ?_)
      refine l_iload C dL_law_1656 0 rfl ?_
      refine l_i2l C dL_law_1658 ?_
      refine l_lcmp C dL_law_1659 ?_
      refine l_if_eq C (tgt := 1665) dL_law_1660 (by decide) h (fun _ h => ?_) (fun _ h => ?_)
      · skip
        refine l_sub C [2, 3, 4, 5, 6] (show _ = [(0, .ref scr), (1, .ref (ad 0)), (2, .ref (ad 110)), (3, .ref (ad 109)), (4, .int i)] from rfl) ?_
        exact hk1665 h
      · skip
        refine l_iconst C (v := 0) dL_law_1663 (by decide) ?_
        exact l_iret C rfl dL_law_1664 h hres
    · skip
      refine l_sub C [2, 3, 4, 5, 6] (show _ = [(0, .ref scr), (1, .ref (ad 0)), (2, .ref (ad 110)), (3, .ref (ad 109)), (4, .int i)] from rfl) ?_
      exact hk1665 h
  · skip
    refine l_iconst C (v := 0) dL_law_1646 (by decide) ?_
    exact l_iret C rfl dL_law_1647 h hres
noncomputable def f_law_28 (xs : Nat → Int32) (L : Nat) (i : Int32) (kk : sM → Option (sR Int32)) (m : sM) : Option (sR Int32) :=
  s_bf 0 110 (f_L_wrongBlock m) m fun r236 m237 => s_bf 110 29 (f_X10_wrongBlock m237) m237 fun r238 m239 => s_bf 110 29 (f_X10_thrown m239) m239 fun r240 m241 => if r240 = r236 then (s_jn (kk  m241) fun k1709 => if r236 = 0 then (s_ix 0 1 fun j242 => if (lg_cmp (m241.2 109 j242) (Int32.toInt64 r238)) = 0 then (k1709) else (some (.inl 0, m241))) else (k1709)) else (some (.inl 0, m241))
set_option maxRecDepth 20000 in
set_option maxHeartbeats 4000000 in
theorem c_law_28 {ad : Nat → Nat} {xs : Nat → Int32} {L scr : Nat} {res : sR Int32} {V : sV} {m9 : sM} (C : sCL ad xs L scr RL cL_law 7 wsL_law res V) (hres : res = (.inl 1, m9)) (n : Nat) (i : Int32) (kk : sM → Option (sR Int32)) (m : sM) (hk : ∀ m, kk m = some res → V (16 * n + 0) 2601 [(0, .ref scr), (1, .ref (ad 0)), (2, .ref (ad 110)), (3, .ref (ad 109)), (4, .int i)] [] m) (h : f_law_28 xs L i kk m = some res) : V (16 * n + 16) 1668 [(0, .ref scr), (1, .ref (ad 0)), (2, .ref (ad 110)), (3, .ref (ad 109)), (4, .int i)] [] m := by
  unfold f_law_28 at h
  refine l_aload_n C dL_law_1668 rfl 1 rfl ?_
  refine l_aload_n C dL_law_1669 rfl 3 rfl ?_
  refine l_callS C c_L_wrongBlock (by decide) (As := [.ref (ad 0), .ref (ad 109)]) (nn := 2) (stk := [.ref (ad 109), .ref (ad 0)]) dL_law_1670 gL_law_L_wrongBlock ⟨by decide, by decide, by decide +kernel⟩ rfl rfl (by decide) rfl rfl (Nat.le_of_ble_eq_true rfl) (by omega) h (fun r236 m237 h => ?_)
  refine l_less C (b' := (16 * n + 15)) (by omega) ?_
  show V (16 * n + 15) 1673 [(0, .ref scr), (1, .ref (ad 0)), (2, .ref (ad 110)), (3, .ref (ad 109)), (4, .int i)] [.int r236] m237
  refine l_istore C dL_law_1673 (by decide) (show _ = [(5, .int r236), (0, .ref scr), (1, .ref (ad 0)), (2, .ref (ad 110)), (3, .ref (ad 109)), (4, .int i)] from rfl) ?_
  refine l_aload_n C dL_law_1675 rfl 3 rfl ?_
  refine l_callV C (c_X10_wrongBlock 29 (by omega)) (by decide) (As := []) (nn := 0) (stk := [.ref (ad 110)]) (ci := 10) dL_law_1676 gL_law_X10_wrongBlock ⟨rfl, by decide, by decide, by decide +kernel⟩ (by omega) la_110 rfl rfl rfl (by decide) rfl rfl (Nat.le_of_ble_eq_true rfl) (by omega) h (fun r238 m239 h => ?_)
  show V (16 * n + 15) 1679 [(5, .int r236), (0, .ref scr), (1, .ref (ad 0)), (2, .ref (ad 110)), (3, .ref (ad 109)), (4, .int i)] [.int r238] m239
  refine l_istore C dL_law_1679 (by decide) (show _ = [(6, .int r238), (5, .int r236), (0, .ref scr), (1, .ref (ad 0)), (2, .ref (ad 110)), (3, .ref (ad 109)), (4, .int i)] from rfl) ?_
  refine l_aload_n C dL_law_1681 rfl 4 rfl ?_
  refine l_callV C (c_X10_thrown 29 (by omega)) (by decide) (As := []) (nn := 0) (stk := [.ref (ad 110)]) (ci := 10) dL_law_1682 gL_law_X10_thrown ⟨rfl, by decide, by decide, by decide +kernel⟩ (by omega) la_110 rfl rfl rfl (by decide) rfl rfl (Nat.le_of_ble_eq_true rfl) (by omega) h (fun r240 m241 h => ?_)
  show V (16 * n + 15) 1685 [(6, .int r238), (5, .int r236), (0, .ref scr), (1, .ref (ad 0)), (2, .ref (ad 110)), (3, .ref (ad 109)), (4, .int i)] [.int r240] m241
  refine l_iload C dL_law_1685 1 rfl ?_
  refine l_icmp_eq C (tgt := 1692) dL_law_1687 (by decide) h (fun _ h => ?_) (fun _ h => ?_)
  · skip
    refine l_iload C dL_law_1692 1 rfl ?_
    refine s_join h (fun k1709 => k1709  = some res → V (16 * n + 15) 1709 [(0, .ref scr), (1, .ref (ad 0)), (2, .ref (ad 110)), (3, .ref (ad 109)), (4, .int i)] [] m241) ?_ (fun k1709 hk1709 h => ?_)
    · intro  h
      refine l_goto C (tgt := 2601) dL_law_1709 (by decide) ?_
      refine l_less C (b' := (16 * n + 0)) (by omega) ?_
      exact hk m241 h
    refine l_if_ne C (tgt := 1709) dL_law_1694 (by decide) h (fun _ h => ?_) (fun _ h => ?_)
    · skip
      refine l_aload_n C dL_law_1697 rfl 5 rfl ?_
      refine l_iconst C (v := 0) dL_law_1698 (by decide) ?_
      refine l_lald C dL_law_1699 (by omega) la_109 h (fun j242 _ h => ?_)
      refine l_iload C dL_law_1700 0 rfl ?_
      refine l_i2l C dL_law_1702 ?_
      refine l_lcmp C dL_law_1703 ?_
      refine l_if_eq C (tgt := 1709) dL_law_1704 (by decide) h (fun _ h => ?_) (fun _ h => ?_)
      · skip
        refine l_sub C [2, 3, 4, 5, 6] (show _ = [(0, .ref scr), (1, .ref (ad 0)), (2, .ref (ad 110)), (3, .ref (ad 109)), (4, .int i)] from rfl) ?_
        exact hk1709 h
      · skip
        refine l_iconst C (v := 0) dL_law_1707 (by decide) ?_
        exact l_iret C rfl dL_law_1708 h hres
    · skip
      refine l_sub C [2, 3, 4, 5, 6] (show _ = [(0, .ref scr), (1, .ref (ad 0)), (2, .ref (ad 110)), (3, .ref (ad 109)), (4, .int i)] from rfl) ?_
      exact hk1709 h
  · skip
    refine l_iconst C (v := 0) dL_law_1690 (by decide) ?_
    exact l_iret C rfl dL_law_1691 h hres
