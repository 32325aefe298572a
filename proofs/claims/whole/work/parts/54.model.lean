noncomputable def f_X10_isFree_L22 (y1_22 : Int32) (e63_22 : Int32 → sM → Option (sR Int32)) : Nat → Int32 → Int32 → sM → Option (sR Int32)
  | 0, _, _, _ => none
  | n + 1, x2_22, x3_22, m22_ =>
    if 2 ≤ x3_22 then (e63_22 x2_22 m22_) else (s_jn (fun (s0_56 : Int32) (m56_ : sM) => f_X10_isFree_L22 y1_22 e63_22 n s0_56 (x3_22 + 1) m56_) fun k56 => s_jn (fun (m55_ : sM) => k56 0 m55_) fun k55 => if x2_22 = 0 then (k55  m22_) else (s_ix x3_22 2 fun j1 => s_jn (fun (m51_ : sM) => k56 1 m51_) fun k51 => if (m22_.1 117 j1) = 0 then (k51  m22_) else (s_bd (f_X10_isUsedBy (1 + x3_22) y1_22 m22_) fun r2 m3 => if r2 = 0 then (k51  m3) else (k55  m3))))
noncomputable def f_X10_isFree (p1 : Int32) (m : sM) : Option (sR Int32) :=
  s_jn (fun (s0_19 : Int32) (m19_ : sM) => s_jn (fun (x2_63 : Int32) (m63_ : sM) => s_gd (x2_63 = 0 ∨ x2_63 = 1) (some (.inl x2_63, m63_))) fun e63_22 => f_X10_isFree_L22 p1 e63_22 5000 s0_19 0 m19_) fun k19 => s_jn (fun (m18_ : sM) => k19 0 m18_) fun k18 => if p1 < 2 then (k18  m) else (s_bd (f_X10_isUsedBy 0 p1 m) fun r4 m5 => if r4 = 0 then (k19 1 m5) else (k18  m5))
set_option maxRecDepth 20000 in
set_option maxHeartbeats 4000000 in
theorem c_X10_isFree (nw : Nat) (hnw : 29 ≤ nw) (p1 : Int32) : s_Con s_i 110 nw yX10_isFree wsX10_isFree 14 185 0 (f_X10_isFree p1) (fun ad => [.ref (ad 110), .int p1]) := by
  refine s_con_of cX10_isFree 4 (some .boolean) RX10 (by decide) rfl rfl (fun _ => Nat.le_of_ble_eq_true rfl) (fun ad m res V C h => ?_)
  unfold f_X10_isFree at h
  have F_i10 : ∀ w ∈ wsX100, w ∈ wsX10_isFree := by decide +kernel
  have F_k29 : Cond.fieldLink RX10 29 "ShadowFileModel" "isPinned" "[Z" ∈ wsX10_isFree := by decide +kernel
  show V 0 0 [(0, .ref (ad 110)), (1, .int p1)] [] m
  refine r_iload_n C dX10_isFree_0 rfl 1 rfl ?_
  refine r_iconst C (v := 2) dX10_isFree_1 (by decide) ?_
  refine s_join h (fun k19 => ∀ (s0_19 : Int32) (m19_ : sM), k19 s0_19 m19_ = some res → V 0 19 [(0, .ref (ad 110)), (1, .int p1)] [.int s0_19] m19_) ?_ (fun k19 hk19 h => ?_)
  · intro s0_19 m19_ h
    refine r_istore_n C dX10_isFree_19 rfl (by decide) (show _ = [(2, .int s0_19), (0, .ref (ad 110)), (1, .int p1)] from rfl) ?_
    refine r_iconst C (v := 0) dX10_isFree_20 (by decide) ?_
    refine r_istore_n C dX10_isFree_21 rfl (by decide) (show _ = [(3, .int 0), (2, .int s0_19), (0, .ref (ad 110)), (1, .int p1)] from rfl) ?_
    refine s_join h (fun e63_22 => ∀ (x2_63 : Int32) (m63_ : sM), e63_22 x2_63 m63_ = some res → V 0 63 [(2, .int x2_63)] [] m63_) ?_ (fun e63_22 he63_22 h => ?_)
    · intro x2_63 m63_ h
      refine r_iload_n C dX10_isFree_63 rfl 0 rfl ?_
      obtain ⟨hg, h⟩ := s_gd_of h
      exact r_zret C dX10_isFree_64 rfl (s_z hg) h
    have L22 : ∀ (n : Nat) (x2_22 : Int32) (x3_22 : Int32) (m22_ : sM), f_X10_isFree_L22 p1 e63_22 n x2_22 x3_22 m22_ = some res → V 0 22 [(0, .ref (ad 110)), (1, .int p1), (2, .int x2_22), (3, .int x3_22)] [] m22_ := by
      intro n
      induction n with
      | zero => intro x2_22 x3_22 m22_ h; rw [f_X10_isFree_L22] at h; cases h
      | succ n ih =>
        intro x2_22 x3_22 m22_ h
        rw [f_X10_isFree_L22] at h
        refine r_iload_n C dX10_isFree_22 rfl 3 rfl ?_
        refine r_iconst C (v := 2) dX10_isFree_23 (by decide) ?_
        refine r_icmp_ge C (tgt := 63) dX10_isFree_24 (by decide) h (fun _ h => ?_) (fun _ h => ?_)
        · skip
          refine r_sub C [2] (show _ = [(2, .int x2_22)] from rfl) ?_
          exact he63_22 x2_22 m22_ h
        · skip
          refine r_iload_n C dX10_isFree_27 rfl 2 rfl ?_
          refine s_join h (fun k56 => ∀ (s0_56 : Int32) (m56_ : sM), k56 s0_56 m56_ = some res → V 0 56 [(0, .ref (ad 110)), (1, .int p1), (3, .int x3_22)] [.int s0_56] m56_) ?_ (fun k56 hk56 h => ?_)
          · intro s0_56 m56_ h
            refine r_istore_n C dX10_isFree_56 rfl (by decide) (show _ = [(2, .int s0_56), (0, .ref (ad 110)), (1, .int p1), (3, .int x3_22)] from rfl) ?_
            refine r_iinc C (v := x3_22 + 1) dX10_isFree_57 3 rfl rfl (by decide) (show _ = [(3, .int (x3_22 + 1)), (2, .int s0_56), (0, .ref (ad 110)), (1, .int p1)] from rfl) ?_
            refine r_goto C (tgt := 22) dX10_isFree_60 (by decide) ?_
            refine r_sub C [2, 3, 1, 0] (show _ = [(0, .ref (ad 110)), (1, .int p1), (2, .int s0_56), (3, .int (x3_22 + 1))] from rfl) ?_
            exact ih s0_56 (x3_22 + 1) m56_ h
          refine s_join h (fun k55 => ∀ (m55_ : sM), k55 m55_ = some res → V 0 55 [(0, .ref (ad 110)), (1, .int p1), (3, .int x3_22)] [] m55_) ?_ (fun k55 hk55 h => ?_)
          · intro m55_ h
            refine r_iconst C (v := 0) dX10_isFree_55 (by decide) ?_
            exact hk56 0 m55_ h
          refine r_if_eq C (tgt := 55) dX10_isFree_28 (by decide) h (fun _ h => ?_) (fun _ h => ?_)
          · skip
            refine r_sub C [0, 1, 3] (show _ = [(0, .ref (ad 110)), (1, .int p1), (3, .int x3_22)] from rfl) ?_
            exact hk55 m22_ h
          · skip
            refine r_aload_n C dX10_isFree_31 rfl 0 rfl ?_
            refine r_getr C (ci := 10) (k9 := 9) dX10_isFree_32 rfl F_i10 (by decide) F_k29 (by omega) la_110 rfl ?_
            refine r_iload_n C dX10_isFree_35 rfl 3 rfl ?_
            refine r_zald C dX10_isFree_36 (by omega) la_117 h (fun j1 hj1 h => ?_)
            refine s_join h (fun k51 => ∀ (m51_ : sM), k51 m51_ = some res → V 0 51 [(0, .ref (ad 110)), (1, .int p1), (3, .int x3_22)] [] m51_) ?_ (fun k51 hk51 h => ?_)
            · intro m51_ h
              refine r_iconst C (v := 1) dX10_isFree_51 (by decide) ?_
              refine r_goto C (tgt := 56) dX10_isFree_52 (by decide) ?_
              exact hk56 1 m51_ h
            refine r_if_eq C (tgt := 51) dX10_isFree_37 (by decide) h (fun _ h => ?_) (fun _ h => ?_)
            · skip
              refine r_sub C [0, 1, 3] (show _ = [(0, .ref (ad 110)), (1, .int p1), (3, .int x3_22)] from rfl) ?_
              exact hk51 m22_ h
            · skip
              refine r_aload_n C dX10_isFree_40 rfl 0 rfl ?_
              refine r_iconst C (v := 1) dX10_isFree_41 (by decide) ?_
              refine r_iload_n C dX10_isFree_42 rfl 3 rfl ?_
              refine r_iadd C dX10_isFree_43 ?_
              refine r_iload_n C dX10_isFree_44 rfl 1 rfl ?_
              refine r_callV C (c_X10_isUsedBy nw hnw (1 + x3_22) p1) (As := [.int (1 + x3_22), .int p1]) (nn := 2) (stk := [.int p1, .int (1 + x3_22), .ref (ad 110)]) (ci := 10) dX10_isFree_45 gX10_isFree_X10_isUsedBy ⟨rfl, by decide, by decide, by decide +kernel⟩ (by omega) la_110 rfl rfl rfl (by decide) rfl rfl (Nat.le_of_ble_eq_true rfl) (by decide) h (fun r2 m3 h => ?_)
              show V 0 48 [(0, .ref (ad 110)), (1, .int p1), (2, .int x2_22), (3, .int x3_22)] [.int r2] m3
              refine r_if_ne C (tgt := 55) dX10_isFree_48 (by decide) h (fun _ h => ?_) (fun _ h => ?_)
              · skip
                refine r_sub C [0, 1, 3] (show _ = [(0, .ref (ad 110)), (1, .int p1), (3, .int x3_22)] from rfl) ?_
                exact hk51 m3 h
              · skip
                refine r_sub C [0, 1, 3] (show _ = [(0, .ref (ad 110)), (1, .int p1), (3, .int x3_22)] from rfl) ?_
                exact hk55 m3 h
    refine r_sub C [2, 3, 1, 0] (show _ = [(0, .ref (ad 110)), (1, .int p1), (2, .int s0_19), (3, .int 0)] from rfl) ?_
    exact L22 5000 s0_19 0 m19_ h
  refine s_join h (fun k18 => ∀ (m18_ : sM), k18 m18_ = some res → V 0 18 [(0, .ref (ad 110)), (1, .int p1)] [] m18_) ?_ (fun k18 hk18 h => ?_)
  · intro m18_ h
    refine r_iconst C (v := 0) dX10_isFree_18 (by decide) ?_
    exact hk19 0 m18_ h
  refine r_icmp_lt C (tgt := 18) dX10_isFree_2 (by decide) h (fun _ h => ?_) (fun _ h => ?_)
  · skip
    exact hk18 m h
  · skip
    refine r_aload_n C dX10_isFree_5 rfl 0 rfl ?_
    refine r_iconst C (v := 0) dX10_isFree_6 (by decide) ?_
    refine r_iload_n C dX10_isFree_7 rfl 1 rfl ?_
    refine r_callV C (c_X10_isUsedBy nw hnw 0 p1) (As := [.int 0, .int p1]) (nn := 2) (stk := [.int p1, .int 0, .ref (ad 110)]) (ci := 10) dX10_isFree_8 gX10_isFree_X10_isUsedBy ⟨rfl, by decide, by decide, by decide +kernel⟩ (by omega) la_110 rfl rfl rfl (by decide) rfl rfl (Nat.le_of_ble_eq_true rfl) (by decide) h (fun r4 m5 h => ?_)
    show V 0 11 [(0, .ref (ad 110)), (1, .int p1)] [.int r4] m5
    refine r_if_ne C (tgt := 18) dX10_isFree_11 (by decide) h (fun _ h => ?_) (fun _ h => ?_)
    · skip
      refine r_iconst C (v := 1) dX10_isFree_14 (by decide) ?_
      refine r_goto C (tgt := 19) dX10_isFree_15 (by decide) ?_
      exact hk19 1 m5 h
    · skip
      exact hk18 m5 h
noncomputable def f_X10_freeBlocks_L4 (e32_4 : Int32 → sM → Option (sR Int32)) : Nat → Int32 → Int32 → sM → Option (sR Int32)
  | 0, _, _, _ => none
  | n + 1, x1_4, x2_4, m4_ =>
    if 32 ≤ x2_4 then (e32_4 x1_4 m4_) else (s_bd (f_X10_isFree x2_4 m4_) fun r1 m2 => s_jn (fun (s0_24 : Int32) => f_X10_freeBlocks_L4 e32_4 n (x1_4 + s0_24) (x2_4 + 1) m2) fun k24 => if r1 = 0 then (k24 0) else (k24 1))
noncomputable def f_X10_freeBlocks (m : sM) : Option (sR Int32) :=
  s_jn (fun (x1_32 : Int32) (m32_ : sM) => some (.inl x1_32, m32_)) fun e32_4 => f_X10_freeBlocks_L4 e32_4 5000 0 0 m
set_option maxRecDepth 20000 in
set_option maxHeartbeats 4000000 in
theorem c_X10_freeBlocks (nw : Nat) (hnw : 29 ≤ nw) : s_Con s_i 110 nw yX10_freeBlocks wsX10_freeBlocks 16 230 0 (f_X10_freeBlocks) (fun ad => [.ref (ad 110)]) := by
  refine s_con_of cX10_freeBlocks 3 (some .int) RX10 (by decide) rfl rfl (fun _ => Nat.le_of_ble_eq_true rfl) (fun ad m res V C h => ?_)
  unfold f_X10_freeBlocks at h
  show V 0 0 [(0, .ref (ad 110))] [] m
  refine r_iconst C (v := 0) dX10_freeBlocks_0 (by decide) ?_
  refine r_istore_n C dX10_freeBlocks_1 rfl (by decide) (show _ = [(1, .int 0), (0, .ref (ad 110))] from rfl) ?_
  refine r_iconst C (v := 0) dX10_freeBlocks_2 (by decide) ?_
  refine r_istore_n C dX10_freeBlocks_3 rfl (by decide) (show _ = [(2, .int 0), (1, .int 0), (0, .ref (ad 110))] from rfl) ?_
  refine s_join h (fun e32_4 => ∀ (x1_32 : Int32) (m32_ : sM), e32_4 x1_32 m32_ = some res → V 0 32 [(1, .int x1_32)] [] m32_) ?_ (fun e32_4 he32_4 h => ?_)
  · intro x1_32 m32_ h
    refine r_iload_n C dX10_freeBlocks_32 rfl 0 rfl ?_
    exact r_iret C dX10_freeBlocks_33 rfl h
  have L4 : ∀ (n : Nat) (x1_4 : Int32) (x2_4 : Int32) (m4_ : sM), f_X10_freeBlocks_L4 e32_4 n x1_4 x2_4 m4_ = some res → V 0 4 [(0, .ref (ad 110)), (1, .int x1_4), (2, .int x2_4)] [] m4_ := by
    intro n
    induction n with
    | zero => intro x1_4 x2_4 m4_ h; rw [f_X10_freeBlocks_L4] at h; cases h
    | succ n ih =>
      intro x1_4 x2_4 m4_ h
      rw [f_X10_freeBlocks_L4] at h
      refine r_iload_n C dX10_freeBlocks_4 rfl 2 rfl ?_
      refine r_bipush C (v := 32) dX10_freeBlocks_5 (by decide) ?_
      refine r_icmp_ge C (tgt := 32) dX10_freeBlocks_7 (by decide) h (fun _ h => ?_) (fun _ h => ?_)
      · skip
        refine r_sub C [1] (show _ = [(1, .int x1_4)] from rfl) ?_
        exact he32_4 x1_4 m4_ h
      · skip
        refine r_iload_n C dX10_freeBlocks_10 rfl 1 rfl ?_
        refine r_aload_n C dX10_freeBlocks_11 rfl 0 rfl ?_
        refine r_iload_n C dX10_freeBlocks_12 rfl 2 rfl ?_
        refine r_callV C (c_X10_isFree nw hnw x2_4) (As := [.int x2_4]) (nn := 1) (stk := [.int x2_4, .ref (ad 110), .int x1_4]) (ci := 10) dX10_freeBlocks_13 gX10_freeBlocks_X10_isFree ⟨rfl, by decide, by decide, by decide +kernel⟩ (by omega) la_110 rfl rfl rfl (by decide) rfl rfl (Nat.le_of_ble_eq_true rfl) (by decide) h (fun r1 m2 h => ?_)
        show V 0 16 [(0, .ref (ad 110)), (1, .int x1_4), (2, .int x2_4)] [.int r1, .int x1_4] m2
        refine s_join h (fun k24 => ∀ (s0_24 : Int32), k24 s0_24 = some res → V 0 24 [(0, .ref (ad 110)), (2, .int x2_4)] [.int s0_24, .int x1_4] m2) ?_ (fun k24 hk24 h => ?_)
        · intro s0_24 h
          refine r_iadd C dX10_freeBlocks_24 ?_
          refine r_istore_n C dX10_freeBlocks_25 rfl (by decide) (show _ = [(1, .int (x1_4 + s0_24)), (0, .ref (ad 110)), (2, .int x2_4)] from rfl) ?_
          refine r_iinc C (v := x2_4 + 1) dX10_freeBlocks_26 2 rfl rfl (by decide) (show _ = [(2, .int (x2_4 + 1)), (1, .int (x1_4 + s0_24)), (0, .ref (ad 110))] from rfl) ?_
          refine r_goto C (tgt := 4) dX10_freeBlocks_29 (by decide) ?_
          refine r_sub C [2, 1, 0] (show _ = [(0, .ref (ad 110)), (1, .int (x1_4 + s0_24)), (2, .int (x2_4 + 1))] from rfl) ?_
          exact ih (x1_4 + s0_24) (x2_4 + 1) m2 h
        refine r_if_eq C (tgt := 23) dX10_freeBlocks_16 (by decide) h (fun _ h => ?_) (fun _ h => ?_)
        · skip
          refine r_iconst C (v := 0) dX10_freeBlocks_23 (by decide) ?_
          refine r_sub C [0, 2] (show _ = [(0, .ref (ad 110)), (2, .int x2_4)] from rfl) ?_
          exact hk24 0 h
        · skip
          refine r_iconst C (v := 1) dX10_freeBlocks_19 (by decide) ?_
          refine r_goto C (tgt := 24) dX10_freeBlocks_20 (by decide) ?_
          refine r_sub C [0, 2] (show _ = [(0, .ref (ad 110)), (2, .int x2_4)] from rfl) ?_
          exact hk24 1 h
  refine r_sub C [2, 1, 0] (show _ = [(0, .ref (ad 110)), (1, .int 0), (2, .int 0)] from rfl) ?_
  exact L4 5000 0 0 m h
noncomputable def f_X10_clearDraft_L2 (y1_2 : Int32) (y2_2 : Int32) (e21_2 : sM → Option (sR Unit)) : Nat → Int32 → sM → Option (sR Unit)
  | 0, _, _ => none
  | n + 1, x3_2, m2_ =>
    if 13 ≤ x3_2 then (e21_2  m2_) else (s_ix x3_2 13 fun j5 => s_md (s_up m2_ 138 j5 0) fun m6 => f_X10_clearDraft_L2 y1_2 y2_2 e21_2 n (x3_2 + 1) m6)
noncomputable def f_X10_clearDraft (p1 : Int32) (p2 : Int32) (m : sM) : Option (sR Unit) :=
  s_jn (fun (m21_ : sM) => s_ix 0 13 fun j1 => s_md (s_up m21_ 138 j1 p1) fun m2 => s_ix 1 13 fun j3 => s_md (s_up m2 138 j3 p2) fun m4 => some (.inl (), m4)) fun e21_2 => f_X10_clearDraft_L2 p1 p2 e21_2 5000 0 m
set_option maxRecDepth 20000 in
set_option maxHeartbeats 4000000 in
theorem c_X10_clearDraft (nw : Nat) (hnw : 29 ≤ nw) (p1 : Int32) (p2 : Int32) : s_Con s_u 110 nw yX10_clearDraft wsX10_clearDraft 12 140 0 (f_X10_clearDraft p1 p2) (fun ad => [.ref (ad 110), .int p1, .int p2]) := by
  refine s_con_of cX10_clearDraft 4 none RX10 (by decide) rfl rfl (fun _ => Nat.le_of_ble_eq_true rfl) (fun ad m res V C h => ?_)
  unfold f_X10_clearDraft at h
  have F_i10 : ∀ w ∈ wsX100, w ∈ wsX10_clearDraft := by decide +kernel
  have F_k93 : Cond.fieldLink RX10 93 "ShadowFileModel" "draft" "[I" ∈ wsX10_clearDraft := by decide +kernel
  show V 0 0 [(0, .ref (ad 110)), (1, .int p1), (2, .int p2)] [] m
  refine r_iconst C (v := 0) dX10_clearDraft_0 (by decide) ?_
  refine r_istore_n C dX10_clearDraft_1 rfl (by decide) (show _ = [(3, .int 0), (0, .ref (ad 110)), (1, .int p1), (2, .int p2)] from rfl) ?_
  refine s_join h (fun e21_2 => ∀ (m21_ : sM), e21_2 m21_ = some res → V 0 21 [(0, .ref (ad 110)), (1, .int p1), (2, .int p2)] [] m21_) ?_ (fun e21_2 he21_2 h => ?_)
  · intro m21_ h
    refine r_aload_n C dX10_clearDraft_21 rfl 0 rfl ?_
    refine r_getr C (ci := 10) (k9 := 36) dX10_clearDraft_22 rfl F_i10 (by decide) F_k93 (by omega) la_110 rfl ?_
    refine r_iconst C (v := 0) dX10_clearDraft_25 (by decide) ?_
    refine r_iload_n C dX10_clearDraft_26 rfl 1 rfl ?_
    refine r_iast C dX10_clearDraft_27 (by omega) la_138 h (fun j1 m2 hj1 _ h => ?_)
    refine r_aload_n C dX10_clearDraft_28 rfl 0 rfl ?_
    refine r_getr C (ci := 10) (k9 := 36) dX10_clearDraft_29 rfl F_i10 (by decide) F_k93 (by omega) la_110 rfl ?_
    refine r_iconst C (v := 1) dX10_clearDraft_32 (by decide) ?_
    refine r_iload_n C dX10_clearDraft_33 rfl 2 rfl ?_
    refine r_iast C dX10_clearDraft_34 (by omega) la_138 h (fun j3 m4 hj3 _ h => ?_)
    exact r_vret C dX10_clearDraft_35 rfl h
  have L2 : ∀ (n : Nat) (x3_2 : Int32) (m2_ : sM), f_X10_clearDraft_L2 p1 p2 e21_2 n x3_2 m2_ = some res → V 0 2 [(0, .ref (ad 110)), (1, .int p1), (2, .int p2), (3, .int x3_2)] [] m2_ := by
    intro n
    induction n with
    | zero => intro x3_2 m2_ h; rw [f_X10_clearDraft_L2] at h; cases h
    | succ n ih =>
      intro x3_2 m2_ h
      rw [f_X10_clearDraft_L2] at h
      refine r_iload_n C dX10_clearDraft_2 rfl 3 rfl ?_
      refine r_bipush C (v := 13) dX10_clearDraft_3 (by decide) ?_
      refine r_icmp_ge C (tgt := 21) dX10_clearDraft_5 (by decide) h (fun _ h => ?_) (fun _ h => ?_)
      · skip
        refine r_sub C [0, 1, 2] (show _ = [(0, .ref (ad 110)), (1, .int p1), (2, .int p2)] from rfl) ?_
        exact he21_2 m2_ h
      · skip
        refine r_aload_n C dX10_clearDraft_8 rfl 0 rfl ?_
        refine r_getr C (ci := 10) (k9 := 36) dX10_clearDraft_9 rfl F_i10 (by decide) F_k93 (by omega) la_110 rfl ?_
        refine r_iload_n C dX10_clearDraft_12 rfl 3 rfl ?_
        refine r_iconst C (v := 0) dX10_clearDraft_13 (by decide) ?_
        refine r_iast C dX10_clearDraft_14 (by omega) la_138 h (fun j5 m6 hj5 _ h => ?_)
        refine r_iinc C (v := x3_2 + 1) dX10_clearDraft_15 3 rfl rfl (by decide) (show _ = [(3, .int (x3_2 + 1)), (0, .ref (ad 110)), (1, .int p1), (2, .int p2)] from rfl) ?_
        refine r_goto C (tgt := 2) dX10_clearDraft_18 (by decide) ?_
        refine r_sub C [1, 2, 3, 0] (show _ = [(0, .ref (ad 110)), (1, .int p1), (2, .int p2), (3, .int (x3_2 + 1))] from rfl) ?_
        exact ih (x3_2 + 1) m6 h
  refine r_sub C [1, 2, 3, 0] (show _ = [(0, .ref (ad 110)), (1, .int p1), (2, .int p2), (3, .int 0)] from rfl) ?_
  exact L2 5000 0 m h
noncomputable def f_X10_write_L7 (y1_7 : Int32) (m : sM) (e31_7 : Int32 → Option (sR Unit)) : Nat → Int32 → Int32 → Option (sR Unit)
  | 0, _, _ => none
  | n + 1, x2_7, x3_7 =>
    if 12 ≤ x3_7 then (e31_7 x2_7) else (s_ix x3_7 13 fun j5 => f_X10_write_L7 y1_7 m e31_7 n ((31 * x2_7) + (m.1 138 j5)) (x3_7 + 1))
noncomputable def f_X10_write (p1 : Int32) (m : sM) : Option (sR Unit) :=
  s_jn (fun (x2_31 : Int32) => s_ix 12 13 fun j1 => s_md (s_up m 138 j1 x2_31) fun m2 => s_jn (fun (s0_64 : Int32) => s_gd (¬ (0 : Int32) < 0 ∧ ¬ (13 * p1) < 0 ∧ ¬ s0_64 < 0 ∧ (0 : Int32).toNatClampNeg + s0_64.toNatClampNeg ≤ 13 ∧ (13 * p1).toNatClampNeg + s0_64.toNatClampNeg ≤ 416 ∧ ∀ i, i < s0_64.toNatClampNeg → fits .int (.int (m2.1 138 ((0 : Int32).toNatClampNeg + i))) = true) (s_md (s_cp m2 138 111 (0 : Int32).toNatClampNeg (13 * p1).toNatClampNeg s0_64.toNatClampNeg) fun m3 => s_md (s_up m3 110 37 ((m3.1 110 37) - 1)) fun m4 => some (.inl (), m4))) fun k64 => if (m2.1 110 37) ≤ 0 then (if (m2.1 110 37) = 0 then (k64 6) else (k64 0)) else (k64 13)) fun e31_7 => f_X10_write_L7 p1 m e31_7 5000 (p1 + 17) 0
set_option maxRecDepth 20000 in
set_option maxHeartbeats 4000000 in
theorem c_X10_write (nw : Nat) (hnw : 29 ≤ nw) (p1 : Int32) : s_Con s_u 110 nw yX10_write wsX10_write 12 140 0 (f_X10_write p1) (fun ad => [.ref (ad 110), .int p1]) := by
  refine s_con_of cX10_write 4 none RX10 (by decide) rfl rfl (fun _ => Nat.le_of_ble_eq_true rfl) (fun ad m res V C h => ?_)
  unfold f_X10_write at h
  have F_i10 : ∀ w ∈ wsX100, w ∈ wsX10_write := by decide +kernel
  have F_k93 : Cond.fieldLink RX10 93 "ShadowFileModel" "draft" "[I" ∈ wsX10_write := by decide +kernel
  have F_k227 : Cond.fieldLink RX10 227 "ShadowFileModel" "power" "I" ∈ wsX10_write := by decide +kernel
  have F_k9 : Cond.fieldLink RX10 9 "ShadowFileModel" "disk" "[I" ∈ wsX10_write := by decide +kernel
  have F_c164 : Cond.methodLink RX10 164 arraycopyName ∈ wsX10_write := by decide +kernel
  have F_cnat : Cond.native arraycopyName ∈ wsX10_write := by decide +kernel
  have F_csta : Cond.static arraycopyName ∈ wsX10_write := by decide +kernel
  have F_cini : Cond.initialized "java/lang/System" ∈ wsX10_write := by decide +kernel
  show V 0 0 [(0, .ref (ad 110)), (1, .int p1)] [] m
  refine r_iload_n C dX10_write_0 rfl 1 rfl ?_
  refine r_bipush C (v := 17) dX10_write_1 (by decide) ?_
  refine r_iadd C dX10_write_3 ?_
  refine r_istore_n C dX10_write_4 rfl (by decide) (show _ = [(2, .int (p1 + 17)), (0, .ref (ad 110)), (1, .int p1)] from rfl) ?_
  refine r_iconst C (v := 0) dX10_write_5 (by decide) ?_
  refine r_istore_n C dX10_write_6 rfl (by decide) (show _ = [(3, .int 0), (2, .int (p1 + 17)), (0, .ref (ad 110)), (1, .int p1)] from rfl) ?_
  refine s_join h (fun e31_7 => ∀ (x2_31 : Int32), e31_7 x2_31 = some res → V 0 31 [(0, .ref (ad 110)), (1, .int p1), (2, .int x2_31)] [] m) ?_ (fun e31_7 he31_7 h => ?_)
  · intro x2_31 h
    refine r_aload_n C dX10_write_31 rfl 0 rfl ?_
    refine r_getr C (ci := 10) (k9 := 36) dX10_write_32 rfl F_i10 (by decide) F_k93 (by omega) la_110 rfl ?_
    refine r_bipush C (v := 12) dX10_write_35 (by decide) ?_
    refine r_iload_n C dX10_write_37 rfl 2 rfl ?_
    refine r_iast C dX10_write_38 (by omega) la_138 h (fun j1 m2 hj1 _ h => ?_)
    refine r_aload_n C dX10_write_39 rfl 0 rfl ?_
    refine r_geti C (ci := 10) (k9 := 37) dX10_write_40 rfl F_i10 (by decide) F_k227 (by omega) la_110 rfl ?_
    refine s_join h (fun k64 => ∀ (s0_64 : Int32), k64 s0_64 = some res → V 0 64 [(0, .ref (ad 110)), (1, .int p1)] [.int s0_64] m2) ?_ (fun k64 hk64 h => ?_)
    · intro s0_64 h
      refine r_istore_n C dX10_write_64 rfl (by decide) (show _ = [(3, .int s0_64), (0, .ref (ad 110)), (1, .int p1)] from rfl) ?_
      refine r_aload_n C dX10_write_65 rfl 1 rfl ?_
      refine r_getr C (ci := 10) (k9 := 36) dX10_write_66 rfl F_i10 (by decide) F_k93 (by omega) la_110 rfl ?_
      refine r_iconst C (v := 0) dX10_write_69 (by decide) ?_
      refine r_aload_n C dX10_write_70 rfl 1 rfl ?_
      refine r_getr C (ci := 10) (k9 := 1) dX10_write_71 rfl F_i10 (by decide) F_k9 (by omega) la_110 rfl ?_
      refine r_bipush C (v := 13) dX10_write_74 (by decide) ?_
      refine r_iload_n C dX10_write_76 rfl 2 rfl ?_
      refine r_imul C dX10_write_77 ?_
      refine r_iload_n C dX10_write_78 rfl 0 rfl ?_
      refine r_copy C dX10_write_79 F_c164 F_cnat F_csta F_cini (by omega) (by omega) la_138 la_111 (by decide) (fun _ => rfl) rfl (by decide) (Nat.le_of_ble_eq_true rfl) h (fun m3 _ h => ?_)
      refine r_aload_n C dX10_write_82 rfl 1 rfl ?_
      refine r_dup C dX10_write_83 rfl ?_
      refine r_geti C (ci := 10) (k9 := 37) dX10_write_84 rfl F_i10 (by decide) F_k227 (by omega) la_110 rfl ?_
      refine r_iconst C (v := 1) dX10_write_87 (by decide) ?_
      refine r_isub C dX10_write_88 ?_
      refine r_puti C (ci := 10) (k9 := 37) dX10_write_89 rfl F_i10 (by decide) F_k227 (by omega) la_110 rfl tyX10 tyX10_ok nmX10 rfl (tyX10_ok 37 (by decide)) rfl rfl h (fun m4 _ h => ?_)
      exact r_vret C dX10_write_92 rfl h
    refine r_if_le C (tgt := 51) dX10_write_43 (by decide) h (fun _ h => ?_) (fun _ h => ?_)
    · skip
      refine r_aload_n C dX10_write_51 rfl 0 rfl ?_
      refine r_geti C (ci := 10) (k9 := 37) dX10_write_52 rfl F_i10 (by decide) F_k227 (by omega) la_110 rfl ?_
      refine r_if_ne C (tgt := 63) dX10_write_55 (by decide) h (fun _ h => ?_) (fun _ h => ?_)
      · skip
        refine r_bipush C (v := 6) dX10_write_58 (by decide) ?_
        refine r_goto C (tgt := 64) dX10_write_60 (by decide) ?_
        refine r_sub C [0, 1] (show _ = [(0, .ref (ad 110)), (1, .int p1)] from rfl) ?_
        exact hk64 6 h
      · skip
        refine r_iconst C (v := 0) dX10_write_63 (by decide) ?_
        refine r_sub C [0, 1] (show _ = [(0, .ref (ad 110)), (1, .int p1)] from rfl) ?_
        exact hk64 0 h
    · skip
      refine r_bipush C (v := 13) dX10_write_46 (by decide) ?_
      refine r_goto C (tgt := 64) dX10_write_48 (by decide) ?_
      refine r_sub C [0, 1] (show _ = [(0, .ref (ad 110)), (1, .int p1)] from rfl) ?_
      exact hk64 13 h
  have L7 : ∀ (n : Nat) (x2_7 : Int32) (x3_7 : Int32), f_X10_write_L7 p1 m e31_7 n x2_7 x3_7 = some res → V 0 7 [(0, .ref (ad 110)), (1, .int p1), (2, .int x2_7), (3, .int x3_7)] [] m := by
    intro n
    induction n with
    | zero => intro x2_7 x3_7 h; rw [f_X10_write_L7] at h; cases h
    | succ n ih =>
      intro x2_7 x3_7 h
      rw [f_X10_write_L7] at h
      refine r_iload_n C dX10_write_7 rfl 3 rfl ?_
      refine r_bipush C (v := 12) dX10_write_8 (by decide) ?_
      refine r_icmp_ge C (tgt := 31) dX10_write_10 (by decide) h (fun _ h => ?_) (fun _ h => ?_)
      · skip
        refine r_sub C [0, 1, 2] (show _ = [(0, .ref (ad 110)), (1, .int p1), (2, .int x2_7)] from rfl) ?_
        exact he31_7 x2_7 h
      · skip
        refine r_bipush C (v := 31) dX10_write_13 (by decide) ?_
        refine r_iload_n C dX10_write_15 rfl 2 rfl ?_
        refine r_imul C dX10_write_16 ?_
        refine r_aload_n C dX10_write_17 rfl 0 rfl ?_
        refine r_getr C (ci := 10) (k9 := 36) dX10_write_18 rfl F_i10 (by decide) F_k93 (by omega) la_110 rfl ?_
        refine r_iload_n C dX10_write_21 rfl 3 rfl ?_
        refine r_iald C dX10_write_22 (by omega) la_138 h (fun j5 hj5 h => ?_)
        refine r_iadd C dX10_write_23 ?_
        refine r_istore_n C dX10_write_24 rfl (by decide) (show _ = [(2, .int ((31 * x2_7) + (m.1 138 j5))), (0, .ref (ad 110)), (1, .int p1), (3, .int x3_7)] from rfl) ?_
        refine r_iinc C (v := x3_7 + 1) dX10_write_25 3 rfl rfl (by decide) (show _ = [(3, .int (x3_7 + 1)), (2, .int ((31 * x2_7) + (m.1 138 j5))), (0, .ref (ad 110)), (1, .int p1)] from rfl) ?_
        refine r_goto C (tgt := 7) dX10_write_28 (by decide) ?_
        refine r_sub C [2, 3, 1, 0] (show _ = [(0, .ref (ad 110)), (1, .int p1), (2, .int ((31 * x2_7) + (m.1 138 j5))), (3, .int (x3_7 + 1))] from rfl) ?_
        exact ih ((31 * x2_7) + (m.1 138 j5)) (x3_7 + 1) h
  refine r_sub C [2, 3, 1, 0] (show _ = [(0, .ref (ad 110)), (1, .int p1), (2, .int (p1 + 17)), (3, .int 0)] from rfl) ?_
  exact L7 5000 (p1 + 17) 0 h
noncomputable def f_X10_logCommit_L41 (y1_41 : Int32) (y2_41 : Int32) (e76_41 : sM → Option (sR Unit)) : Nat → Int32 → sM → Option (sR Unit)
  | 0, _, _ => none
  | n + 1, x3_41, m41_ =>
    if 8 ≤ x3_41 then (e76_41  m41_) else (s_ix 2 32 fun j20 => s_ix x3_41 8 fun j21 => s_jn (fun (s0_68 : Int32) => s_ix 2 32 fun j22 => s_md (s_up m41_ 129 j22 ((m41_.1 129 j20) + s0_68)) fun m23 => f_X10_logCommit_L41 y1_41 y2_41 e76_41 n (x3_41 + 1) m23) fun k68 => if (m41_.1 135 j21) = 0 then (k68 0) else (k68 1))
noncomputable def f_X10_logCommit (p1 : Int32) (p2 : Int32) (m : sM) : Option (sR Unit) :=
  s_gd (¬ (0 : Int32) < 0 ∧ ¬ (4 : Int32) < 0 ∧ ¬ (28 : Int32) < 0 ∧ (0 : Int32).toNatClampNeg + (28 : Int32).toNatClampNeg ≤ 32 ∧ (4 : Int32).toNatClampNeg + (28 : Int32).toNatClampNeg ≤ 32 ∧ ∀ i, i < (28 : Int32).toNatClampNeg → fits .int (.int (m.1 129 ((0 : Int32).toNatClampNeg + i))) = true) (s_md (s_cp m 129 129 (0 : Int32).toNatClampNeg (4 : Int32).toNatClampNeg (28 : Int32).toNatClampNeg) fun m1 => s_ix 0 32 fun j2 => s_md (s_up m1 129 j2 p1) fun m3 => s_ix 1 32 fun j4 => s_md (s_up m3 129 j4 (m3.1 110 19)) fun m5 => s_ix 2 32 fun j6 => s_md (s_up m5 129 j6 0) fun m7 => s_jn (fun (m76_ : sM) => s_ix 3 32 fun j8 => s_md (s_up m76_ 129 j8 p2) fun m9 => s_md (s_up m9 110 25 (if ((m9.1 110 25) + 1) < 8 then ((m9.1 110 25) + 1) else 8)) fun m10 => s_jn (fun (s0_111 : Int32) => s_ix s0_111 8 fun j11 => s_ix s0_111 8 fun j12 => s_md (s_up m10 130 j12 ((m10.1 130 j11) + 1)) fun m13 => s_ix 2 8 fun j14 => s_ix 2 8 fun j15 => s_md (s_up m13 130 j15 ((m13.1 130 j14) + p2)) fun m16 => s_ix 3 8 fun j17 => s_jn (fun (s0_142 : Int32) => s_ix 3 8 fun j18 => s_md (s_up m16 130 j18 ((m16.1 130 j17) + s0_142)) fun m19 => some (.inl (), m19)) fun k142 => if 0 ≤ p1 then (k142 0) else (k142 1)) fun k111 => if 0 ≤ p1 then (k111 0) else (k111 1)) fun e76_41 => f_X10_logCommit_L41 p1 p2 e76_41 5000 0 m7)
set_option maxRecDepth 20000 in
set_option maxHeartbeats 4000000 in
theorem c_X10_logCommit (nw : Nat) (hnw : 29 ≤ nw) (p1 : Int32) (p2 : Int32) : s_Con s_u 110 nw yX10_logCommit wsX10_logCommit 12 140 0 (f_X10_logCommit p1 p2) (fun ad => [.ref (ad 110), .int p1, .int p2]) := by
  refine s_con_of cX10_logCommit 4 none RX10 (by decide) rfl rfl (fun _ => Nat.le_of_ble_eq_true rfl) (fun ad m res V C h => ?_)
  unfold f_X10_logCommit at h
  have F_i10 : ∀ w ∈ wsX100, w ∈ wsX10_logCommit := by decide +kernel
  have F_k66 : Cond.fieldLink RX10 66 "ShadowFileModel" "log" "[I" ∈ wsX10_logCommit := by decide +kernel
  have F_c164 : Cond.methodLink RX10 164 arraycopyName ∈ wsX10_logCommit := by decide +kernel
  have F_cnat : Cond.native arraycopyName ∈ wsX10_logCommit := by decide +kernel
  have F_csta : Cond.static arraycopyName ∈ wsX10_logCommit := by decide +kernel
  have F_cini : Cond.initialized "java/lang/System" ∈ wsX10_logCommit := by decide +kernel
  have F_k133 : Cond.fieldLink RX10 133 "ShadowFileModel" "ready" "I" ∈ wsX10_logCommit := by decide +kernel
  have F_k230 : Cond.fieldLink RX10 230 "ShadowFileModel" "logged" "I" ∈ wsX10_logCommit := by decide +kernel
  have F_c233 : Cond.methodLink RX10 233 Lib.Math.min.name ∈ wsX10_logCommit := by decide +kernel
  have F_msta : Cond.static Lib.Math.min.name ∈ wsX10_logCommit := by decide +kernel
  have F_mini : Cond.initialized "java/lang/Math" ∈ wsX10_logCommit := by decide +kernel
  have F_mcod : Cond.code Lib.Math.min.name Lib.Math.min.code 2 (some .int) ∈ wsX10_logCommit := by decide +kernel
  have F_k69 : Cond.fieldLink RX10 69 "ShadowFileModel" "statistics" "[I" ∈ wsX10_logCommit := by decide +kernel
  have F_k84 : Cond.fieldLink RX10 84 "ShadowFileModel" "isAffected" "[Z" ∈ wsX10_logCommit := by decide +kernel
  show V 0 0 [(0, .ref (ad 110)), (1, .int p1), (2, .int p2)] [] m
  refine r_aload_n C dX10_logCommit_0 rfl 0 rfl ?_
  refine r_getr C (ci := 10) (k9 := 24) dX10_logCommit_1 rfl F_i10 (by decide) F_k66 (by omega) la_110 rfl ?_
  refine r_iconst C (v := 0) dX10_logCommit_4 (by decide) ?_
  refine r_aload_n C dX10_logCommit_5 rfl 0 rfl ?_
  refine r_getr C (ci := 10) (k9 := 24) dX10_logCommit_6 rfl F_i10 (by decide) F_k66 (by omega) la_110 rfl ?_
  refine r_iconst C (v := 4) dX10_logCommit_9 (by decide) ?_
  refine r_bipush C (v := 28) dX10_logCommit_10 (by decide) ?_
  refine r_copy C dX10_logCommit_12 F_c164 F_cnat F_csta F_cini (by omega) (by omega) la_129 la_129 (by decide) (fun _ => rfl) rfl (by decide) (Nat.le_of_ble_eq_true rfl) h (fun m1 _ h => ?_)
  refine r_aload_n C dX10_logCommit_15 rfl 0 rfl ?_
  refine r_getr C (ci := 10) (k9 := 24) dX10_logCommit_16 rfl F_i10 (by decide) F_k66 (by omega) la_110 rfl ?_
  refine r_iconst C (v := 0) dX10_logCommit_19 (by decide) ?_
  refine r_iload_n C dX10_logCommit_20 rfl 1 rfl ?_
  refine r_iast C dX10_logCommit_21 (by omega) la_129 h (fun j2 m3 hj2 _ h => ?_)
  refine r_aload_n C dX10_logCommit_22 rfl 0 rfl ?_
  refine r_getr C (ci := 10) (k9 := 24) dX10_logCommit_23 rfl F_i10 (by decide) F_k66 (by omega) la_110 rfl ?_
  refine r_iconst C (v := 1) dX10_logCommit_26 (by decide) ?_
  refine r_aload_n C dX10_logCommit_27 rfl 0 rfl ?_
  refine r_geti C (ci := 10) (k9 := 19) dX10_logCommit_28 rfl F_i10 (by decide) F_k133 (by omega) la_110 rfl ?_
  refine r_iast C dX10_logCommit_31 (by omega) la_129 h (fun j4 m5 hj4 _ h => ?_)
  refine r_aload_n C dX10_logCommit_32 rfl 0 rfl ?_
  refine r_getr C (ci := 10) (k9 := 24) dX10_logCommit_33 rfl F_i10 (by decide) F_k66 (by omega) la_110 rfl ?_
  refine r_iconst C (v := 2) dX10_logCommit_36 (by decide) ?_
  refine r_iconst C (v := 0) dX10_logCommit_37 (by decide) ?_
  refine r_iast C dX10_logCommit_38 (by omega) la_129 h (fun j6 m7 hj6 _ h => ?_)
  refine r_iconst C (v := 0) dX10_logCommit_39 (by decide) ?_
  refine r_istore_n C dX10_logCommit_40 rfl (by decide) (show _ = [(3, .int 0), (0, .ref (ad 110)), (1, .int p1), (2, .int p2)] from rfl) ?_
  refine s_join h (fun e76_41 => ∀ (m76_ : sM), e76_41 m76_ = some res → V 0 76 [(0, .ref (ad 110)), (1, .int p1), (2, .int p2)] [] m76_) ?_ (fun e76_41 he76_41 h => ?_)
  · intro m76_ h
    refine r_aload_n C dX10_logCommit_76 rfl 0 rfl ?_
    refine r_getr C (ci := 10) (k9 := 24) dX10_logCommit_77 rfl F_i10 (by decide) F_k66 (by omega) la_110 rfl ?_
    refine r_iconst C (v := 3) dX10_logCommit_80 (by decide) ?_
    refine r_iload_n C dX10_logCommit_81 rfl 2 rfl ?_
    refine r_iast C dX10_logCommit_82 (by omega) la_129 h (fun j8 m9 hj8 _ h => ?_)
    refine r_aload_n C dX10_logCommit_83 rfl 0 rfl ?_
    refine r_bipush C (v := 8) dX10_logCommit_84 (by decide) ?_
    refine r_aload_n C dX10_logCommit_86 rfl 0 rfl ?_
    refine r_geti C (ci := 10) (k9 := 25) dX10_logCommit_87 rfl F_i10 (by decide) F_k230 (by omega) la_110 rfl ?_
    refine r_iconst C (v := 1) dX10_logCommit_90 (by decide) ?_
    refine r_iadd C dX10_logCommit_91 ?_
    refine r_min C dX10_logCommit_92 F_c233 F_msta F_mini F_mcod (by decide) (Nat.le_of_ble_eq_true rfl) ?_
    refine r_puti C (ci := 10) (k9 := 25) dX10_logCommit_95 rfl F_i10 (by decide) F_k230 (by omega) la_110 rfl tyX10 tyX10_ok nmX10 rfl (tyX10_ok 25 (by decide)) rfl rfl h (fun m10 _ h => ?_)
    refine r_aload_n C dX10_logCommit_98 rfl 0 rfl ?_
    refine r_getr C (ci := 10) (k9 := 26) dX10_logCommit_99 rfl F_i10 (by decide) F_k69 (by omega) la_110 rfl ?_
    refine r_iload_n C dX10_logCommit_102 rfl 1 rfl ?_
    refine s_join h (fun k111 => ∀ (s0_111 : Int32), k111 s0_111 = some res → V 0 111 [(0, .ref (ad 110)), (1, .int p1), (2, .int p2)] [.int s0_111, .ref (ad 130)] m10) ?_ (fun k111 hk111 h => ?_)
    · intro s0_111 h
      refine r_dup2 C dX10_logCommit_111 rfl rfl ?_
      refine r_iald C dX10_logCommit_112 (by omega) la_130 h (fun j11 hj11 h => ?_)
      refine r_iconst C (v := 1) dX10_logCommit_113 (by decide) ?_
      refine r_iadd C dX10_logCommit_114 ?_
      refine r_iast C dX10_logCommit_115 (by omega) la_130 h (fun j12 m13 hj12 _ h => ?_)
      refine r_aload_n C dX10_logCommit_116 rfl 0 rfl ?_
      refine r_getr C (ci := 10) (k9 := 26) dX10_logCommit_117 rfl F_i10 (by decide) F_k69 (by omega) la_110 rfl ?_
      refine r_iconst C (v := 2) dX10_logCommit_120 (by decide) ?_
      refine r_dup2 C dX10_logCommit_121 rfl rfl ?_
      refine r_iald C dX10_logCommit_122 (by omega) la_130 h (fun j14 hj14 h => ?_)
      refine r_iload_n C dX10_logCommit_123 rfl 2 rfl ?_
      refine r_iadd C dX10_logCommit_124 ?_
      refine r_iast C dX10_logCommit_125 (by omega) la_130 h (fun j15 m16 hj15 _ h => ?_)
      refine r_aload_n C dX10_logCommit_126 rfl 0 rfl ?_
      refine r_getr C (ci := 10) (k9 := 26) dX10_logCommit_127 rfl F_i10 (by decide) F_k69 (by omega) la_110 rfl ?_
      refine r_iconst C (v := 3) dX10_logCommit_130 (by decide) ?_
      refine r_dup2 C dX10_logCommit_131 rfl rfl ?_
      refine r_iald C dX10_logCommit_132 (by omega) la_130 h (fun j17 hj17 h => ?_)
      refine r_iload_n C dX10_logCommit_133 rfl 1 rfl ?_
      refine s_join h (fun k142 => ∀ (s0_142 : Int32), k142 s0_142 = some res → V 0 142 [] [.int s0_142, .int (m16.1 130 j17), .int 3, .ref (ad 130)] m16) ?_ (fun k142 hk142 h => ?_)
      · intro s0_142 h
        refine r_iadd C dX10_logCommit_142 ?_
        refine r_iast C dX10_logCommit_143 (by omega) la_130 h (fun j18 m19 hj18 _ h => ?_)
        exact r_vret C dX10_logCommit_144 rfl h
      refine r_if_ge C (tgt := 141) dX10_logCommit_134 (by decide) h (fun _ h => ?_) (fun _ h => ?_)
      · skip
        refine r_iconst C (v := 0) dX10_logCommit_141 (by decide) ?_
        refine r_sub C [] (show _ = [] from rfl) ?_
        exact hk142 0 h
      · skip
        refine r_iconst C (v := 1) dX10_logCommit_137 (by decide) ?_
        refine r_goto C (tgt := 142) dX10_logCommit_138 (by decide) ?_
        refine r_sub C [] (show _ = [] from rfl) ?_
        exact hk142 1 h
    refine r_if_ge C (tgt := 110) dX10_logCommit_103 (by decide) h (fun _ h => ?_) (fun _ h => ?_)
    · skip
      refine r_iconst C (v := 0) dX10_logCommit_110 (by decide) ?_
      exact hk111 0 h
    · skip
      refine r_iconst C (v := 1) dX10_logCommit_106 (by decide) ?_
      refine r_goto C (tgt := 111) dX10_logCommit_107 (by decide) ?_
      exact hk111 1 h
  have L41 : ∀ (n : Nat) (x3_41 : Int32) (m41_ : sM), f_X10_logCommit_L41 p1 p2 e76_41 n x3_41 m41_ = some res → V 0 41 [(0, .ref (ad 110)), (1, .int p1), (2, .int p2), (3, .int x3_41)] [] m41_ := by
    intro n
    induction n with
    | zero => intro x3_41 m41_ h; rw [f_X10_logCommit_L41] at h; cases h
    | succ n ih =>
      intro x3_41 m41_ h
      rw [f_X10_logCommit_L41] at h
      refine r_iload_n C dX10_logCommit_41 rfl 3 rfl ?_
      refine r_bipush C (v := 8) dX10_logCommit_42 (by decide) ?_
      refine r_icmp_ge C (tgt := 76) dX10_logCommit_44 (by decide) h (fun _ h => ?_) (fun _ h => ?_)
      · skip
        refine r_sub C [0, 1, 2] (show _ = [(0, .ref (ad 110)), (1, .int p1), (2, .int p2)] from rfl) ?_
        exact he76_41 m41_ h
      · skip
        refine r_aload_n C dX10_logCommit_47 rfl 0 rfl ?_
        refine r_getr C (ci := 10) (k9 := 24) dX10_logCommit_48 rfl F_i10 (by decide) F_k66 (by omega) la_110 rfl ?_
        refine r_iconst C (v := 2) dX10_logCommit_51 (by decide) ?_
        refine r_dup2 C dX10_logCommit_52 rfl rfl ?_
        refine r_iald C dX10_logCommit_53 (by omega) la_129 h (fun j20 hj20 h => ?_)
        refine r_aload_n C dX10_logCommit_54 rfl 0 rfl ?_
        refine r_getr C (ci := 10) (k9 := 33) dX10_logCommit_55 rfl F_i10 (by decide) F_k84 (by omega) la_110 rfl ?_
        refine r_iload_n C dX10_logCommit_58 rfl 3 rfl ?_
        refine r_zald C dX10_logCommit_59 (by omega) la_135 h (fun j21 hj21 h => ?_)
        refine s_join h (fun k68 => ∀ (s0_68 : Int32), k68 s0_68 = some res → V 0 68 [(0, .ref (ad 110)), (1, .int p1), (2, .int p2), (3, .int x3_41)] [.int s0_68, .int (m41_.1 129 j20), .int 2, .ref (ad 129)] m41_) ?_ (fun k68 hk68 h => ?_)
        · intro s0_68 h
          refine r_iadd C dX10_logCommit_68 ?_
          refine r_iast C dX10_logCommit_69 (by omega) la_129 h (fun j22 m23 hj22 _ h => ?_)
          refine r_iinc C (v := x3_41 + 1) dX10_logCommit_70 3 rfl rfl (by decide) (show _ = [(3, .int (x3_41 + 1)), (0, .ref (ad 110)), (1, .int p1), (2, .int p2)] from rfl) ?_
          refine r_goto C (tgt := 41) dX10_logCommit_73 (by decide) ?_
          refine r_sub C [1, 2, 3, 0] (show _ = [(0, .ref (ad 110)), (1, .int p1), (2, .int p2), (3, .int (x3_41 + 1))] from rfl) ?_
          exact ih (x3_41 + 1) m23 h
        refine r_if_eq C (tgt := 67) dX10_logCommit_60 (by decide) h (fun _ h => ?_) (fun _ h => ?_)
        · skip
          refine r_iconst C (v := 0) dX10_logCommit_67 (by decide) ?_
          exact hk68 0 h
        · skip
          refine r_iconst C (v := 1) dX10_logCommit_63 (by decide) ?_
          refine r_goto C (tgt := 68) dX10_logCommit_64 (by decide) ?_
          exact hk68 1 h
  refine r_sub C [1, 2, 3, 0] (show _ = [(0, .ref (ad 110)), (1, .int p1), (2, .int p2), (3, .int 0)] from rfl) ?_
  exact L41 5000 0 m7 h
noncomputable def f_X10_commit_L475 (y4_475 : Int32) (e501_475 : sM → Option (sR Int32)) : Nat → Int32 → sM → Option (sR Int32)
  | 0, _, _ => none
  | n + 1, x7_475, m475_ =>
    if (m475_.1 110 19) ≤ x7_475 then (e501_475  m475_) else (s_ix x7_475 3 fun j32 => s_bd (f_X10_idle (m475_.1 126 j32) m475_) fun r33 m34 => f_X10_commit_L475 y4_475 e501_475 n (x7_475 + 1) m34)
noncomputable def f_X10_commit_L303 (y1_303 : Int32) (y2_303 : Int32) (y3_303 : Int32) (y4_303 : Int32) (e318_303 : Int32 → sM → Option (sR Int32)) : Nat → Int32 → sM → Option (sR Int32)
  | 0, _, _ => none
  | n + 1, x5_303, m303_ =>
    s_bd (f_X10_isFree x5_303 m303_) fun r35 m36 => if r35 = 0 then (f_X10_commit_L303 y1_303 y2_303 y3_303 y4_303 e318_303 n (x5_303 + 1) m36) else (e318_303 x5_303 m36)
noncomputable def f_X10_commit_L208 (y1_208 : Int32) (y2_208 : Int32) (y3_208 : Int32) (y4_208 : Int32) (y5_208 : Int32) (y7_208 : Int32) (e288_208 : sM → Option (sR Int32)) : Nat → Int32 → sM → Option (sR Int32)
  | 0, _, _ => none
  | n + 1, x8_208, m208_ =>
    if 8 ≤ x8_208 then (e288_208  m208_) else (s_ix 3 13 fun j50 => s_ix (y7_208 + (8 * x8_208)) 64 fun j51 => s_jn (fun (s0_250 : Int32) => s_ix 3 13 fun j52 => s_md (s_up m208_ 138 j52 ((m208_.1 138 j50) ||| s0_250)) fun m53 => s_ix (y7_208 + (8 * x8_208)) 64 fun j54 => s_jn (fun (s0_281 : Int32) => s_ix (4 + x8_208) 13 fun j55 => s_md (s_up m53 138 j55 s0_281) fun m56 => f_X10_commit_L208 y1_208 y2_208 y3_208 y4_208 y5_208 y7_208 e288_208 n (x8_208 + 1) m56) fun k281 => if (m53.1 136 j54) = 0 then (k281 0) else (s_ix (y7_208 + (8 * x8_208)) 64 fun j57 => k281 (m53.1 137 j57))) fun k250 => if (m208_.1 136 j51) = 0 then (k250 0) else (k250 (1 <<< (x8_208 &&& 31))))
noncomputable def f_X10_commit_L168 (y1_168 : Int32) (y2_168 : Int32) (y3_168 : Int32) (y4_168 : Int32) (y7_168 : Int32) (e183_168 : Int32 → sM → Option (sR Int32)) : Nat → Int32 → sM → Option (sR Int32)
  | 0, _, _ => none
  | n + 1, x5_168, m168_ =>
    s_bd (f_X10_isFree x5_168 m168_) fun r58 m59 => if r58 = 0 then (f_X10_commit_L168 y1_168 y2_168 y3_168 y4_168 y7_168 e183_168 n (x5_168 + 1) m59) else (e183_168 x5_168 m59)
noncomputable def f_X10_commit_L126 (y1_126 : Int32) (y2_126 : Int32) (y3_126 : Int32) (y4_126 : Int32) (e303_126 : Int32 → sM → Option (sR Int32)) : Nat → Int32 → Int32 → sM → Option (sR Int32)
  | 0, _, _, _ => none
  | n + 1, x5_126, x7_126, m126_ =>
    if 8 ≤ x7_126 then (e303_126 x5_126 m126_) else (s_ix x7_126 8 fun j37 => s_jn (fun (s0_158 : Int32) => s_ix x7_126 8 fun j38 => s_md (s_up m126_ 139 j38 s0_158) fun m39 => s_bd (f_X10_isNewPage x7_126 m39) fun r40 m41 => s_jn (fun (x5_297 : Int32) (m297_ : sM) => f_X10_commit_L126 y1_126 y2_126 y3_126 y4_126 e303_126 n x5_297 (x7_126 + 1) m297_) fun k297 => if r40 = 0 then (k297 x5_126 m41) else (s_jn (fun (x5_183 : Int32) (m183_ : sM) => s_ix x7_126 8 fun j42 => s_md (s_up m183_ 139 j42 x5_183) fun m43 => s_bd (f_X10_clearDraft 3 y4_126 m43) fun r44 m45 => s_ix 2 13 fun j46 => s_md (s_up m45 138 j46 x7_126) fun m47 => s_jn (fun (m288_ : sM) => s_bd (f_X10_write x5_183 m288_) fun r48 m49 => k297 (x5_183 + 1) m49) fun e288_208 => f_X10_commit_L208 y1_126 y2_126 y3_126 y4_126 x5_183 x7_126 e288_208 5000 0 m47) fun e183_168 => f_X10_commit_L168 y1_126 y2_126 y3_126 y4_126 x7_126 e183_168 5000 x5_126 m41)) fun k158 => if (m126_.1 135 j37) = 0 then (s_ix x7_126 24 fun j60 => k158 (m126_.1 114 j60)) else (k158 (-1)))
noncomputable def f_X10_commit (p1 : Int32) (m : sM) : Option (sR Int32) :=
  s_jn (fun (s0_57 : Int32) (m57_ : sM) => s_md (s_up m57_ 110 0 s0_57) fun m1 => if (m1.1 110 0) ≤ 0 then (s_bd (f_X10_pagesToWrite m1) fun r2 m3 => s_jn (fun (s0_90 : Int32) => s_jn (fun (s0_101 : Int32) => s_md (s_up m3 110 37 s0_101) fun m4 => s_ix 0 3 fun j5 => s_md (s_z139 m4) fun m6 => s_jn (fun (x5_303 : Int32) (m303_ : sM) => s_jn (fun (x5_318 : Int32) (m318_ : sM) => s_bd (f_X10_clearDraft 2 ((m4.1 112 j5) + 1) m318_) fun r7 m8 => s_gd (¬ (0 : Int32) < 0 ∧ ¬ (4 : Int32) < 0 ∧ ¬ (8 : Int32) < 0 ∧ (0 : Int32).toNatClampNeg + (8 : Int32).toNatClampNeg ≤ 8 ∧ (4 : Int32).toNatClampNeg + (8 : Int32).toNatClampNeg ≤ 13 ∧ ∀ i, i < (8 : Int32).toNatClampNeg → fits .int (.int (m8.1 139 ((0 : Int32).toNatClampNeg + i))) = true) (s_md (s_cp m8 139 138 (0 : Int32).toNatClampNeg (4 : Int32).toNatClampNeg (8 : Int32).toNatClampNeg) fun m9 => s_bd (f_X10_write x5_318 m9) fun r10 m11 => s_bd (f_X10_clearDraft 1 ((m4.1 112 j5) + 1) m11) fun r12 m13 => s_ix 2 13 fun j14 => s_md (s_up m13 138 j14 x5_318) fun m15 => s_bd (f_X10_write (((m4.1 112 j5) + 1) - ((m4.1 112 j5) + 1) / 2 * 2) m15) fun r16 m17 => s_jn (fun (s0_378 : Int32) => s_jn (fun (s0_387 : Int32) => s_bd (f_X10_logCommit s0_378 s0_387 m17) fun r18 m19 => if s0_90 = 0 then (s_bd (f_X10_restart m19) fun r20 m21 => s_md (s_up m21 110 2 0) fun m22 => some (.inl (-1), m22)) else (s_md (s_up m19 110 3 (((m4.1 112 j5) + 1) - ((m4.1 112 j5) + 1) / 2 * 2)) fun m23 => s_ix 0 3 fun j24 => s_md (s_up m23 112 j24 ((m4.1 112 j5) + 1)) fun m25 => s_ix 0 3 fun j26 => s_md (s_up m25 113 j26 x5_318) fun m27 => s_gd (¬ (0 : Int32) < 0 ∧ ¬ (0 : Int32) < 0 ∧ ¬ (8 : Int32) < 0 ∧ (0 : Int32).toNatClampNeg + (8 : Int32).toNatClampNeg ≤ 8 ∧ (0 : Int32).toNatClampNeg + (8 : Int32).toNatClampNeg ≤ 24 ∧ ∀ i, i < (8 : Int32).toNatClampNeg → fits .int (.int (m27.1 139 ((0 : Int32).toNatClampNeg + i))) = true) (s_md (s_cp m27 139 114 (0 : Int32).toNatClampNeg (0 : Int32).toNatClampNeg (8 : Int32).toNatClampNeg) fun m28 => s_gd (¬ (0 : Int32) < 0 ∧ ¬ (0 : Int32) < 0 ∧ ¬ (64 : Int32) < 0 ∧ (0 : Int32).toNatClampNeg + (64 : Int32).toNatClampNeg ≤ 64 ∧ (0 : Int32).toNatClampNeg + (64 : Int32).toNatClampNeg ≤ 192 ∧ ∀ i, i < (64 : Int32).toNatClampNeg → fits .boolean (.int (m28.1 136 ((0 : Int32).toNatClampNeg + i))) = true) (s_md (s_cp m28 136 115 (0 : Int32).toNatClampNeg (0 : Int32).toNatClampNeg (64 : Int32).toNatClampNeg) fun m29 => s_gd (¬ (0 : Int32) < 0 ∧ ¬ (0 : Int32) < 0 ∧ ¬ (64 : Int32) < 0 ∧ (0 : Int32).toNatClampNeg + (64 : Int32).toNatClampNeg ≤ 64 ∧ (0 : Int32).toNatClampNeg + (64 : Int32).toNatClampNeg ≤ 192 ∧ ∀ i, i < (64 : Int32).toNatClampNeg → fits .int (.int (m29.1 137 ((0 : Int32).toNatClampNeg + i))) = true) (s_md (s_cp m29 137 116 (0 : Int32).toNatClampNeg (0 : Int32).toNatClampNeg (64 : Int32).toNatClampNeg) fun m30 => s_jn (fun (m501_ : sM) => s_md (s_up m501_ 110 19 0) fun m31 => some (.inl ((m4.1 112 j5) + 1), m31)) fun e501_475 => f_X10_commit_L475 ((m4.1 112 j5) + 1) e501_475 5000 0 m30))))) fun k387 => if s0_90 = 0 then (k387 p1) else (k387 (r2 + 2))) fun k378 => if s0_90 = 0 then (k378 (-1)) else (k378 ((m4.1 112 j5) + 1)))) fun e318_303 => f_X10_commit_L303 p1 (r2 + 2) s0_90 ((m4.1 112 j5) + 1) e318_303 5000 x5_303 m303_) fun e303_126 => f_X10_commit_L126 p1 (r2 + 2) s0_90 ((m4.1 112 j5) + 1) e303_126 5000 2 0 m6) fun k101 => if s0_90 = 0 then (k101 p1) else (k101 (r2 + 2))) fun k90 => s_jn (k90 1) fun k85 => if p1 < 0 then (k85) else (if p1 < (r2 + 2) then (k90 0) else (k85))) else (some (.inl 0, m1))) fun k57 => if (-1) ≤ p1 then (s_jn (k57 2 m) fun k24 => if (m.1 110 2) = 0 then (k24) else (if (m.1 110 19) = 0 then (k24) else (s_bd (f_X10_pagesToWrite m) fun r61 m62 => s_bd (f_X10_freeBlocks m62) fun r63 m64 => s_jn (k57 3 m64) fun k52 => if r63 < (r61 + 1) then (k52) else (s_ix 0 3 fun j65 => if (m64.1 112 j65) = 999999 then (k52) else (k57 0 m64))))) else (k57 1 m)
set_option maxRecDepth 20000 in
set_option maxHeartbeats 4000000 in
theorem c_X10_commit (p1 : Int32) : s_Con s_i 110 29 yX10_commit wsX10_commit 18 275 2 (f_X10_commit p1) (fun ad => [.ref (ad 110), .int p1]) := by
  refine s_con_of cX10_commit 10 (some .int) RX10 (by decide) rfl rfl (fun _ => Nat.le_of_ble_eq_true rfl) (fun ad m res V C h => ?_)
  unfold f_X10_commit at h
  have F_i10 : ∀ w ∈ wsX100, w ∈ wsX10_commit := by decide +kernel
  have F_k100 : Cond.fieldLink RX10 100 "ShadowFileModel" "thrown" "I" ∈ wsX10_commit := by decide +kernel
  have F_k227 : Cond.fieldLink RX10 227 "ShadowFileModel" "power" "I" ∈ wsX10_commit := by decide +kernel
  have F_k13 : Cond.fieldLink RX10 13 "ShadowFileModel" "number" "[I" ∈ wsX10_commit := by decide +kernel
  have F_anew : Cond.arrayClass .int ∈ wsX10_commit := by decide +kernel
  have F_k93 : Cond.fieldLink RX10 93 "ShadowFileModel" "draft" "[I" ∈ wsX10_commit := by decide +kernel
  have F_c164 : Cond.methodLink RX10 164 arraycopyName ∈ wsX10_commit := by decide +kernel
  have F_cnat : Cond.native arraycopyName ∈ wsX10_commit := by decide +kernel
  have F_csta : Cond.static arraycopyName ∈ wsX10_commit := by decide +kernel
  have F_cini : Cond.initialized "java/lang/System" ∈ wsX10_commit := by decide +kernel
  have F_k116 : Cond.fieldLink RX10 116 "ShadowFileModel" "isOpen" "Z" ∈ wsX10_commit := by decide +kernel
  have F_k127 : Cond.fieldLink RX10 127 "ShadowFileModel" "rootBlock" "I" ∈ wsX10_commit := by decide +kernel
  have F_k16 : Cond.fieldLink RX10 16 "ShadowFileModel" "tableOf" "[I" ∈ wsX10_commit := by decide +kernel
  have F_k19 : Cond.fieldLink RX10 19 "ShadowFileModel" "pageOf" "[I" ∈ wsX10_commit := by decide +kernel
  have F_k87 : Cond.fieldLink RX10 87 "ShadowFileModel" "newHas" "[Z" ∈ wsX10_commit := by decide +kernel
  have F_k22 : Cond.fieldLink RX10 22 "ShadowFileModel" "has" "[Z" ∈ wsX10_commit := by decide +kernel
  have F_k90 : Cond.fieldLink RX10 90 "ShadowFileModel" "newValues" "[I" ∈ wsX10_commit := by decide +kernel
  have F_k26 : Cond.fieldLink RX10 26 "ShadowFileModel" "values" "[I" ∈ wsX10_commit := by decide +kernel
  have F_k133 : Cond.fieldLink RX10 133 "ShadowFileModel" "ready" "I" ∈ wsX10_commit := by decide +kernel
  have F_k56 : Cond.fieldLink RX10 56 "ShadowFileModel" "order" "[I" ∈ wsX10_commit := by decide +kernel
  have F_k84 : Cond.fieldLink RX10 84 "ShadowFileModel" "isAffected" "[Z" ∈ wsX10_commit := by decide +kernel
  have F_w241 : Cond.constant RX10 241 (999999) ∈ wsX10_commit := by decide +kernel
  show V 2 0 [(0, .ref (ad 110)), (1, .int p1)] [] m
  refine r_aload_n C dX10_commit_0 rfl 0 rfl ?_
  refine r_iload_n C dX10_commit_1 rfl 1 rfl ?_
  refine r_iconst C (v := -1) dX10_commit_2 (by decide) ?_
  refine s_join h (fun k57 => ∀ (s0_57 : Int32) (m57_ : sM), k57 s0_57 m57_ = some res → V 2 57 [(0, .ref (ad 110)), (1, .int p1)] [.int s0_57, .ref (ad 110)] m57_) ?_ (fun k57 hk57 h => ?_)
  · intro s0_57 m57_ h
    refine r_puti C (ci := 10) (k9 := 0) dX10_commit_57 rfl F_i10 (by decide) F_k100 (by omega) la_110 rfl tyX10 tyX10_ok nmX10 rfl (tyX10_ok 0 (by decide)) rfl rfl h (fun m1 _ h => ?_)
    refine r_aload_n C dX10_commit_60 rfl 0 rfl ?_
    refine r_geti C (ci := 10) (k9 := 0) dX10_commit_61 rfl F_i10 (by decide) F_k100 (by omega) la_110 rfl ?_
    refine r_if_le C (tgt := 69) dX10_commit_64 (by decide) h (fun _ h => ?_) (fun _ h => ?_)
    · skip
      refine r_aload_n C dX10_commit_69 rfl 0 rfl ?_
      refine r_callV C (c_X10_pagesToWrite 29 (by omega)) (As := []) (nn := 0) (stk := [.ref (ad 110)]) (ci := 10) dX10_commit_70 gX10_commit_X10_pagesToWrite ⟨rfl, by decide, by decide, by decide +kernel⟩ (by omega) la_110 rfl rfl rfl (by decide) rfl rfl (Nat.le_of_ble_eq_true rfl) (by decide) h (fun r2 m3 h => ?_)
      show V 2 73 [(0, .ref (ad 110)), (1, .int p1)] [.int r2] m3
      refine r_iconst C (v := 2) dX10_commit_73 (by decide) ?_
      refine r_iadd C dX10_commit_74 ?_
      refine r_istore_n C dX10_commit_75 rfl (by decide) (show _ = [(2, .int (r2 + 2)), (0, .ref (ad 110)), (1, .int p1)] from rfl) ?_
      refine r_iload_n C dX10_commit_76 rfl 2 rfl ?_
      refine s_join h (fun k90 => ∀ (s0_90 : Int32), k90 s0_90 = some res → V 2 90 [(0, .ref (ad 110)), (1, .int p1), (2, .int (r2 + 2))] [.int s0_90] m3) ?_ (fun k90 hk90 h => ?_)
      · intro s0_90 h
        refine r_istore_n C dX10_commit_90 rfl (by decide) (show _ = [(3, .int s0_90), (0, .ref (ad 110)), (1, .int p1), (2, .int (r2 + 2))] from rfl) ?_
        refine r_aload_n C dX10_commit_91 rfl 1 rfl ?_
        refine r_iload_n C dX10_commit_92 rfl 0 rfl ?_
        refine s_join h (fun k101 => ∀ (s0_101 : Int32), k101 s0_101 = some res → V 2 101 [(0, .ref (ad 110)), (1, .int p1), (2, .int (r2 + 2)), (3, .int s0_90)] [.int s0_101, .ref (ad 110)] m3) ?_ (fun k101 hk101 h => ?_)
        · intro s0_101 h
          refine r_puti C (ci := 10) (k9 := 37) dX10_commit_101 rfl F_i10 (by decide) F_k227 (by omega) la_110 rfl tyX10 tyX10_ok nmX10 rfl (tyX10_ok 37 (by decide)) rfl rfl h (fun m4 _ h => ?_)
          refine r_aload_n C dX10_commit_104 rfl 0 rfl ?_
          refine r_getr C (ci := 10) (k9 := 4) dX10_commit_105 rfl F_i10 (by decide) F_k13 (by omega) la_110 rfl ?_
          refine r_iconst C (v := 0) dX10_commit_108 (by decide) ?_
          refine r_iald C dX10_commit_109 (by omega) la_112 h (fun j5 hj5 h => ?_)
          refine r_iconst C (v := 1) dX10_commit_110 (by decide) ?_
          refine r_iadd C dX10_commit_111 ?_
          refine r_istore C dX10_commit_112 (by decide) (show _ = [(4, .int ((m4.1 112 j5) + 1)), (0, .ref (ad 110)), (1, .int p1), (2, .int (r2 + 2)), (3, .int s0_90)] from rfl) ?_
          refine r_iconst C (v := 2) dX10_commit_114 (by decide) ?_
          refine r_istore C dX10_commit_115 (by decide) (show _ = [(5, .int 2), (4, .int ((m4.1 112 j5) + 1)), (0, .ref (ad 110)), (1, .int p1), (2, .int (r2 + 2)), (3, .int s0_90)] from rfl) ?_
          refine r_bipush C (v := 8) dX10_commit_117 (by decide) ?_
          refine r_new8 C (fun ad => [(5, .int 2), (4, .int ((m4.1 112 j5) + 1)), (0, .ref (ad 110)), (1, .int p1), (2, .int (r2 + 2)), (3, .int s0_90)]) dX10_commit_119 F_anew (by decide) (fun ad' had' => by rw [had' 110 (by decide)]) h (fun ad V C m6 _ h => ?_)
          show V 0 121 [(5, .int 2), (4, .int ((m4.1 112 j5) + 1)), (0, .ref (ad 110)), (1, .int p1), (2, .int (r2 + 2)), (3, .int s0_90)] [.ref (ad 139)] m6
          refine r_astore C dX10_commit_121 (by decide) (show _ = [(6, .ref (ad 139)), (5, .int 2), (4, .int ((m4.1 112 j5) + 1)), (0, .ref (ad 110)), (1, .int p1), (2, .int (r2 + 2)), (3, .int s0_90)] from rfl) ?_
          refine r_iconst C (v := 0) dX10_commit_123 (by decide) ?_
          refine r_istore C dX10_commit_124 (by decide) (show _ = [(7, .int 0), (6, .ref (ad 139)), (5, .int 2), (4, .int ((m4.1 112 j5) + 1)), (0, .ref (ad 110)), (1, .int p1), (2, .int (r2 + 2)), (3, .int s0_90)] from rfl) ?_
          refine s_join h (fun e303_126 => ∀ (x5_303 : Int32) (m303_ : sM), e303_126 x5_303 m303_ = some res → V 0 303 [(0, .ref (ad 110)), (1, .int p1), (2, .int (r2 + 2)), (3, .int s0_90), (4, .int ((m4.1 112 j5) + 1)), (5, .int x5_303), (6, .ref (ad 139))] [] m303_) ?_ (fun e303_126 he303_126 h => ?_)
          · intro x5_303 m303_ h
            refine s_join h (fun e318_303 => ∀ (x5_318 : Int32) (m318_ : sM), e318_303 x5_318 m318_ = some res → V 0 318 [(0, .ref (ad 110)), (1, .int p1), (2, .int (r2 + 2)), (3, .int s0_90), (4, .int ((m4.1 112 j5) + 1)), (5, .int x5_318), (6, .ref (ad 139))] [] m318_) ?_ (fun e318_303 he318_303 h => ?_)
            · intro x5_318 m318_ h
              refine r_aload_n C dX10_commit_318 rfl 0 rfl ?_
              refine r_iconst C (v := 2) dX10_commit_319 (by decide) ?_
              refine r_iload C dX10_commit_320 4 rfl ?_
              refine r_callV C (c_X10_clearDraft 30 (by omega) 2 ((m4.1 112 j5) + 1)) (As := [.int 2, .int ((m4.1 112 j5) + 1)]) (nn := 2) (stk := [.int ((m4.1 112 j5) + 1), .int 2, .ref (ad 110)]) (ci := 10) dX10_commit_322 gX10_commit_X10_clearDraft ⟨rfl, by decide, by decide, by decide +kernel⟩ (by omega) la_110 rfl rfl rfl (by decide) rfl rfl (Nat.le_of_ble_eq_true rfl) (by decide) h (fun r7 m8 h => ?_)
              show V 0 325 [(0, .ref (ad 110)), (1, .int p1), (2, .int (r2 + 2)), (3, .int s0_90), (4, .int ((m4.1 112 j5) + 1)), (5, .int x5_318), (6, .ref (ad 139))] [] m8
              refine r_aload C dX10_commit_325 6 rfl ?_
              refine r_iconst C (v := 0) dX10_commit_327 (by decide) ?_
              refine r_aload_n C dX10_commit_328 rfl 0 rfl ?_
              refine r_getr C (ci := 10) (k9 := 36) dX10_commit_329 rfl F_i10 (by decide) F_k93 (by omega) la_110 rfl ?_
              refine r_iconst C (v := 4) dX10_commit_332 (by decide) ?_
              refine r_bipush C (v := 8) dX10_commit_333 (by decide) ?_
              refine r_copy C dX10_commit_335 F_c164 F_cnat F_csta F_cini (by omega) (by omega) la_139 la_138 (by decide) (fun _ => rfl) rfl (by decide) (Nat.le_of_ble_eq_true rfl) h (fun m9 _ h => ?_)
              refine r_aload_n C dX10_commit_338 rfl 0 rfl ?_
              refine r_iload C dX10_commit_339 5 rfl ?_
              refine r_callV C (c_X10_write 30 (by omega) x5_318) (As := [.int x5_318]) (nn := 1) (stk := [.int x5_318, .ref (ad 110)]) (ci := 10) dX10_commit_341 gX10_commit_X10_write ⟨rfl, by decide, by decide, by decide +kernel⟩ (by omega) la_110 rfl rfl rfl (by decide) rfl rfl (Nat.le_of_ble_eq_true rfl) (by decide) h (fun r10 m11 h => ?_)
              show V 0 344 [(0, .ref (ad 110)), (1, .int p1), (2, .int (r2 + 2)), (3, .int s0_90), (4, .int ((m4.1 112 j5) + 1)), (5, .int x5_318), (6, .ref (ad 139))] [] m11
              refine r_aload_n C dX10_commit_344 rfl 0 rfl ?_
              refine r_iconst C (v := 1) dX10_commit_345 (by decide) ?_
              refine r_iload C dX10_commit_346 4 rfl ?_
              refine r_callV C (c_X10_clearDraft 30 (by omega) 1 ((m4.1 112 j5) + 1)) (As := [.int 1, .int ((m4.1 112 j5) + 1)]) (nn := 2) (stk := [.int ((m4.1 112 j5) + 1), .int 1, .ref (ad 110)]) (ci := 10) dX10_commit_348 gX10_commit_X10_clearDraft ⟨rfl, by decide, by decide, by decide +kernel⟩ (by omega) la_110 rfl rfl rfl (by decide) rfl rfl (Nat.le_of_ble_eq_true rfl) (by decide) h (fun r12 m13 h => ?_)
              show V 0 351 [(0, .ref (ad 110)), (1, .int p1), (2, .int (r2 + 2)), (3, .int s0_90), (4, .int ((m4.1 112 j5) + 1)), (5, .int x5_318), (6, .ref (ad 139))] [] m13
              refine r_aload_n C dX10_commit_351 rfl 0 rfl ?_
              refine r_getr C (ci := 10) (k9 := 36) dX10_commit_352 rfl F_i10 (by decide) F_k93 (by omega) la_110 rfl ?_
              refine r_iconst C (v := 2) dX10_commit_355 (by decide) ?_
              refine r_iload C dX10_commit_356 5 rfl ?_
              refine r_iast C dX10_commit_358 (by omega) la_138 h (fun j14 m15 hj14 _ h => ?_)
              refine r_aload_n C dX10_commit_359 rfl 0 rfl ?_
              refine r_iload C dX10_commit_360 4 rfl ?_
              refine r_iconst C (v := 2) dX10_commit_362 (by decide) ?_
              refine r_irem C dX10_commit_363 (by decide) ?_
              refine r_callV C (c_X10_write 30 (by omega) (((m4.1 112 j5) + 1) - ((m4.1 112 j5) + 1) / 2 * 2)) (As := [.int (((m4.1 112 j5) + 1) - ((m4.1 112 j5) + 1) / 2 * 2)]) (nn := 1) (stk := [.int (((m4.1 112 j5) + 1) - ((m4.1 112 j5) + 1) / 2 * 2), .ref (ad 110)]) (ci := 10) dX10_commit_364 gX10_commit_X10_write ⟨rfl, by decide, by decide, by decide +kernel⟩ (by omega) la_110 rfl rfl rfl (by decide) rfl rfl (Nat.le_of_ble_eq_true rfl) (by decide) h (fun r16 m17 h => ?_)
              show V 0 367 [(0, .ref (ad 110)), (1, .int p1), (2, .int (r2 + 2)), (3, .int s0_90), (4, .int ((m4.1 112 j5) + 1)), (5, .int x5_318), (6, .ref (ad 139))] [] m17
              refine r_aload_n C dX10_commit_367 rfl 0 rfl ?_
              refine r_iload_n C dX10_commit_368 rfl 3 rfl ?_
              refine s_join h (fun k378 => ∀ (s0_378 : Int32), k378 s0_378 = some res → V 0 378 [(0, .ref (ad 110)), (1, .int p1), (2, .int (r2 + 2)), (3, .int s0_90), (4, .int ((m4.1 112 j5) + 1)), (5, .int x5_318), (6, .ref (ad 139))] [.int s0_378, .ref (ad 110)] m17) ?_ (fun k378 hk378 h => ?_)
              · intro s0_378 h
                refine r_iload_n C dX10_commit_378 rfl 3 rfl ?_
                refine s_join h (fun k387 => ∀ (s0_387 : Int32), k387 s0_387 = some res → V 0 387 [(0, .ref (ad 110)), (3, .int s0_90), (4, .int ((m4.1 112 j5) + 1)), (5, .int x5_318), (6, .ref (ad 139))] [.int s0_387, .int s0_378, .ref (ad 110)] m17) ?_ (fun k387 hk387 h => ?_)
                · intro s0_387 h
                  refine r_callV C (c_X10_logCommit 30 (by omega) s0_378 s0_387) (As := [.int s0_378, .int s0_387]) (nn := 2) (stk := [.int s0_387, .int s0_378, .ref (ad 110)]) (ci := 10) dX10_commit_387 gX10_commit_X10_logCommit ⟨rfl, by decide, by decide, by decide +kernel⟩ (by omega) la_110 rfl rfl rfl (by decide) rfl rfl (Nat.le_of_ble_eq_true rfl) (by decide) h (fun r18 m19 h => ?_)
                  show V 0 390 [(0, .ref (ad 110)), (3, .int s0_90), (4, .int ((m4.1 112 j5) + 1)), (5, .int x5_318), (6, .ref (ad 139))] [] m19
                  refine r_iload_n C dX10_commit_390 rfl 1 rfl ?_
                  refine r_if_ne C (tgt := 405) dX10_commit_391 (by decide) h (fun _ h => ?_) (fun _ h => ?_)
                  · skip
                    refine r_aload_n C dX10_commit_394 rfl 0 rfl ?_
                    refine r_callV C (c_X10_restart 30 (by omega)) (As := []) (nn := 0) (stk := [.ref (ad 110)]) (ci := 10) dX10_commit_395 gX10_commit_X10_restart ⟨rfl, by decide, by decide, by decide +kernel⟩ (by omega) la_110 rfl rfl rfl (by decide) rfl rfl (Nat.le_of_ble_eq_true rfl) (by decide) h (fun r20 m21 h => ?_)
                    show V 0 398 [(0, .ref (ad 110)), (3, .int s0_90), (4, .int ((m4.1 112 j5) + 1)), (5, .int x5_318), (6, .ref (ad 139))] [] m21
                    refine r_aload_n C dX10_commit_398 rfl 0 rfl ?_
                    refine r_iconst C (v := 0) dX10_commit_399 (by decide) ?_
                    refine r_puti C (ci := 10) (k9 := 2) dX10_commit_400 rfl F_i10 (by decide) F_k116 (by omega) la_110 rfl tyX10 tyX10_ok nmX10 rfl (tyX10_ok 2 (by decide)) rfl rfl h (fun m22 _ h => ?_)
                    refine r_iconst C (v := -1) dX10_commit_403 (by decide) ?_
                    exact r_iret C dX10_commit_404 rfl h
                  · skip
                    refine r_aload_n C dX10_commit_405 rfl 0 rfl ?_
                    refine r_iload C dX10_commit_406 2 rfl ?_
                    refine r_iconst C (v := 2) dX10_commit_408 (by decide) ?_
                    refine r_irem C dX10_commit_409 (by decide) ?_
                    refine r_puti C (ci := 10) (k9 := 3) dX10_commit_410 rfl F_i10 (by decide) F_k127 (by omega) la_110 rfl tyX10 tyX10_ok nmX10 rfl (tyX10_ok 3 (by decide)) rfl rfl h (fun m23 _ h => ?_)
                    refine r_aload_n C dX10_commit_413 rfl 0 rfl ?_
                    refine r_getr C (ci := 10) (k9 := 4) dX10_commit_414 rfl F_i10 (by decide) F_k13 (by omega) la_110 rfl ?_
                    refine r_iconst C (v := 0) dX10_commit_417 (by decide) ?_
                    refine r_iload C dX10_commit_418 2 rfl ?_
                    refine r_iast C dX10_commit_420 (by omega) la_112 h (fun j24 m25 hj24 _ h => ?_)
                    refine r_aload_n C dX10_commit_421 rfl 0 rfl ?_
                    refine r_getr C (ci := 10) (k9 := 5) dX10_commit_422 rfl F_i10 (by decide) F_k16 (by omega) la_110 rfl ?_
                    refine r_iconst C (v := 0) dX10_commit_425 (by decide) ?_
                    refine r_iload C dX10_commit_426 3 rfl ?_
                    refine r_iast C dX10_commit_428 (by omega) la_113 h (fun j26 m27 hj26 _ h => ?_)
                    refine r_aload C dX10_commit_429 4 rfl ?_
                    refine r_iconst C (v := 0) dX10_commit_431 (by decide) ?_
                    refine r_aload_n C dX10_commit_432 rfl 0 rfl ?_
                    refine r_getr C (ci := 10) (k9 := 6) dX10_commit_433 rfl F_i10 (by decide) F_k19 (by omega) la_110 rfl ?_
                    refine r_iconst C (v := 0) dX10_commit_436 (by decide) ?_
                    refine r_bipush C (v := 8) dX10_commit_437 (by decide) ?_
                    refine r_copy C dX10_commit_439 F_c164 F_cnat F_csta F_cini (by omega) (by omega) la_139 la_114 (by decide) (fun _ => rfl) rfl (by decide) (Nat.le_of_ble_eq_true rfl) h (fun m28 _ h => ?_)
                    refine r_aload_n C dX10_commit_442 rfl 0 rfl ?_
                    refine r_getr C (ci := 10) (k9 := 34) dX10_commit_443 rfl F_i10 (by decide) F_k87 (by omega) la_110 rfl ?_
                    refine r_iconst C (v := 0) dX10_commit_446 (by decide) ?_
                    refine r_aload_n C dX10_commit_447 rfl 0 rfl ?_
                    refine r_getr C (ci := 10) (k9 := 7) dX10_commit_448 rfl F_i10 (by decide) F_k22 (by omega) la_110 rfl ?_
                    refine r_iconst C (v := 0) dX10_commit_451 (by decide) ?_
                    refine r_bipush C (v := 64) dX10_commit_452 (by decide) ?_
                    refine r_copy C dX10_commit_454 F_c164 F_cnat F_csta F_cini (by omega) (by omega) la_136 la_115 (by decide) (fun _ => rfl) rfl (by decide) (Nat.le_of_ble_eq_true rfl) h (fun m29 _ h => ?_)
                    refine r_aload_n C dX10_commit_457 rfl 0 rfl ?_
                    refine r_getr C (ci := 10) (k9 := 35) dX10_commit_458 rfl F_i10 (by decide) F_k90 (by omega) la_110 rfl ?_
                    refine r_iconst C (v := 0) dX10_commit_461 (by decide) ?_
                    refine r_aload_n C dX10_commit_462 rfl 0 rfl ?_
                    refine r_getr C (ci := 10) (k9 := 8) dX10_commit_463 rfl F_i10 (by decide) F_k26 (by omega) la_110 rfl ?_
                    refine r_iconst C (v := 0) dX10_commit_466 (by decide) ?_
                    refine r_bipush C (v := 64) dX10_commit_467 (by decide) ?_
                    refine r_copy C dX10_commit_469 F_c164 F_cnat F_csta F_cini (by omega) (by omega) la_137 la_116 (by decide) (fun _ => rfl) rfl (by decide) (Nat.le_of_ble_eq_true rfl) h (fun m30 _ h => ?_)
                    refine r_iconst C (v := 0) dX10_commit_472 (by decide) ?_
                    refine r_istore C dX10_commit_473 (by decide) (show _ = [(7, .int 0), (0, .ref (ad 110)), (3, .int s0_90), (4, .int ((m4.1 112 j5) + 1)), (5, .int x5_318), (6, .ref (ad 139))] from rfl) ?_
                    refine s_join h (fun e501_475 => ∀ (m501_ : sM), e501_475 m501_ = some res → V 0 501 [(0, .ref (ad 110)), (4, .int ((m4.1 112 j5) + 1))] [] m501_) ?_ (fun e501_475 he501_475 h => ?_)
                    · intro m501_ h
                      refine r_aload_n C dX10_commit_501 rfl 0 rfl ?_
                      refine r_iconst C (v := 0) dX10_commit_502 (by decide) ?_
                      refine r_puti C (ci := 10) (k9 := 19) dX10_commit_503 rfl F_i10 (by decide) F_k133 (by omega) la_110 rfl tyX10 tyX10_ok nmX10 rfl (tyX10_ok 19 (by decide)) rfl rfl h (fun m31 _ h => ?_)
                      refine r_iload C dX10_commit_506 1 rfl ?_
                      exact r_iret C dX10_commit_508 rfl h
                    have L475 : ∀ (n : Nat) (x7_475 : Int32) (m475_ : sM), f_X10_commit_L475 ((m4.1 112 j5) + 1) e501_475 n x7_475 m475_ = some res → V 0 475 [(0, .ref (ad 110)), (4, .int ((m4.1 112 j5) + 1)), (7, .int x7_475)] [] m475_ := by
                      intro n
                      induction n with
                      | zero => intro x7_475 m475_ h; rw [f_X10_commit_L475] at h; cases h
                      | succ n ih =>
                        intro x7_475 m475_ h
                        rw [f_X10_commit_L475] at h
                        refine r_iload C dX10_commit_475 2 rfl ?_
                        refine r_aload_n C dX10_commit_477 rfl 0 rfl ?_
                        refine r_geti C (ci := 10) (k9 := 19) dX10_commit_478 rfl F_i10 (by decide) F_k133 (by omega) la_110 rfl ?_
                        refine r_icmp_ge C (tgt := 501) dX10_commit_481 (by decide) h (fun _ h => ?_) (fun _ h => ?_)
                        · skip
                          refine r_sub C [0, 1] (show _ = [(0, .ref (ad 110)), (4, .int ((m4.1 112 j5) + 1))] from rfl) ?_
                          exact he501_475 m475_ h
                        · skip
                          refine r_aload_n C dX10_commit_484 rfl 0 rfl ?_
                          refine r_aload_n C dX10_commit_485 rfl 0 rfl ?_
                          refine r_getr C (ci := 10) (k9 := 18) dX10_commit_486 rfl F_i10 (by decide) F_k56 (by omega) la_110 rfl ?_
                          refine r_iload C dX10_commit_489 2 rfl ?_
                          refine r_iald C dX10_commit_491 (by omega) la_126 h (fun j32 hj32 h => ?_)
                          refine r_callV C (c_X10_idle 30 (by omega) (m475_.1 126 j32)) (As := [.int (m475_.1 126 j32)]) (nn := 1) (stk := [.int (m475_.1 126 j32), .ref (ad 110)]) (ci := 10) dX10_commit_492 gX10_commit_X10_idle ⟨rfl, by decide, by decide, by decide +kernel⟩ (by omega) la_110 rfl rfl rfl (by decide) rfl rfl (Nat.le_of_ble_eq_true rfl) (by decide) h (fun r33 m34 h => ?_)
                          show V 0 495 [(0, .ref (ad 110)), (4, .int ((m4.1 112 j5) + 1)), (7, .int x7_475)] [] m34
                          refine r_iinc C (v := x7_475 + 1) dX10_commit_495 2 rfl rfl (by decide) (show _ = [(7, .int (x7_475 + 1)), (0, .ref (ad 110)), (4, .int ((m4.1 112 j5) + 1))] from rfl) ?_
                          refine r_goto C (tgt := 475) dX10_commit_498 (by decide) ?_
                          refine r_sub C [1, 2, 0] (show _ = [(0, .ref (ad 110)), (4, .int ((m4.1 112 j5) + 1)), (7, .int (x7_475 + 1))] from rfl) ?_
                          exact ih (x7_475 + 1) m34 h
                    refine r_sub C [1, 3, 0] (show _ = [(0, .ref (ad 110)), (4, .int ((m4.1 112 j5) + 1)), (7, .int 0)] from rfl) ?_
                    exact L475 5000 0 m30 h
                refine r_if_eq C (tgt := 386) dX10_commit_379 (by decide) h (fun _ h => ?_) (fun _ h => ?_)
                · skip
                  refine r_iload_n C dX10_commit_386 rfl 1 rfl ?_
                  refine r_sub C [0, 3, 4, 5, 6] (show _ = [(0, .ref (ad 110)), (3, .int s0_90), (4, .int ((m4.1 112 j5) + 1)), (5, .int x5_318), (6, .ref (ad 139))] from rfl) ?_
                  exact hk387 p1 h
                · skip
                  refine r_iload_n C dX10_commit_382 rfl 2 rfl ?_
                  refine r_goto C (tgt := 387) dX10_commit_383 (by decide) ?_
                  refine r_sub C [0, 3, 4, 5, 6] (show _ = [(0, .ref (ad 110)), (3, .int s0_90), (4, .int ((m4.1 112 j5) + 1)), (5, .int x5_318), (6, .ref (ad 139))] from rfl) ?_
                  exact hk387 (r2 + 2) h
              refine r_if_eq C (tgt := 377) dX10_commit_369 (by decide) h (fun _ h => ?_) (fun _ h => ?_)
              · skip
                refine r_iconst C (v := -1) dX10_commit_377 (by decide) ?_
                exact hk378 (-1) h
              · skip
                refine r_iload C dX10_commit_372 4 rfl ?_
                refine r_goto C (tgt := 378) dX10_commit_374 (by decide) ?_
                exact hk378 ((m4.1 112 j5) + 1) h
            have L303 : ∀ (n : Nat) (x5_303 : Int32) (m303_ : sM), f_X10_commit_L303 p1 (r2 + 2) s0_90 ((m4.1 112 j5) + 1) e318_303 n x5_303 m303_ = some res → V 0 303 [(0, .ref (ad 110)), (1, .int p1), (2, .int (r2 + 2)), (3, .int s0_90), (4, .int ((m4.1 112 j5) + 1)), (5, .int x5_303), (6, .ref (ad 139))] [] m303_ := by
              intro n
              induction n with
              | zero => intro x5_303 m303_ h; rw [f_X10_commit_L303] at h; cases h
              | succ n ih =>
                intro x5_303 m303_ h
                rw [f_X10_commit_L303] at h
                refine r_aload_n C dX10_commit_303 rfl 0 rfl ?_
                refine r_iload C dX10_commit_304 5 rfl ?_
                refine r_callV C (c_X10_isFree 30 (by omega) x5_303) (As := [.int x5_303]) (nn := 1) (stk := [.int x5_303, .ref (ad 110)]) (ci := 10) dX10_commit_306 gX10_commit_X10_isFree ⟨rfl, by decide, by decide, by decide +kernel⟩ (by omega) la_110 rfl rfl rfl (by decide) rfl rfl (Nat.le_of_ble_eq_true rfl) (by decide) h (fun r35 m36 h => ?_)
                show V 0 309 [(0, .ref (ad 110)), (1, .int p1), (2, .int (r2 + 2)), (3, .int s0_90), (4, .int ((m4.1 112 j5) + 1)), (5, .int x5_303), (6, .ref (ad 139))] [.int r35] m36
                refine r_if_ne C (tgt := 318) dX10_commit_309 (by decide) h (fun _ h => ?_) (fun _ h => ?_)
                · skip
                  refine r_iinc C (v := x5_303 + 1) dX10_commit_312 5 rfl rfl (by decide) (show _ = [(5, .int (x5_303 + 1)), (0, .ref (ad 110)), (1, .int p1), (2, .int (r2 + 2)), (3, .int s0_90), (4, .int ((m4.1 112 j5) + 1)), (6, .ref (ad 139))] from rfl) ?_
                  refine r_goto C (tgt := 303) dX10_commit_315 (by decide) ?_
                  refine r_sub C [1, 2, 3, 4, 5, 0, 6] (show _ = [(0, .ref (ad 110)), (1, .int p1), (2, .int (r2 + 2)), (3, .int s0_90), (4, .int ((m4.1 112 j5) + 1)), (5, .int (x5_303 + 1)), (6, .ref (ad 139))] from rfl) ?_
                  exact ih (x5_303 + 1) m36 h
                · skip
                  exact he318_303 x5_303 m36 h
            exact L303 5000 x5_303 m303_ h
          have L126 : ∀ (n : Nat) (x5_126 : Int32) (x7_126 : Int32) (m126_ : sM), f_X10_commit_L126 p1 (r2 + 2) s0_90 ((m4.1 112 j5) + 1) e303_126 n x5_126 x7_126 m126_ = some res → V 0 126 [(0, .ref (ad 110)), (1, .int p1), (2, .int (r2 + 2)), (3, .int s0_90), (4, .int ((m4.1 112 j5) + 1)), (5, .int x5_126), (6, .ref (ad 139)), (7, .int x7_126)] [] m126_ := by
            intro n
            induction n with
            | zero => intro x5_126 x7_126 m126_ h; rw [f_X10_commit_L126] at h; cases h
            | succ n ih =>
              intro x5_126 x7_126 m126_ h
              rw [f_X10_commit_L126] at h
              refine r_iload C dX10_commit_126 7 rfl ?_
              refine r_bipush C (v := 8) dX10_commit_128 (by decide) ?_
              refine r_icmp_ge C (tgt := 303) dX10_commit_130 (by decide) h (fun _ h => ?_) (fun _ h => ?_)
              · skip
                refine r_sub C [0, 1, 2, 3, 4, 5, 6] (show _ = [(0, .ref (ad 110)), (1, .int p1), (2, .int (r2 + 2)), (3, .int s0_90), (4, .int ((m4.1 112 j5) + 1)), (5, .int x5_126), (6, .ref (ad 139))] from rfl) ?_
                exact he303_126 x5_126 m126_ h
              · skip
                refine r_aload C dX10_commit_133 6 rfl ?_
                refine r_iload C dX10_commit_135 7 rfl ?_
                refine r_aload_n C dX10_commit_137 rfl 0 rfl ?_
                refine r_getr C (ci := 10) (k9 := 33) dX10_commit_138 rfl F_i10 (by decide) F_k84 (by omega) la_110 rfl ?_
                refine r_iload C dX10_commit_141 7 rfl ?_
                refine r_zald C dX10_commit_143 (by omega) la_135 h (fun j37 hj37 h => ?_)
                refine s_join h (fun k158 => ∀ (s0_158 : Int32), k158 s0_158 = some res → V 0 158 [(0, .ref (ad 110)), (1, .int p1), (2, .int (r2 + 2)), (3, .int s0_90), (4, .int ((m4.1 112 j5) + 1)), (5, .int x5_126), (6, .ref (ad 139)), (7, .int x7_126)] [.int s0_158, .int x7_126, .ref (ad 139)] m126_) ?_ (fun k158 hk158 h => ?_)
                · intro s0_158 h
                  refine r_iast C dX10_commit_158 (by omega) la_139 h (fun j38 m39 hj38 _ h => ?_)
                  refine r_aload_n C dX10_commit_159 rfl 0 rfl ?_
                  refine r_iload C dX10_commit_160 7 rfl ?_
                  refine r_callV C (c_X10_isNewPage 30 (by omega) x7_126) (As := [.int x7_126]) (nn := 1) (stk := [.int x7_126, .ref (ad 110)]) (ci := 10) dX10_commit_162 gX10_commit_X10_isNewPage ⟨rfl, by decide, by decide, by decide +kernel⟩ (by omega) la_110 rfl rfl rfl (by decide) rfl rfl (Nat.le_of_ble_eq_true rfl) (by decide) h (fun r40 m41 h => ?_)
                  show V 0 165 [(0, .ref (ad 110)), (1, .int p1), (2, .int (r2 + 2)), (3, .int s0_90), (4, .int ((m4.1 112 j5) + 1)), (5, .int x5_126), (6, .ref (ad 139)), (7, .int x7_126)] [.int r40] m41
                  refine s_join h (fun k297 => ∀ (x5_297 : Int32) (m297_ : sM), k297 x5_297 m297_ = some res → V 0 297 [(0, .ref (ad 110)), (1, .int p1), (2, .int (r2 + 2)), (3, .int s0_90), (4, .int ((m4.1 112 j5) + 1)), (5, .int x5_297), (6, .ref (ad 139)), (7, .int x7_126)] [] m297_) ?_ (fun k297 hk297 h => ?_)
                  · intro x5_297 m297_ h
                    refine r_iinc C (v := x7_126 + 1) dX10_commit_297 7 rfl rfl (by decide) (show _ = [(7, .int (x7_126 + 1)), (0, .ref (ad 110)), (1, .int p1), (2, .int (r2 + 2)), (3, .int s0_90), (4, .int ((m4.1 112 j5) + 1)), (5, .int x5_297), (6, .ref (ad 139))] from rfl) ?_
                    refine r_goto C (tgt := 126) dX10_commit_300 (by decide) ?_
                    refine r_sub C [1, 2, 3, 4, 5, 6, 7, 0] (show _ = [(0, .ref (ad 110)), (1, .int p1), (2, .int (r2 + 2)), (3, .int s0_90), (4, .int ((m4.1 112 j5) + 1)), (5, .int x5_297), (6, .ref (ad 139)), (7, .int (x7_126 + 1))] from rfl) ?_
                    exact ih x5_297 (x7_126 + 1) m297_ h
                  refine r_if_eq C (tgt := 297) dX10_commit_165 (by decide) h (fun _ h => ?_) (fun _ h => ?_)
                  · skip
                    exact hk297 x5_126 m41 h
                  · skip
                    refine s_join h (fun e183_168 => ∀ (x5_183 : Int32) (m183_ : sM), e183_168 x5_183 m183_ = some res → V 0 183 [(0, .ref (ad 110)), (1, .int p1), (2, .int (r2 + 2)), (3, .int s0_90), (4, .int ((m4.1 112 j5) + 1)), (5, .int x5_183), (6, .ref (ad 139)), (7, .int x7_126)] [] m183_) ?_ (fun e183_168 he183_168 h => ?_)
                    · intro x5_183 m183_ h
                      refine r_aload C dX10_commit_183 6 rfl ?_
                      refine r_iload C dX10_commit_185 7 rfl ?_
                      refine r_iload C dX10_commit_187 5 rfl ?_
                      refine r_iast C dX10_commit_189 (by omega) la_139 h (fun j42 m43 hj42 _ h => ?_)
                      refine r_aload_n C dX10_commit_190 rfl 0 rfl ?_
                      refine r_iconst C (v := 3) dX10_commit_191 (by decide) ?_
                      refine r_iload C dX10_commit_192 4 rfl ?_
                      refine r_callV C (c_X10_clearDraft 30 (by omega) 3 ((m4.1 112 j5) + 1)) (As := [.int 3, .int ((m4.1 112 j5) + 1)]) (nn := 2) (stk := [.int ((m4.1 112 j5) + 1), .int 3, .ref (ad 110)]) (ci := 10) dX10_commit_194 gX10_commit_X10_clearDraft ⟨rfl, by decide, by decide, by decide +kernel⟩ (by omega) la_110 rfl rfl rfl (by decide) rfl rfl (Nat.le_of_ble_eq_true rfl) (by decide) h (fun r44 m45 h => ?_)
                      show V 0 197 [(0, .ref (ad 110)), (1, .int p1), (2, .int (r2 + 2)), (3, .int s0_90), (4, .int ((m4.1 112 j5) + 1)), (5, .int x5_183), (6, .ref (ad 139)), (7, .int x7_126)] [] m45
                      refine r_aload_n C dX10_commit_197 rfl 0 rfl ?_
                      refine r_getr C (ci := 10) (k9 := 36) dX10_commit_198 rfl F_i10 (by decide) F_k93 (by omega) la_110 rfl ?_
                      refine r_iconst C (v := 2) dX10_commit_201 (by decide) ?_
                      refine r_iload C dX10_commit_202 7 rfl ?_
                      refine r_iast C dX10_commit_204 (by omega) la_138 h (fun j46 m47 hj46 _ h => ?_)
                      refine r_iconst C (v := 0) dX10_commit_205 (by decide) ?_
                      refine r_istore C dX10_commit_206 (by decide) (show _ = [(8, .int 0), (0, .ref (ad 110)), (1, .int p1), (2, .int (r2 + 2)), (3, .int s0_90), (4, .int ((m4.1 112 j5) + 1)), (5, .int x5_183), (6, .ref (ad 139)), (7, .int x7_126)] from rfl) ?_
                      refine s_join h (fun e288_208 => ∀ (m288_ : sM), e288_208 m288_ = some res → V 0 288 [(0, .ref (ad 110)), (1, .int p1), (2, .int (r2 + 2)), (3, .int s0_90), (4, .int ((m4.1 112 j5) + 1)), (5, .int x5_183), (6, .ref (ad 139)), (7, .int x7_126)] [] m288_) ?_ (fun e288_208 he288_208 h => ?_)
                      · intro m288_ h
                        refine r_aload_n C dX10_commit_288 rfl 0 rfl ?_
                        refine r_iload C dX10_commit_289 5 rfl ?_
                        refine r_callV C (c_X10_write 30 (by omega) x5_183) (As := [.int x5_183]) (nn := 1) (stk := [.int x5_183, .ref (ad 110)]) (ci := 10) dX10_commit_291 gX10_commit_X10_write ⟨rfl, by decide, by decide, by decide +kernel⟩ (by omega) la_110 rfl rfl rfl (by decide) rfl rfl (Nat.le_of_ble_eq_true rfl) (by decide) h (fun r48 m49 h => ?_)
                        show V 0 294 [(0, .ref (ad 110)), (1, .int p1), (2, .int (r2 + 2)), (3, .int s0_90), (4, .int ((m4.1 112 j5) + 1)), (5, .int x5_183), (6, .ref (ad 139)), (7, .int x7_126)] [] m49
                        refine r_iinc C (v := x5_183 + 1) dX10_commit_294 5 rfl rfl (by decide) (show _ = [(5, .int (x5_183 + 1)), (0, .ref (ad 110)), (1, .int p1), (2, .int (r2 + 2)), (3, .int s0_90), (4, .int ((m4.1 112 j5) + 1)), (6, .ref (ad 139)), (7, .int x7_126)] from rfl) ?_
                        refine r_sub C [1, 2, 3, 4, 5, 0, 6, 7] (show _ = [(0, .ref (ad 110)), (1, .int p1), (2, .int (r2 + 2)), (3, .int s0_90), (4, .int ((m4.1 112 j5) + 1)), (5, .int (x5_183 + 1)), (6, .ref (ad 139)), (7, .int x7_126)] from rfl) ?_
                        exact hk297 (x5_183 + 1) m49 h
                      have L208 : ∀ (n : Nat) (x8_208 : Int32) (m208_ : sM), f_X10_commit_L208 p1 (r2 + 2) s0_90 ((m4.1 112 j5) + 1) x5_183 x7_126 e288_208 n x8_208 m208_ = some res → V 0 208 [(0, .ref (ad 110)), (1, .int p1), (2, .int (r2 + 2)), (3, .int s0_90), (4, .int ((m4.1 112 j5) + 1)), (5, .int x5_183), (6, .ref (ad 139)), (7, .int x7_126), (8, .int x8_208)] [] m208_ := by
                        intro n
                        induction n with
                        | zero => intro x8_208 m208_ h; rw [f_X10_commit_L208] at h; cases h
                        | succ n ih =>
                          intro x8_208 m208_ h
                          rw [f_X10_commit_L208] at h
                          refine r_iload C dX10_commit_208 8 rfl ?_
                          refine r_bipush C (v := 8) dX10_commit_210 (by decide) ?_
                          refine r_icmp_ge C (tgt := 288) dX10_commit_212 (by decide) h (fun _ h => ?_) (fun _ h => ?_)
                          · skip
                            refine r_sub C [0, 1, 2, 3, 4, 5, 6, 7] (show _ = [(0, .ref (ad 110)), (1, .int p1), (2, .int (r2 + 2)), (3, .int s0_90), (4, .int ((m4.1 112 j5) + 1)), (5, .int x5_183), (6, .ref (ad 139)), (7, .int x7_126)] from rfl) ?_
                            exact he288_208 m208_ h
                          · skip
                            refine r_iload C dX10_commit_215 7 rfl ?_
                            refine r_bipush C (v := 8) dX10_commit_217 (by decide) ?_
                            refine r_iload C dX10_commit_219 8 rfl ?_
                            refine r_imul C dX10_commit_221 ?_
                            refine r_iadd C dX10_commit_222 ?_
                            refine r_istore C dX10_commit_223 (by decide) (show _ = [(9, .int (x7_126 + (8 * x8_208))), (0, .ref (ad 110)), (1, .int p1), (2, .int (r2 + 2)), (3, .int s0_90), (4, .int ((m4.1 112 j5) + 1)), (5, .int x5_183), (6, .ref (ad 139)), (7, .int x7_126), (8, .int x8_208)] from rfl) ?_
                            refine r_aload_n C dX10_commit_225 rfl 1 rfl ?_
                            refine r_getr C (ci := 10) (k9 := 36) dX10_commit_226 rfl F_i10 (by decide) F_k93 (by omega) la_110 rfl ?_
                            refine r_iconst C (v := 3) dX10_commit_229 (by decide) ?_
                            refine r_dup2 C dX10_commit_230 rfl rfl ?_
                            refine r_iald C dX10_commit_231 (by omega) la_138 h (fun j50 hj50 h => ?_)
                            refine r_aload_n C dX10_commit_232 rfl 1 rfl ?_
                            refine r_getr C (ci := 10) (k9 := 34) dX10_commit_233 rfl F_i10 (by decide) F_k87 (by omega) la_110 rfl ?_
                            refine r_iload C dX10_commit_236 0 rfl ?_
                            refine r_zald C dX10_commit_238 (by omega) la_136 h (fun j51 hj51 h => ?_)
                            refine s_join h (fun k250 => ∀ (s0_250 : Int32), k250 s0_250 = some res → V 0 250 [(0, .ref (ad 110)), (1, .int p1), (2, .int (r2 + 2)), (3, .int s0_90), (4, .int ((m4.1 112 j5) + 1)), (5, .int x5_183), (6, .ref (ad 139)), (7, .int x7_126), (8, .int x8_208), (9, .int (x7_126 + (8 * x8_208)))] [.int s0_250, .int (m208_.1 138 j50), .int 3, .ref (ad 138)] m208_) ?_ (fun k250 hk250 h => ?_)
                            · intro s0_250 h
                              refine r_ior C dX10_commit_250 ?_
                              refine r_iast C dX10_commit_251 (by omega) la_138 h (fun j52 m53 hj52 _ h => ?_)
                              refine r_aload_n C dX10_commit_252 rfl 0 rfl ?_
                              refine r_getr C (ci := 10) (k9 := 36) dX10_commit_253 rfl F_i10 (by decide) F_k93 (by omega) la_110 rfl ?_
                              refine r_iconst C (v := 4) dX10_commit_256 (by decide) ?_
                              refine r_iload C dX10_commit_257 8 rfl ?_
                              refine r_iadd C dX10_commit_259 ?_
                              refine r_aload_n C dX10_commit_260 rfl 0 rfl ?_
                              refine r_getr C (ci := 10) (k9 := 34) dX10_commit_261 rfl F_i10 (by decide) F_k87 (by omega) la_110 rfl ?_
                              refine r_iload C dX10_commit_264 9 rfl ?_
                              refine r_zald C dX10_commit_266 (by omega) la_136 h (fun j54 hj54 h => ?_)
                              refine s_join h (fun k281 => ∀ (s0_281 : Int32), k281 s0_281 = some res → V 0 281 [(0, .ref (ad 110)), (1, .int p1), (2, .int (r2 + 2)), (3, .int s0_90), (4, .int ((m4.1 112 j5) + 1)), (5, .int x5_183), (6, .ref (ad 139)), (7, .int x7_126), (8, .int x8_208)] [.int s0_281, .int (4 + x8_208), .ref (ad 138)] m53) ?_ (fun k281 hk281 h => ?_)
                              · intro s0_281 h
                                refine r_iast C dX10_commit_281 (by omega) la_138 h (fun j55 m56 hj55 _ h => ?_)
                                refine r_iinc C (v := x8_208 + 1) dX10_commit_282 8 rfl rfl (by decide) (show _ = [(8, .int (x8_208 + 1)), (0, .ref (ad 110)), (1, .int p1), (2, .int (r2 + 2)), (3, .int s0_90), (4, .int ((m4.1 112 j5) + 1)), (5, .int x5_183), (6, .ref (ad 139)), (7, .int x7_126)] from rfl) ?_
                                refine r_goto C (tgt := 208) dX10_commit_285 (by decide) ?_
                                refine r_sub C [1, 2, 3, 4, 5, 6, 7, 8, 0] (show _ = [(0, .ref (ad 110)), (1, .int p1), (2, .int (r2 + 2)), (3, .int s0_90), (4, .int ((m4.1 112 j5) + 1)), (5, .int x5_183), (6, .ref (ad 139)), (7, .int x7_126), (8, .int (x8_208 + 1))] from rfl) ?_
                                exact ih (x8_208 + 1) m56 h
                              refine r_if_eq C (tgt := 280) dX10_commit_267 (by decide) h (fun _ h => ?_) (fun _ h => ?_)
                              · skip
                                refine r_iconst C (v := 0) dX10_commit_280 (by decide) ?_
                                refine r_sub C [0, 1, 2, 3, 4, 5, 6, 7, 8] (show _ = [(0, .ref (ad 110)), (1, .int p1), (2, .int (r2 + 2)), (3, .int s0_90), (4, .int ((m4.1 112 j5) + 1)), (5, .int x5_183), (6, .ref (ad 139)), (7, .int x7_126), (8, .int x8_208)] from rfl) ?_
                                exact hk281 0 h
                              · skip
                                refine r_aload_n C dX10_commit_270 rfl 0 rfl ?_
                                refine r_getr C (ci := 10) (k9 := 35) dX10_commit_271 rfl F_i10 (by decide) F_k90 (by omega) la_110 rfl ?_
                                refine r_iload C dX10_commit_274 9 rfl ?_
                                refine r_iald C dX10_commit_276 (by omega) la_137 h (fun j57 hj57 h => ?_)
                                refine r_goto C (tgt := 281) dX10_commit_277 (by decide) ?_
                                refine r_sub C [0, 1, 2, 3, 4, 5, 6, 7, 8] (show _ = [(0, .ref (ad 110)), (1, .int p1), (2, .int (r2 + 2)), (3, .int s0_90), (4, .int ((m4.1 112 j5) + 1)), (5, .int x5_183), (6, .ref (ad 139)), (7, .int x7_126), (8, .int x8_208)] from rfl) ?_
                                exact hk281 (m53.1 137 j57) h
                            refine r_if_eq C (tgt := 249) dX10_commit_239 (by decide) h (fun _ h => ?_) (fun _ h => ?_)
                            · skip
                              refine r_iconst C (v := 0) dX10_commit_249 (by decide) ?_
                              refine r_sub C [1, 2, 3, 4, 5, 6, 7, 8, 9, 0] (show _ = [(0, .ref (ad 110)), (1, .int p1), (2, .int (r2 + 2)), (3, .int s0_90), (4, .int ((m4.1 112 j5) + 1)), (5, .int x5_183), (6, .ref (ad 139)), (7, .int x7_126), (8, .int x8_208), (9, .int (x7_126 + (8 * x8_208)))] from rfl) ?_
                              exact hk250 0 h
                            · skip
                              refine r_iconst C (v := 1) dX10_commit_242 (by decide) ?_
                              refine r_iload C dX10_commit_243 9 rfl ?_
                              refine r_ishl C dX10_commit_245 ?_
                              refine r_goto C (tgt := 250) dX10_commit_246 (by decide) ?_
                              refine r_sub C [1, 2, 3, 4, 5, 6, 7, 8, 9, 0] (show _ = [(0, .ref (ad 110)), (1, .int p1), (2, .int (r2 + 2)), (3, .int s0_90), (4, .int ((m4.1 112 j5) + 1)), (5, .int x5_183), (6, .ref (ad 139)), (7, .int x7_126), (8, .int x8_208), (9, .int (x7_126 + (8 * x8_208)))] from rfl) ?_
                              exact hk250 (1 <<< (x8_208 &&& 31)) h
                      refine r_sub C [1, 2, 3, 4, 5, 6, 7, 8, 0] (show _ = [(0, .ref (ad 110)), (1, .int p1), (2, .int (r2 + 2)), (3, .int s0_90), (4, .int ((m4.1 112 j5) + 1)), (5, .int x5_183), (6, .ref (ad 139)), (7, .int x7_126), (8, .int 0)] from rfl) ?_
                      exact L208 5000 0 m47 h
                    have L168 : ∀ (n : Nat) (x5_168 : Int32) (m168_ : sM), f_X10_commit_L168 p1 (r2 + 2) s0_90 ((m4.1 112 j5) + 1) x7_126 e183_168 n x5_168 m168_ = some res → V 0 168 [(0, .ref (ad 110)), (1, .int p1), (2, .int (r2 + 2)), (3, .int s0_90), (4, .int ((m4.1 112 j5) + 1)), (5, .int x5_168), (6, .ref (ad 139)), (7, .int x7_126)] [] m168_ := by
                      intro n
                      induction n with
                      | zero => intro x5_168 m168_ h; rw [f_X10_commit_L168] at h; cases h
                      | succ n ih =>
                        intro x5_168 m168_ h
                        rw [f_X10_commit_L168] at h
                        refine r_aload_n C dX10_commit_168 rfl 0 rfl ?_
                        refine r_iload C dX10_commit_169 5 rfl ?_
                        refine r_callV C (c_X10_isFree 30 (by omega) x5_168) (As := [.int x5_168]) (nn := 1) (stk := [.int x5_168, .ref (ad 110)]) (ci := 10) dX10_commit_171 gX10_commit_X10_isFree ⟨rfl, by decide, by decide, by decide +kernel⟩ (by omega) la_110 rfl rfl rfl (by decide) rfl rfl (Nat.le_of_ble_eq_true rfl) (by decide) h (fun r58 m59 h => ?_)
                        show V 0 174 [(0, .ref (ad 110)), (1, .int p1), (2, .int (r2 + 2)), (3, .int s0_90), (4, .int ((m4.1 112 j5) + 1)), (5, .int x5_168), (6, .ref (ad 139)), (7, .int x7_126)] [.int r58] m59
                        refine r_if_ne C (tgt := 183) dX10_commit_174 (by decide) h (fun _ h => ?_) (fun _ h => ?_)
                        · skip
                          refine r_iinc C (v := x5_168 + 1) dX10_commit_177 5 rfl rfl (by decide) (show _ = [(5, .int (x5_168 + 1)), (0, .ref (ad 110)), (1, .int p1), (2, .int (r2 + 2)), (3, .int s0_90), (4, .int ((m4.1 112 j5) + 1)), (6, .ref (ad 139)), (7, .int x7_126)] from rfl) ?_
                          refine r_goto C (tgt := 168) dX10_commit_180 (by decide) ?_
                          refine r_sub C [1, 2, 3, 4, 5, 0, 6, 7] (show _ = [(0, .ref (ad 110)), (1, .int p1), (2, .int (r2 + 2)), (3, .int s0_90), (4, .int ((m4.1 112 j5) + 1)), (5, .int (x5_168 + 1)), (6, .ref (ad 139)), (7, .int x7_126)] from rfl) ?_
                          exact ih (x5_168 + 1) m59 h
                        · skip
                          exact he183_168 x5_168 m59 h
                    exact L168 5000 x5_126 m41 h
                refine r_if_eq C (tgt := 151) dX10_commit_144 (by decide) h (fun _ h => ?_) (fun _ h => ?_)
                · skip
                  refine r_aload_n C dX10_commit_151 rfl 0 rfl ?_
                  refine r_getr C (ci := 10) (k9 := 6) dX10_commit_152 rfl F_i10 (by decide) F_k19 (by omega) la_110 rfl ?_
                  refine r_iload C dX10_commit_155 7 rfl ?_
                  refine r_iald C dX10_commit_157 (by omega) la_114 h (fun j60 hj60 h => ?_)
                  exact hk158 (m126_.1 114 j60) h
                · skip
                  refine r_iconst C (v := -1) dX10_commit_147 (by decide) ?_
                  refine r_goto C (tgt := 158) dX10_commit_148 (by decide) ?_
                  exact hk158 (-1) h
          refine r_sub C [4, 5, 6, 7, 3, 2, 1, 0] (show _ = [(0, .ref (ad 110)), (1, .int p1), (2, .int (r2 + 2)), (3, .int s0_90), (4, .int ((m4.1 112 j5) + 1)), (5, .int 2), (6, .ref (ad 139)), (7, .int 0)] from rfl) ?_
          exact L126 5000 2 0 m6 h
        refine r_if_eq C (tgt := 100) dX10_commit_93 (by decide) h (fun _ h => ?_) (fun _ h => ?_)
        · skip
          refine r_iload_n C dX10_commit_100 rfl 2 rfl ?_
          refine r_sub C [1, 2, 3, 0] (show _ = [(0, .ref (ad 110)), (1, .int p1), (2, .int (r2 + 2)), (3, .int s0_90)] from rfl) ?_
          exact hk101 p1 h
        · skip
          refine r_iload_n C dX10_commit_96 rfl 3 rfl ?_
          refine r_goto C (tgt := 101) dX10_commit_97 (by decide) ?_
          refine r_sub C [1, 2, 3, 0] (show _ = [(0, .ref (ad 110)), (1, .int p1), (2, .int (r2 + 2)), (3, .int s0_90)] from rfl) ?_
          exact hk101 (r2 + 2) h
      refine s_join h (fun k85 => k85  = some res → V 2 85 [(0, .ref (ad 110)), (1, .int p1), (2, .int (r2 + 2))] [] m3) ?_ (fun k85 hk85 h => ?_)
      · intro  h
        refine r_iconst C (v := 1) dX10_commit_85 (by decide) ?_
        refine r_goto C (tgt := 90) dX10_commit_86 (by decide) ?_
        exact hk90 1 h
      refine r_if_lt C (tgt := 85) dX10_commit_77 (by decide) h (fun _ h => ?_) (fun _ h => ?_)
      · skip
        refine r_sub C [1, 2, 0] (show _ = [(0, .ref (ad 110)), (1, .int p1), (2, .int (r2 + 2))] from rfl) ?_
        exact hk85 h
      · skip
        refine r_iload_n C dX10_commit_80 rfl 2 rfl ?_
        refine r_iload_n C dX10_commit_81 rfl 0 rfl ?_
        refine r_icmp_lt C (tgt := 89) dX10_commit_82 (by decide) h (fun _ h => ?_) (fun _ h => ?_)
        · skip
          refine r_iconst C (v := 0) dX10_commit_89 (by decide) ?_
          refine r_sub C [1, 2, 0] (show _ = [(0, .ref (ad 110)), (1, .int p1), (2, .int (r2 + 2))] from rfl) ?_
          exact hk90 0 h
        · skip
          refine r_sub C [1, 2, 0] (show _ = [(0, .ref (ad 110)), (1, .int p1), (2, .int (r2 + 2))] from rfl) ?_
          exact hk85 h
    · skip
      refine r_iconst C (v := 0) dX10_commit_67 (by decide) ?_
      exact r_iret C dX10_commit_68 rfl h
  refine r_icmp_ge C (tgt := 10) dX10_commit_3 (by decide) h (fun _ h => ?_) (fun _ h => ?_)
  · skip
    refine r_aload_n C dX10_commit_10 rfl 0 rfl ?_
    refine r_geti C (ci := 10) (k9 := 2) dX10_commit_11 rfl F_i10 (by decide) F_k116 (by omega) la_110 rfl ?_
    refine s_join h (fun k24 => k24  = some res → V 2 24 [(0, .ref (ad 110)), (1, .int p1)] [.ref (ad 110)] m) ?_ (fun k24 hk24 h => ?_)
    · intro  h
      refine r_iconst C (v := 2) dX10_commit_24 (by decide) ?_
      refine r_goto C (tgt := 57) dX10_commit_25 (by decide) ?_
      exact hk57 2 m h
    refine r_if_eq C (tgt := 24) dX10_commit_14 (by decide) h (fun _ h => ?_) (fun _ h => ?_)
    · skip
      exact hk24 h
    · skip
      refine r_aload_n C dX10_commit_17 rfl 0 rfl ?_
      refine r_geti C (ci := 10) (k9 := 19) dX10_commit_18 rfl F_i10 (by decide) F_k133 (by omega) la_110 rfl ?_
      refine r_if_ne C (tgt := 28) dX10_commit_21 (by decide) h (fun _ h => ?_) (fun _ h => ?_)
      · skip
        exact hk24 h
      · skip
        refine r_aload_n C dX10_commit_28 rfl 0 rfl ?_
        refine r_callV C (c_X10_pagesToWrite 29 (by omega)) (As := []) (nn := 0) (stk := [.ref (ad 110), .ref (ad 110)]) (ci := 10) dX10_commit_29 gX10_commit_X10_pagesToWrite ⟨rfl, by decide, by decide, by decide +kernel⟩ (by omega) la_110 rfl rfl rfl (by decide) rfl rfl (Nat.le_of_ble_eq_true rfl) (by decide) h (fun r61 m62 h => ?_)
        show V 2 32 [(0, .ref (ad 110)), (1, .int p1)] [.int r61, .ref (ad 110)] m62
        refine r_iconst C (v := 1) dX10_commit_32 (by decide) ?_
        refine r_iadd C dX10_commit_33 ?_
        refine r_aload_n C dX10_commit_34 rfl 0 rfl ?_
        refine r_callV C (c_X10_freeBlocks 29 (by omega)) (As := []) (nn := 0) (stk := [.ref (ad 110), .int (r61 + 1), .ref (ad 110)]) (ci := 10) dX10_commit_35 gX10_commit_X10_freeBlocks ⟨rfl, by decide, by decide, by decide +kernel⟩ (by omega) la_110 rfl rfl rfl (by decide) rfl rfl (Nat.le_of_ble_eq_true rfl) (by decide) h (fun r63 m64 h => ?_)
        show V 2 38 [(0, .ref (ad 110)), (1, .int p1)] [.int r63, .int (r61 + 1), .ref (ad 110)] m64
        refine s_join h (fun k52 => k52  = some res → V 2 52 [(0, .ref (ad 110)), (1, .int p1)] [.ref (ad 110)] m64) ?_ (fun k52 hk52 h => ?_)
        · intro  h
          refine r_iconst C (v := 3) dX10_commit_52 (by decide) ?_
          refine r_goto C (tgt := 57) dX10_commit_53 (by decide) ?_
          exact hk57 3 m64 h
        refine r_icmp_gt C (tgt := 52) dX10_commit_38 (by decide) h (fun _ h => ?_) (fun _ h => ?_)
        · skip
          exact hk52 h
        · skip
          refine r_aload_n C dX10_commit_41 rfl 0 rfl ?_
          refine r_getr C (ci := 10) (k9 := 4) dX10_commit_42 rfl F_i10 (by decide) F_k13 (by omega) la_110 rfl ?_
          refine r_iconst C (v := 0) dX10_commit_45 (by decide) ?_
          refine r_iald C dX10_commit_46 (by omega) la_112 h (fun j65 hj65 h => ?_)
          refine r_ldc C dX10_commit_47 F_w241 ?_
          refine r_icmp_ne C (tgt := 56) dX10_commit_49 (by decide) h (fun _ h => ?_) (fun _ h => ?_)
          · skip
            exact hk52 h
          · skip
            refine r_iconst C (v := 0) dX10_commit_56 (by decide) ?_
            exact hk57 0 m64 h
  · skip
    refine r_iconst C (v := 1) dX10_commit_6 (by decide) ?_
    refine r_goto C (tgt := 57) dX10_commit_7 (by decide) ?_
    exact hk57 1 m h
